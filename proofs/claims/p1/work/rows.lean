section
-- ===== PART A: goes FIRST, ahead of the names: the tables' words, and 'selects' of the private methods out of them =====
/-- a private method of a class that the tables say can be made, by its rows of tables_1 -/
def lw_okq (q : MethodName × Nat) : Prop := (q.1.cls ≠ "java/lang/invoke/MethodHandle" ∧ q.1.cls ≠ "java/lang/invoke/VarHandle") ∧ Cond.instantiable q.1.cls q.2 ∈ tables_1 ∧ Cond.privateMethod q.1 ∈ tables_1 ∧ Cond.instanceMethod q.1 ∈ tables_1
theorem lw_p0 : lw_okq (⟨"CakePapers", "putFour", "(I)V"⟩, 16) := ⟨⟨by decide +kernel, by decide +kernel⟩, List.mem_of_getElem? (i := 23) (by decide +kernel), List.mem_of_getElem? (i := 538) (by decide +kernel), List.mem_of_getElem? (i := 539) (by decide +kernel)⟩
theorem lw_p1 : lw_okq (⟨"CakePapers$Scanner", "readWord", "()V"⟩, 10) := ⟨⟨by decide +kernel, by decide +kernel⟩, List.mem_of_getElem? (i := 31) (by decide +kernel), List.mem_of_getElem? (i := 568) (by decide +kernel), List.mem_of_getElem? (i := 569) (by decide +kernel)⟩
theorem lw_p2 : lw_okq (⟨"CakePapers$Scanner", "readNumber", "()V"⟩, 10) := ⟨⟨by decide +kernel, by decide +kernel⟩, List.mem_of_getElem? (i := 31) (by decide +kernel), List.mem_of_getElem? (i := 575) (by decide +kernel), List.mem_of_getElem? (i := 576) (by decide +kernel)⟩
theorem lw_p3 : lw_okq (⟨"CakePapers$PaperReader", "readCall", "()Z"⟩, 4) := ⟨⟨by decide +kernel, by decide +kernel⟩, List.mem_of_getElem? (i := 128) (by decide +kernel), List.mem_of_getElem? (i := 639) (by decide +kernel), List.mem_of_getElem? (i := 640) (by decide +kernel)⟩
theorem lw_p4 : lw_okq (⟨"CakePapers$PaperReader", "findCall", "(J)I"⟩, 4) := ⟨⟨by decide +kernel, by decide +kernel⟩, List.mem_of_getElem? (i := 128) (by decide +kernel), List.mem_of_getElem? (i := 652) (by decide +kernel), List.mem_of_getElem? (i := 653) (by decide +kernel)⟩
theorem lw_p5 : lw_okq (⟨"CakePapers$PaperReader", "readMake", "(LCakePapers$Paper;)Z"⟩, 4) := ⟨⟨by decide +kernel, by decide +kernel⟩, List.mem_of_getElem? (i := 128) (by decide +kernel), List.mem_of_getElem? (i := 662) (by decide +kernel), List.mem_of_getElem? (i := 663) (by decide +kernel)⟩
theorem lw_p6 : lw_okq (⟨"CakePapers$PaperReader", "asCalled", "(J)J"⟩, 4) := ⟨⟨by decide +kernel, by decide +kernel⟩, List.mem_of_getElem? (i := 128) (by decide +kernel), List.mem_of_getElem? (i := 666) (by decide +kernel), List.mem_of_getElem? (i := 667) (by decide +kernel)⟩
theorem lw_p7 : lw_okq (⟨"CakePapers$PaperReader", "readNeeds", "(LCakePapers$Paper;I)Z"⟩, 4) := ⟨⟨by decide +kernel, by decide +kernel⟩, List.mem_of_getElem? (i := 128) (by decide +kernel), List.mem_of_getElem? (i := 674) (by decide +kernel), List.mem_of_getElem? (i := 675) (by decide +kernel)⟩
theorem lw_p8 : lw_okq (⟨"CakePapers$PaperReader", "readNumber", "()I"⟩, 4) := ⟨⟨by decide +kernel, by decide +kernel⟩, List.mem_of_getElem? (i := 128) (by decide +kernel), List.mem_of_getElem? (i := 682) (by decide +kernel), List.mem_of_getElem? (i := 683) (by decide +kernel)⟩
theorem lw_p9 : lw_okq (⟨"CakePapers$Paper", "linkNeeds", "(I)V"⟩, 14) := ⟨⟨by decide +kernel, by decide +kernel⟩, List.mem_of_getElem? (i := 234) (by decide +kernel), List.mem_of_getElem? (i := 690) (by decide +kernel), List.mem_of_getElem? (i := 691) (by decide +kernel)⟩
theorem lw_p10 : lw_okq (⟨"CakePapers", "keepSparePaper", "()I"⟩, 16) := ⟨⟨by decide +kernel, by decide +kernel⟩, List.mem_of_getElem? (i := 23) (by decide +kernel), List.mem_of_getElem? (i := 695) (by decide +kernel), List.mem_of_getElem? (i := 696) (by decide +kernel)⟩
theorem lw_p11 : lw_okq (⟨"CakePapers$WantReader", "readAny", "(I)Z"⟩, 2) := ⟨⟨by decide +kernel, by decide +kernel⟩, List.mem_of_getElem? (i := 147) (by decide +kernel), List.mem_of_getElem? (i := 713) (by decide +kernel), List.mem_of_getElem? (i := 714) (by decide +kernel)⟩
theorem lw_p12 : lw_okq (⟨"CakePapers$WantReader", "readBoth", "(I)Z"⟩, 2) := ⟨⟨by decide +kernel, by decide +kernel⟩, List.mem_of_getElem? (i := 147) (by decide +kernel), List.mem_of_getElem? (i := 717) (by decide +kernel), List.mem_of_getElem? (i := 718) (by decide +kernel)⟩
theorem lw_p13 : lw_okq (⟨"CakePapers$WantReader", "readOne", "(I)Z"⟩, 2) := ⟨⟨by decide +kernel, by decide +kernel⟩, List.mem_of_getElem? (i := 147) (by decide +kernel), List.mem_of_getElem? (i := 721) (by decide +kernel), List.mem_of_getElem? (i := 722) (by decide +kernel)⟩
theorem lw_p14 : lw_okq (⟨"CakePapers$WantReader", "readSum", "(I)Z"⟩, 2) := ⟨⟨by decide +kernel, by decide +kernel⟩, List.mem_of_getElem? (i := 147) (by decide +kernel), List.mem_of_getElem? (i := 731) (by decide +kernel), List.mem_of_getElem? (i := 732) (by decide +kernel)⟩
theorem lw_p15 : lw_okq (⟨"CakePapers$WantReader", "readTerm", "(I)Z"⟩, 2) := ⟨⟨by decide +kernel, by decide +kernel⟩, List.mem_of_getElem? (i := 147) (by decide +kernel), List.mem_of_getElem? (i := 735) (by decide +kernel), List.mem_of_getElem? (i := 736) (by decide +kernel)⟩
def lw_privs_1 : List (MethodName × Nat) := [(⟨"CakePapers", "putFour", "(I)V"⟩, 16), (⟨"CakePapers$Scanner", "readWord", "()V"⟩, 10), (⟨"CakePapers$Scanner", "readNumber", "()V"⟩, 10), (⟨"CakePapers$PaperReader", "readCall", "()Z"⟩, 4), (⟨"CakePapers$PaperReader", "findCall", "(J)I"⟩, 4), (⟨"CakePapers$PaperReader", "readMake", "(LCakePapers$Paper;)Z"⟩, 4), (⟨"CakePapers$PaperReader", "asCalled", "(J)J"⟩, 4), (⟨"CakePapers$PaperReader", "readNeeds", "(LCakePapers$Paper;I)Z"⟩, 4), (⟨"CakePapers$PaperReader", "readNumber", "()I"⟩, 4), (⟨"CakePapers$Paper", "linkNeeds", "(I)V"⟩, 14), (⟨"CakePapers", "keepSparePaper", "()I"⟩, 16), (⟨"CakePapers$WantReader", "readAny", "(I)Z"⟩, 2), (⟨"CakePapers$WantReader", "readBoth", "(I)Z"⟩, 2), (⟨"CakePapers$WantReader", "readOne", "(I)Z"⟩, 2), (⟨"CakePapers$WantReader", "readSum", "(I)Z"⟩, 2), (⟨"CakePapers$WantReader", "readTerm", "(I)Z"⟩, 2)]
theorem lw_r1 : ∀ q ∈ lw_privs_1, lw_okq q := List.forall_mem_cons.mpr ⟨lw_p0, List.forall_mem_cons.mpr ⟨lw_p1, List.forall_mem_cons.mpr ⟨lw_p2, List.forall_mem_cons.mpr ⟨lw_p3, List.forall_mem_cons.mpr ⟨lw_p4, List.forall_mem_cons.mpr ⟨lw_p5, List.forall_mem_cons.mpr ⟨lw_p6, List.forall_mem_cons.mpr ⟨lw_p7, List.forall_mem_cons.mpr ⟨lw_p8, List.forall_mem_cons.mpr ⟨lw_p9, List.forall_mem_cons.mpr ⟨lw_p10, List.forall_mem_cons.mpr ⟨lw_p11, List.forall_mem_cons.mpr ⟨lw_p12, List.forall_mem_cons.mpr ⟨lw_p13, List.forall_mem_cons.mpr ⟨lw_p14, List.forall_mem_cons.mpr ⟨lw_p15, fun _ h => absurd h List.not_mem_nil⟩⟩⟩⟩⟩⟩⟩⟩⟩⟩⟩⟩⟩⟩⟩⟩
theorem lw_p16 : lw_okq (⟨"CakePapers$WantReader", "readUnit", "(I)Z"⟩, 2) := ⟨⟨by decide +kernel, by decide +kernel⟩, List.mem_of_getElem? (i := 147) (by decide +kernel), List.mem_of_getElem? (i := 739) (by decide +kernel), List.mem_of_getElem? (i := 740) (by decide +kernel)⟩
theorem lw_p17 : lw_okq (⟨"CakePapers$Likeness", "needsMatch", "(II)Z"⟩, 6) := ⟨⟨by decide +kernel, by decide +kernel⟩, List.mem_of_getElem? (i := 357) (by decide +kernel), List.mem_of_getElem? (i := 801) (by decide +kernel), List.mem_of_getElem? (i := 802) (by decide +kernel)⟩
theorem lw_p18 : lw_okq (⟨"CakePapers$Likeness", "forgetUsed", "()V"⟩, 6) := ⟨⟨by decide +kernel, by decide +kernel⟩, List.mem_of_getElem? (i := 357) (by decide +kernel), List.mem_of_getElem? (i := 805) (by decide +kernel), List.mem_of_getElem? (i := 806) (by decide +kernel)⟩
theorem lw_p19 : lw_okq (⟨"CakePapers$Likeness", "needsAlike", "(II)Z"⟩, 6) := ⟨⟨by decide +kernel, by decide +kernel⟩, List.mem_of_getElem? (i := 357) (by decide +kernel), List.mem_of_getElem? (i := 809) (by decide +kernel), List.mem_of_getElem? (i := 810) (by decide +kernel)⟩
theorem lw_p20 : lw_okq (⟨"CakePapers$Likeness", "freeEndLike", "(I)I"⟩, 6) := ⟨⟨by decide +kernel, by decide +kernel⟩, List.mem_of_getElem? (i := 357) (by decide +kernel), List.mem_of_getElem? (i := 813) (by decide +kernel), List.mem_of_getElem? (i := 814) (by decide +kernel)⟩
theorem lw_p21 : lw_okq (⟨"CakePapers", "listChanges", "(LCakePapers$Changes;II)Z"⟩, 16) := ⟨⟨by decide +kernel, by decide +kernel⟩, List.mem_of_getElem? (i := 23) (by decide +kernel), List.mem_of_getElem? (i := 830) (by decide +kernel), List.mem_of_getElem? (i := 831) (by decide +kernel)⟩
theorem lw_p22 : lw_okq (⟨"CakePapers$Changes", "add", "(II)V"⟩, 7) := ⟨⟨by decide +kernel, by decide +kernel⟩, List.mem_of_getElem? (i := 453) (by decide +kernel), List.mem_of_getElem? (i := 839) (by decide +kernel), List.mem_of_getElem? (i := 840) (by decide +kernel)⟩
theorem lw_p23 : lw_okq (⟨"CakePapers$Changes", "differBySlip", "(JJI)Z"⟩, 7) := ⟨⟨by decide +kernel, by decide +kernel⟩, List.mem_of_getElem? (i := 453) (by decide +kernel), List.mem_of_getElem? (i := 868) (by decide +kernel), List.mem_of_getElem? (i := 869) (by decide +kernel)⟩
theorem lw_p24 : lw_okq (⟨"CakePapers$Changes", "sameFrom", "(IIII)Z"⟩, 7) := ⟨⟨by decide +kernel, by decide +kernel⟩, List.mem_of_getElem? (i := 453) (by decide +kernel), List.mem_of_getElem? (i := 876) (by decide +kernel), List.mem_of_getElem? (i := 877) (by decide +kernel)⟩
theorem lw_p25 : lw_okq (⟨"CakePapers$Likeness", "weigh", "(LCakePapers$Paper;LCakePapers$Paper;)V"⟩, 6) := ⟨⟨by decide +kernel, by decide +kernel⟩, List.mem_of_getElem? (i := 357) (by decide +kernel), List.mem_of_getElem? (i := 888) (by decide +kernel), List.mem_of_getElem? (i := 889) (by decide +kernel)⟩
theorem lw_p26 : lw_okq (⟨"CakePapers", "doChosen", "()V"⟩, 16) := ⟨⟨by decide +kernel, by decide +kernel⟩, List.mem_of_getElem? (i := 23) (by decide +kernel), List.mem_of_getElem? (i := 907) (by decide +kernel), List.mem_of_getElem? (i := 908) (by decide +kernel)⟩
theorem lw_p27 : lw_okq (⟨"CakePapers$Draft", "takeNeeds", "(ILCakePapers$Paper;I)V"⟩, 4) := ⟨⟨by decide +kernel, by decide +kernel⟩, List.mem_of_getElem? (i := 382) (by decide +kernel), List.mem_of_getElem? (i := 930) (by decide +kernel), List.mem_of_getElem? (i := 931) (by decide +kernel)⟩
theorem lw_p28 : lw_okq (⟨"CakePapers$Draft", "firstReady", "()I"⟩, 4) := ⟨⟨by decide +kernel, by decide +kernel⟩, List.mem_of_getElem? (i := 382) (by decide +kernel), List.mem_of_getElem? (i := 956) (by decide +kernel), List.mem_of_getElem? (i := 957) (by decide +kernel)⟩
theorem lw_p29 : lw_okq (⟨"CakePapers$Draft", "isReady", "(I)Z"⟩, 4) := ⟨⟨by decide +kernel, by decide +kernel⟩, List.mem_of_getElem? (i := 382) (by decide +kernel), List.mem_of_getElem? (i := 960) (by decide +kernel), List.mem_of_getElem? (i := 961) (by decide +kernel)⟩
theorem lw_p30 : lw_okq (⟨"CakePapers$Joining", "addStep", "(J)V"⟩, 13) := ⟨⟨by decide +kernel, by decide +kernel⟩, List.mem_of_getElem? (i := 168) (by decide +kernel), List.mem_of_getElem? (i := 972) (by decide +kernel), List.mem_of_getElem? (i := 973) (by decide +kernel)⟩
theorem lw_p31 : lw_okq (⟨"CakePapers$Joining", "addQuarrels", "(I)V"⟩, 13) := ⟨⟨by decide +kernel, by decide +kernel⟩, List.mem_of_getElem? (i := 168) (by decide +kernel), List.mem_of_getElem? (i := 978) (by decide +kernel), List.mem_of_getElem? (i := 979) (by decide +kernel)⟩
def lw_privs_2 : List (MethodName × Nat) := [(⟨"CakePapers$WantReader", "readUnit", "(I)Z"⟩, 2), (⟨"CakePapers$Likeness", "needsMatch", "(II)Z"⟩, 6), (⟨"CakePapers$Likeness", "forgetUsed", "()V"⟩, 6), (⟨"CakePapers$Likeness", "needsAlike", "(II)Z"⟩, 6), (⟨"CakePapers$Likeness", "freeEndLike", "(I)I"⟩, 6), (⟨"CakePapers", "listChanges", "(LCakePapers$Changes;II)Z"⟩, 16), (⟨"CakePapers$Changes", "add", "(II)V"⟩, 7), (⟨"CakePapers$Changes", "differBySlip", "(JJI)Z"⟩, 7), (⟨"CakePapers$Changes", "sameFrom", "(IIII)Z"⟩, 7), (⟨"CakePapers$Likeness", "weigh", "(LCakePapers$Paper;LCakePapers$Paper;)V"⟩, 6), (⟨"CakePapers", "doChosen", "()V"⟩, 16), (⟨"CakePapers$Draft", "takeNeeds", "(ILCakePapers$Paper;I)V"⟩, 4), (⟨"CakePapers$Draft", "firstReady", "()I"⟩, 4), (⟨"CakePapers$Draft", "isReady", "(I)Z"⟩, 4), (⟨"CakePapers$Joining", "addStep", "(J)V"⟩, 13), (⟨"CakePapers$Joining", "addQuarrels", "(I)V"⟩, 13)]
theorem lw_r2 : ∀ q ∈ lw_privs_2, lw_okq q := List.forall_mem_cons.mpr ⟨lw_p16, List.forall_mem_cons.mpr ⟨lw_p17, List.forall_mem_cons.mpr ⟨lw_p18, List.forall_mem_cons.mpr ⟨lw_p19, List.forall_mem_cons.mpr ⟨lw_p20, List.forall_mem_cons.mpr ⟨lw_p21, List.forall_mem_cons.mpr ⟨lw_p22, List.forall_mem_cons.mpr ⟨lw_p23, List.forall_mem_cons.mpr ⟨lw_p24, List.forall_mem_cons.mpr ⟨lw_p25, List.forall_mem_cons.mpr ⟨lw_p26, List.forall_mem_cons.mpr ⟨lw_p27, List.forall_mem_cons.mpr ⟨lw_p28, List.forall_mem_cons.mpr ⟨lw_p29, List.forall_mem_cons.mpr ⟨lw_p30, List.forall_mem_cons.mpr ⟨lw_p31, fun _ h => absurd h List.not_mem_nil⟩⟩⟩⟩⟩⟩⟩⟩⟩⟩⟩⟩⟩⟩⟩⟩
theorem lw_p32 : lw_okq (⟨"CakePapers$Joining", "addQuarrel", "(I)V"⟩, 13) := ⟨⟨by decide +kernel, by decide +kernel⟩, List.mem_of_getElem? (i := 168) (by decide +kernel), List.mem_of_getElem? (i := 982) (by decide +kernel), List.mem_of_getElem? (i := 983) (by decide +kernel)⟩
theorem lw_p33 : lw_okq (⟨"CakePapers$Joiner", "clearRow", "()V"⟩, 11) := ⟨⟨by decide +kernel, by decide +kernel⟩, List.mem_of_getElem? (i := 406) (by decide +kernel), List.mem_of_getElem? (i := 998) (by decide +kernel), List.mem_of_getElem? (i := 999) (by decide +kernel)⟩
theorem lw_p34 : lw_okq (⟨"CakePapers$Joining", "drawShared", "(LCakePapers$Draft;I[I)V"⟩, 13) := ⟨⟨by decide +kernel, by decide +kernel⟩, List.mem_of_getElem? (i := 168) (by decide +kernel), List.mem_of_getElem? (i := 1011) (by decide +kernel), List.mem_of_getElem? (i := 1012) (by decide +kernel)⟩
theorem lw_p35 : lw_okq (⟨"CakePapers$Joining", "sideOf", "(II[I)I"⟩, 13) := ⟨⟨by decide +kernel, by decide +kernel⟩, List.mem_of_getElem? (i := 168) (by decide +kernel), List.mem_of_getElem? (i := 1016) (by decide +kernel), List.mem_of_getElem? (i := 1017) (by decide +kernel)⟩
theorem lw_p36 : lw_okq (⟨"CakePapers$Joining", "changingSide", "(II)I"⟩, 13) := ⟨⟨by decide +kernel, by decide +kernel⟩, List.mem_of_getElem? (i := 168) (by decide +kernel), List.mem_of_getElem? (i := 1020) (by decide +kernel), List.mem_of_getElem? (i := 1021) (by decide +kernel)⟩
theorem lw_p37 : lw_okq (⟨"CakePapers$Joining", "drawContested", "(LCakePapers$Draft;II)V"⟩, 13) := ⟨⟨by decide +kernel, by decide +kernel⟩, List.mem_of_getElem? (i := 168) (by decide +kernel), List.mem_of_getElem? (i := 1025) (by decide +kernel), List.mem_of_getElem? (i := 1026) (by decide +kernel)⟩
theorem lw_p38 : lw_okq (⟨"CakePapers$Joiner", "setRow", "(II)V"⟩, 11) := ⟨⟨by decide +kernel, by decide +kernel⟩, List.mem_of_getElem? (i := 406) (by decide +kernel), List.mem_of_getElem? (i := 1062) (by decide +kernel), List.mem_of_getElem? (i := 1063) (by decide +kernel)⟩
theorem lw_p39 : lw_okq (⟨"CakePapers$Joiner", "considerRow", "(II)V"⟩, 11) := ⟨⟨by decide +kernel, by decide +kernel⟩, List.mem_of_getElem? (i := 406) (by decide +kernel), List.mem_of_getElem? (i := 1067) (by decide +kernel), List.mem_of_getElem? (i := 1068) (by decide +kernel)⟩
theorem lw_p40 : lw_okq (⟨"CakePapers", "isGoodAlone", "(LCakePapers$Changes;I)Z"⟩, 16) := ⟨⟨by decide +kernel, by decide +kernel⟩, List.mem_of_getElem? (i := 23) (by decide +kernel), List.mem_of_getElem? (i := 1091) (by decide +kernel), List.mem_of_getElem? (i := 1092) (by decide +kernel)⟩
theorem lw_p41 : lw_okq (⟨"CakePapers", "ruinTogether", "(II)Z"⟩, 16) := ⟨⟨by decide +kernel, by decide +kernel⟩, List.mem_of_getElem? (i := 23) (by decide +kernel), List.mem_of_getElem? (i := 1095) (by decide +kernel), List.mem_of_getElem? (i := 1096) (by decide +kernel)⟩
theorem lw_p42 : lw_okq (⟨"CakePapers$Joiner", "joinCleanly", "(LCakePapers$Paper;LCakePapers$Paper;LCakePapers$Paper;LCakePapers$Paper;)Z"⟩, 11) := ⟨⟨by decide +kernel, by decide +kernel⟩, List.mem_of_getElem? (i := 406) (by decide +kernel), List.mem_of_getElem? (i := 1107) (by decide +kernel), List.mem_of_getElem? (i := 1108) (by decide +kernel)⟩
theorem lw_p43 : lw_okq (⟨"CakePapers$Joiner", "holds", "(ZZ)Z"⟩, 11) := ⟨⟨by decide +kernel, by decide +kernel⟩, List.mem_of_getElem? (i := 406) (by decide +kernel), List.mem_of_getElem? (i := 1116) (by decide +kernel), List.mem_of_getElem? (i := 1117) (by decide +kernel)⟩
theorem lw_p44 : lw_okq (⟨"CakePapers", "changeToBlame", "()I"⟩, 16) := ⟨⟨by decide +kernel, by decide +kernel⟩, List.mem_of_getElem? (i := 23) (by decide +kernel), List.mem_of_getElem? (i := 1137) (by decide +kernel), List.mem_of_getElem? (i := 1138) (by decide +kernel)⟩
theorem lw_p45 : lw_okq (⟨"CakePapersModel", "takeTape", "()V"⟩, 80) := ⟨⟨by decide +kernel, by decide +kernel⟩, List.mem_of_getElem? (i := 1196) (by decide +kernel), List.mem_of_getElem? (i := 1447) (by decide +kernel), List.mem_of_getElem? (i := 1448) (by decide +kernel)⟩
theorem lw_p46 : lw_okq (⟨"CakePapersModel", "goOn", "()V"⟩, 80) := ⟨⟨by decide +kernel, by decide +kernel⟩, List.mem_of_getElem? (i := 1196) (by decide +kernel), List.mem_of_getElem? (i := 1451) (by decide +kernel), List.mem_of_getElem? (i := 1452) (by decide +kernel)⟩
theorem lw_p47 : lw_okq (⟨"CakePapersModel", "sign", "(I)I"⟩, 80) := ⟨⟨by decide +kernel, by decide +kernel⟩, List.mem_of_getElem? (i := 1196) (by decide +kernel), List.mem_of_getElem? (i := 1455) (by decide +kernel), List.mem_of_getElem? (i := 1456) (by decide +kernel)⟩
def lw_privs_3 : List (MethodName × Nat) := [(⟨"CakePapers$Joining", "addQuarrel", "(I)V"⟩, 13), (⟨"CakePapers$Joiner", "clearRow", "()V"⟩, 11), (⟨"CakePapers$Joining", "drawShared", "(LCakePapers$Draft;I[I)V"⟩, 13), (⟨"CakePapers$Joining", "sideOf", "(II[I)I"⟩, 13), (⟨"CakePapers$Joining", "changingSide", "(II)I"⟩, 13), (⟨"CakePapers$Joining", "drawContested", "(LCakePapers$Draft;II)V"⟩, 13), (⟨"CakePapers$Joiner", "setRow", "(II)V"⟩, 11), (⟨"CakePapers$Joiner", "considerRow", "(II)V"⟩, 11), (⟨"CakePapers", "isGoodAlone", "(LCakePapers$Changes;I)Z"⟩, 16), (⟨"CakePapers", "ruinTogether", "(II)Z"⟩, 16), (⟨"CakePapers$Joiner", "joinCleanly", "(LCakePapers$Paper;LCakePapers$Paper;LCakePapers$Paper;LCakePapers$Paper;)Z"⟩, 11), (⟨"CakePapers$Joiner", "holds", "(ZZ)Z"⟩, 11), (⟨"CakePapers", "changeToBlame", "()I"⟩, 16), (⟨"CakePapersModel", "takeTape", "()V"⟩, 80), (⟨"CakePapersModel", "goOn", "()V"⟩, 80), (⟨"CakePapersModel", "sign", "(I)I"⟩, 80)]
theorem lw_r3 : ∀ q ∈ lw_privs_3, lw_okq q := List.forall_mem_cons.mpr ⟨lw_p32, List.forall_mem_cons.mpr ⟨lw_p33, List.forall_mem_cons.mpr ⟨lw_p34, List.forall_mem_cons.mpr ⟨lw_p35, List.forall_mem_cons.mpr ⟨lw_p36, List.forall_mem_cons.mpr ⟨lw_p37, List.forall_mem_cons.mpr ⟨lw_p38, List.forall_mem_cons.mpr ⟨lw_p39, List.forall_mem_cons.mpr ⟨lw_p40, List.forall_mem_cons.mpr ⟨lw_p41, List.forall_mem_cons.mpr ⟨lw_p42, List.forall_mem_cons.mpr ⟨lw_p43, List.forall_mem_cons.mpr ⟨lw_p44, List.forall_mem_cons.mpr ⟨lw_p45, List.forall_mem_cons.mpr ⟨lw_p46, List.forall_mem_cons.mpr ⟨lw_p47, fun _ h => absurd h List.not_mem_nil⟩⟩⟩⟩⟩⟩⟩⟩⟩⟩⟩⟩⟩⟩⟩⟩
theorem lw_p48 : lw_okq (⟨"CakePapersModel", "isGood", "()Z"⟩, 80) := ⟨⟨by decide +kernel, by decide +kernel⟩, List.mem_of_getElem? (i := 1196) (by decide +kernel), List.mem_of_getElem? (i := 1485) (by decide +kernel), List.mem_of_getElem? (i := 1486) (by decide +kernel)⟩
theorem lw_p49 : lw_okq (⟨"CakePapersModel", "readLine", "()V"⟩, 80) := ⟨⟨by decide +kernel, by decide +kernel⟩, List.mem_of_getElem? (i := 1196) (by decide +kernel), List.mem_of_getElem? (i := 1489) (by decide +kernel), List.mem_of_getElem? (i := 1490) (by decide +kernel)⟩
theorem lw_p50 : lw_okq (⟨"CakePapersModel", "isWord", "(J)Z"⟩, 80) := ⟨⟨by decide +kernel, by decide +kernel⟩, List.mem_of_getElem? (i := 1196) (by decide +kernel), List.mem_of_getElem? (i := 1493) (by decide +kernel), List.mem_of_getElem? (i := 1494) (by decide +kernel)⟩
theorem lw_p51 : lw_okq (⟨"CakePapersModel", "misplaced", "()V"⟩, 80) := ⟨⟨by decide +kernel, by decide +kernel⟩, List.mem_of_getElem? (i := 1196) (by decide +kernel), List.mem_of_getElem? (i := 1497) (by decide +kernel), List.mem_of_getElem? (i := 1498) (by decide +kernel)⟩
theorem lw_p52 : lw_okq (⟨"CakePapersModel", "fails", "(II)V"⟩, 80) := ⟨⟨by decide +kernel, by decide +kernel⟩, List.mem_of_getElem? (i := 1196) (by decide +kernel), List.mem_of_getElem? (i := 1501) (by decide +kernel), List.mem_of_getElem? (i := 1502) (by decide +kernel)⟩
theorem lw_p53 : lw_okq (⟨"CakePapersModel", "readCall", "()V"⟩, 80) := ⟨⟨by decide +kernel, by decide +kernel⟩, List.mem_of_getElem? (i := 1196) (by decide +kernel), List.mem_of_getElem? (i := 1505) (by decide +kernel), List.mem_of_getElem? (i := 1506) (by decide +kernel)⟩
theorem lw_p54 : lw_okq (⟨"CakePapersModel", "must", "(Z)V"⟩, 80) := ⟨⟨by decide +kernel, by decide +kernel⟩, List.mem_of_getElem? (i := 1196) (by decide +kernel), List.mem_of_getElem? (i := 1509) (by decide +kernel), List.mem_of_getElem? (i := 1510) (by decide +kernel)⟩
theorem lw_p55 : lw_okq (⟨"CakePapersModel", "readMake", "()V"⟩, 80) := ⟨⟨by decide +kernel, by decide +kernel⟩, List.mem_of_getElem? (i := 1196) (by decide +kernel), List.mem_of_getElem? (i := 1513) (by decide +kernel), List.mem_of_getElem? (i := 1514) (by decide +kernel)⟩
theorem lw_p56 : lw_okq (⟨"CakePapersModel", "asCalled", "()J"⟩, 80) := ⟨⟨by decide +kernel, by decide +kernel⟩, List.mem_of_getElem? (i := 1196) (by decide +kernel), List.mem_of_getElem? (i := 1520) (by decide +kernel), List.mem_of_getElem? (i := 1521) (by decide +kernel)⟩
theorem lw_p57 : lw_okq (⟨"CakePapersModel", "whoMakes", "(IJI)I"⟩, 80) := ⟨⟨by decide +kernel, by decide +kernel⟩, List.mem_of_getElem? (i := 1196) (by decide +kernel), List.mem_of_getElem? (i := 1524) (by decide +kernel), List.mem_of_getElem? (i := 1525) (by decide +kernel)⟩
theorem lw_p58 : lw_okq (⟨"CakePapersModel", "readNeed", "(I)V"⟩, 80) := ⟨⟨by decide +kernel, by decide +kernel⟩, List.mem_of_getElem? (i := 1196) (by decide +kernel), List.mem_of_getElem? (i := 1528) (by decide +kernel), List.mem_of_getElem? (i := 1529) (by decide +kernel)⟩
theorem lw_p59 : lw_okq (⟨"CakePapersModel", "after", "(J)I"⟩, 80) := ⟨⟨by decide +kernel, by decide +kernel⟩, List.mem_of_getElem? (i := 1196) (by decide +kernel), List.mem_of_getElem? (i := 1532) (by decide +kernel), List.mem_of_getElem? (i := 1533) (by decide +kernel)⟩
theorem lw_p60 : lw_okq (⟨"CakePapersModel", "is", "(I)Z"⟩, 80) := ⟨⟨by decide +kernel, by decide +kernel⟩, List.mem_of_getElem? (i := 1196) (by decide +kernel), List.mem_of_getElem? (i := 1536) (by decide +kernel), List.mem_of_getElem? (i := 1537) (by decide +kernel)⟩
theorem lw_p61 : lw_okq (⟨"CakePapersModel", "copyPaper", "(II)V"⟩, 80) := ⟨⟨by decide +kernel, by decide +kernel⟩, List.mem_of_getElem? (i := 1196) (by decide +kernel), List.mem_of_getElem? (i := 1540) (by decide +kernel), List.mem_of_getElem? (i := 1541) (by decide +kernel)⟩
theorem lw_p62 : lw_okq (⟨"CakePapersModel", "copyStep", "(II)V"⟩, 80) := ⟨⟨by decide +kernel, by decide +kernel⟩, List.mem_of_getElem? (i := 1196) (by decide +kernel), List.mem_of_getElem? (i := 1544) (by decide +kernel), List.mem_of_getElem? (i := 1545) (by decide +kernel)⟩
theorem lw_p63 : lw_okq (⟨"CakePapersModel", "isPaper", "(I)Z"⟩, 80) := ⟨⟨by decide +kernel, by decide +kernel⟩, List.mem_of_getElem? (i := 1196) (by decide +kernel), List.mem_of_getElem? (i := 1556) (by decide +kernel), List.mem_of_getElem? (i := 1557) (by decide +kernel)⟩
def lw_privs_4 : List (MethodName × Nat) := [(⟨"CakePapersModel", "isGood", "()Z"⟩, 80), (⟨"CakePapersModel", "readLine", "()V"⟩, 80), (⟨"CakePapersModel", "isWord", "(J)Z"⟩, 80), (⟨"CakePapersModel", "misplaced", "()V"⟩, 80), (⟨"CakePapersModel", "fails", "(II)V"⟩, 80), (⟨"CakePapersModel", "readCall", "()V"⟩, 80), (⟨"CakePapersModel", "must", "(Z)V"⟩, 80), (⟨"CakePapersModel", "readMake", "()V"⟩, 80), (⟨"CakePapersModel", "asCalled", "()J"⟩, 80), (⟨"CakePapersModel", "whoMakes", "(IJI)I"⟩, 80), (⟨"CakePapersModel", "readNeed", "(I)V"⟩, 80), (⟨"CakePapersModel", "after", "(J)I"⟩, 80), (⟨"CakePapersModel", "is", "(I)Z"⟩, 80), (⟨"CakePapersModel", "copyPaper", "(II)V"⟩, 80), (⟨"CakePapersModel", "copyStep", "(II)V"⟩, 80), (⟨"CakePapersModel", "isPaper", "(I)Z"⟩, 80)]
theorem lw_r4 : ∀ q ∈ lw_privs_4, lw_okq q := List.forall_mem_cons.mpr ⟨lw_p48, List.forall_mem_cons.mpr ⟨lw_p49, List.forall_mem_cons.mpr ⟨lw_p50, List.forall_mem_cons.mpr ⟨lw_p51, List.forall_mem_cons.mpr ⟨lw_p52, List.forall_mem_cons.mpr ⟨lw_p53, List.forall_mem_cons.mpr ⟨lw_p54, List.forall_mem_cons.mpr ⟨lw_p55, List.forall_mem_cons.mpr ⟨lw_p56, List.forall_mem_cons.mpr ⟨lw_p57, List.forall_mem_cons.mpr ⟨lw_p58, List.forall_mem_cons.mpr ⟨lw_p59, List.forall_mem_cons.mpr ⟨lw_p60, List.forall_mem_cons.mpr ⟨lw_p61, List.forall_mem_cons.mpr ⟨lw_p62, List.forall_mem_cons.mpr ⟨lw_p63, fun _ h => absurd h List.not_mem_nil⟩⟩⟩⟩⟩⟩⟩⟩⟩⟩⟩⟩⟩⟩⟩⟩
theorem lw_p64 : lw_okq (⟨"CakePapersModel", "ends", "(I)I"⟩, 80) := ⟨⟨by decide +kernel, by decide +kernel⟩, List.mem_of_getElem? (i := 1196) (by decide +kernel), List.mem_of_getElem? (i := 1563) (by decide +kernel), List.mem_of_getElem? (i := 1564) (by decide +kernel)⟩
theorem lw_p65 : lw_okq (⟨"CakePapersModel", "isEnd", "(II)Z"⟩, 80) := ⟨⟨by decide +kernel, by decide +kernel⟩, List.mem_of_getElem? (i := 1196) (by decide +kernel), List.mem_of_getElem? (i := 1567) (by decide +kernel), List.mem_of_getElem? (i := 1568) (by decide +kernel)⟩
theorem lw_p66 : lw_okq (⟨"CakePapersModel", "maker", "(III)I"⟩, 80) := ⟨⟨by decide +kernel, by decide +kernel⟩, List.mem_of_getElem? (i := 1196) (by decide +kernel), List.mem_of_getElem? (i := 1571) (by decide +kernel), List.mem_of_getElem? (i := 1572) (by decide +kernel)⟩
theorem lw_p67 : lw_okq (⟨"CakePapersModel", "path", "(I)I"⟩, 80) := ⟨⟨by decide +kernel, by decide +kernel⟩, List.mem_of_getElem? (i := 1196) (by decide +kernel), List.mem_of_getElem? (i := 1575) (by decide +kernel), List.mem_of_getElem? (i := 1576) (by decide +kernel)⟩
theorem lw_p68 : lw_okq (⟨"CakePapersModel", "all", "(IZ)I"⟩, 80) := ⟨⟨by decide +kernel, by decide +kernel⟩, List.mem_of_getElem? (i := 1196) (by decide +kernel), List.mem_of_getElem? (i := 1579) (by decide +kernel), List.mem_of_getElem? (i := 1580) (by decide +kernel)⟩
theorem lw_p69 : lw_okq (⟨"CakePapersModel", "wanted", "(I)I"⟩, 80) := ⟨⟨by decide +kernel, by decide +kernel⟩, List.mem_of_getElem? (i := 1196) (by decide +kernel), List.mem_of_getElem? (i := 1583) (by decide +kernel), List.mem_of_getElem? (i := 1584) (by decide +kernel)⟩
theorem lw_p70 : lw_okq (⟨"CakePapersModel", "worth", "(III)I"⟩, 80) := ⟨⟨by decide +kernel, by decide +kernel⟩, List.mem_of_getElem? (i := 1196) (by decide +kernel), List.mem_of_getElem? (i := 1587) (by decide +kernel), List.mem_of_getElem? (i := 1588) (by decide +kernel)⟩
theorem lw_p71 : lw_okq (⟨"CakePapersModel", "madeMany", "(II)I"⟩, 80) := ⟨⟨by decide +kernel, by decide +kernel⟩, List.mem_of_getElem? (i := 1196) (by decide +kernel), List.mem_of_getElem? (i := 1598) (by decide +kernel), List.mem_of_getElem? (i := 1599) (by decide +kernel)⟩
theorem lw_p72 : lw_okq (⟨"CakePapersModel", "areTwo", "(II)Z"⟩, 80) := ⟨⟨by decide +kernel, by decide +kernel⟩, List.mem_of_getElem? (i := 1196) (by decide +kernel), List.mem_of_getElem? (i := 1606) (by decide +kernel), List.mem_of_getElem? (i := 1607) (by decide +kernel)⟩
theorem lw_p73 : lw_okq (⟨"CakePapersModel", "isSame", "(II)Z"⟩, 80) := ⟨⟨by decide +kernel, by decide +kernel⟩, List.mem_of_getElem? (i := 1196) (by decide +kernel), List.mem_of_getElem? (i := 1610) (by decide +kernel), List.mem_of_getElem? (i := 1611) (by decide +kernel)⟩
theorem lw_p74 : lw_okq (⟨"CakePapersModel", "layAlike", "(II)V"⟩, 80) := ⟨⟨by decide +kernel, by decide +kernel⟩, List.mem_of_getElem? (i := 1196) (by decide +kernel), List.mem_of_getElem? (i := 1614) (by decide +kernel), List.mem_of_getElem? (i := 1615) (by decide +kernel)⟩
theorem lw_p75 : lw_okq (⟨"CakePapersModel", "sortOf", "(III)V"⟩, 80) := ⟨⟨by decide +kernel, by decide +kernel⟩, List.mem_of_getElem? (i := 1196) (by decide +kernel), List.mem_of_getElem? (i := 1618) (by decide +kernel), List.mem_of_getElem? (i := 1619) (by decide +kernel)⟩
theorem lw_p76 : lw_okq (⟨"CakePapersModel", "isAlike", "(IIII)Z"⟩, 80) := ⟨⟨by decide +kernel, by decide +kernel⟩, List.mem_of_getElem? (i := 1196) (by decide +kernel), List.mem_of_getElem? (i := 1622) (by decide +kernel), List.mem_of_getElem? (i := 1623) (by decide +kernel)⟩
theorem lw_p77 : lw_okq (⟨"CakePapersModel", "countNeed", "(IIIII)I"⟩, 80) := ⟨⟨by decide +kernel, by decide +kernel⟩, List.mem_of_getElem? (i := 1196) (by decide +kernel), List.mem_of_getElem? (i := 1626) (by decide +kernel), List.mem_of_getElem? (i := 1627) (by decide +kernel)⟩
theorem lw_p78 : lw_okq (⟨"CakePapersModel", "endsOfSort", "(II)I"⟩, 80) := ⟨⟨by decide +kernel, by decide +kernel⟩, List.mem_of_getElem? (i := 1196) (by decide +kernel), List.mem_of_getElem? (i := 1630) (by decide +kernel), List.mem_of_getElem? (i := 1631) (by decide +kernel)⟩
theorem lw_p79 : lw_okq (⟨"CakePapersModel", "layChanges", "(III)V"⟩, 80) := ⟨⟨by decide +kernel, by decide +kernel⟩, List.mem_of_getElem? (i := 1196) (by decide +kernel), List.mem_of_getElem? (i := 1642) (by decide +kernel), List.mem_of_getElem? (i := 1643) (by decide +kernel)⟩
def lw_privs_5 : List (MethodName × Nat) := [(⟨"CakePapersModel", "ends", "(I)I"⟩, 80), (⟨"CakePapersModel", "isEnd", "(II)Z"⟩, 80), (⟨"CakePapersModel", "maker", "(III)I"⟩, 80), (⟨"CakePapersModel", "path", "(I)I"⟩, 80), (⟨"CakePapersModel", "all", "(IZ)I"⟩, 80), (⟨"CakePapersModel", "wanted", "(I)I"⟩, 80), (⟨"CakePapersModel", "worth", "(III)I"⟩, 80), (⟨"CakePapersModel", "madeMany", "(II)I"⟩, 80), (⟨"CakePapersModel", "areTwo", "(II)Z"⟩, 80), (⟨"CakePapersModel", "isSame", "(II)Z"⟩, 80), (⟨"CakePapersModel", "layAlike", "(II)V"⟩, 80), (⟨"CakePapersModel", "sortOf", "(III)V"⟩, 80), (⟨"CakePapersModel", "isAlike", "(IIII)Z"⟩, 80), (⟨"CakePapersModel", "countNeed", "(IIIII)I"⟩, 80), (⟨"CakePapersModel", "endsOfSort", "(II)I"⟩, 80), (⟨"CakePapersModel", "layChanges", "(III)V"⟩, 80)]
theorem lw_r5 : ∀ q ∈ lw_privs_5, lw_okq q := List.forall_mem_cons.mpr ⟨lw_p64, List.forall_mem_cons.mpr ⟨lw_p65, List.forall_mem_cons.mpr ⟨lw_p66, List.forall_mem_cons.mpr ⟨lw_p67, List.forall_mem_cons.mpr ⟨lw_p68, List.forall_mem_cons.mpr ⟨lw_p69, List.forall_mem_cons.mpr ⟨lw_p70, List.forall_mem_cons.mpr ⟨lw_p71, List.forall_mem_cons.mpr ⟨lw_p72, List.forall_mem_cons.mpr ⟨lw_p73, List.forall_mem_cons.mpr ⟨lw_p74, List.forall_mem_cons.mpr ⟨lw_p75, List.forall_mem_cons.mpr ⟨lw_p76, List.forall_mem_cons.mpr ⟨lw_p77, List.forall_mem_cons.mpr ⟨lw_p78, List.forall_mem_cons.mpr ⟨lw_p79, fun _ h => absurd h List.not_mem_nil⟩⟩⟩⟩⟩⟩⟩⟩⟩⟩⟩⟩⟩⟩⟩⟩
theorem lw_p80 : lw_okq (⟨"CakePapersModel", "addChange", "(III)V"⟩, 80) := ⟨⟨by decide +kernel, by decide +kernel⟩, List.mem_of_getElem? (i := 1196) (by decide +kernel), List.mem_of_getElem? (i := 1646) (by decide +kernel), List.mem_of_getElem? (i := 1647) (by decide +kernel)⟩
theorem lw_p81 : lw_okq (⟨"CakePapersModel", "isField", "(III)Z"⟩, 80) := ⟨⟨by decide +kernel, by decide +kernel⟩, List.mem_of_getElem? (i := 1196) (by decide +kernel), List.mem_of_getElem? (i := 1650) (by decide +kernel), List.mem_of_getElem? (i := 1651) (by decide +kernel)⟩
theorem lw_p82 : lw_okq (⟨"CakePapersModel", "lacks", "(II)I"⟩, 80) := ⟨⟨by decide +kernel, by decide +kernel⟩, List.mem_of_getElem? (i := 1196) (by decide +kernel), List.mem_of_getElem? (i := 1654) (by decide +kernel), List.mem_of_getElem? (i := 1655) (by decide +kernel)⟩
theorem lw_p83 : lw_okq (⟨"CakePapersModel", "isSlipAt", "(I)Z"⟩, 80) := ⟨⟨by decide +kernel, by decide +kernel⟩, List.mem_of_getElem? (i := 1196) (by decide +kernel), List.mem_of_getElem? (i := 1662) (by decide +kernel), List.mem_of_getElem? (i := 1663) (by decide +kernel)⟩
theorem lw_p84 : lw_okq (⟨"CakePapersModel", "isSlip", "(JJI)Z"⟩, 80) := ⟨⟨by decide +kernel, by decide +kernel⟩, List.mem_of_getElem? (i := 1196) (by decide +kernel), List.mem_of_getElem? (i := 1666) (by decide +kernel), List.mem_of_getElem? (i := 1667) (by decide +kernel)⟩
theorem lw_p85 : lw_okq (⟨"CakePapersModel", "layDigits", "(ZJI)V"⟩, 80) := ⟨⟨by decide +kernel, by decide +kernel⟩, List.mem_of_getElem? (i := 1196) (by decide +kernel), List.mem_of_getElem? (i := 1670) (by decide +kernel), List.mem_of_getElem? (i := 1671) (by decide +kernel)⟩
theorem lw_p86 : lw_okq (⟨"CakePapersModel", "weight", "(II)I"⟩, 80) := ⟨⟨by decide +kernel, by decide +kernel⟩, List.mem_of_getElem? (i := 1196) (by decide +kernel), List.mem_of_getElem? (i := 1679) (by decide +kernel), List.mem_of_getElem? (i := 1680) (by decide +kernel)⟩
theorem lw_p87 : lw_okq (⟨"CakePapersModel", "doAll", "(II)Z"⟩, 80) := ⟨⟨by decide +kernel, by decide +kernel⟩, List.mem_of_getElem? (i := 1196) (by decide +kernel), List.mem_of_getElem? (i := 1687) (by decide +kernel), List.mem_of_getElem? (i := 1688) (by decide +kernel)⟩
theorem lw_p88 : lw_okq (⟨"CakePapersModel", "rowStep", "(II)V"⟩, 80) := ⟨⟨by decide +kernel, by decide +kernel⟩, List.mem_of_getElem? (i := 1196) (by decide +kernel), List.mem_of_getElem? (i := 1691) (by decide +kernel), List.mem_of_getElem? (i := 1692) (by decide +kernel)⟩
theorem lw_p89 : lw_okq (⟨"CakePapersModel", "giveNeeds", "(III)V"⟩, 80) := ⟨⟨by decide +kernel, by decide +kernel⟩, List.mem_of_getElem? (i := 1196) (by decide +kernel), List.mem_of_getElem? (i := 1695) (by decide +kernel), List.mem_of_getElem? (i := 1696) (by decide +kernel)⟩
theorem lw_p90 : lw_okq (⟨"CakePapersModel", "doAltered", "(I)V"⟩, 80) := ⟨⟨by decide +kernel, by decide +kernel⟩, List.mem_of_getElem? (i := 1196) (by decide +kernel), List.mem_of_getElem? (i := 1699) (by decide +kernel), List.mem_of_getElem? (i := 1700) (by decide +kernel)⟩
theorem lw_p91 : lw_okq (⟨"CakePapersModel", "giveField", "(IIII)V"⟩, 80) := ⟨⟨by decide +kernel, by decide +kernel⟩, List.mem_of_getElem? (i := 1196) (by decide +kernel), List.mem_of_getElem? (i := 1703) (by decide +kernel), List.mem_of_getElem? (i := 1704) (by decide +kernel)⟩
theorem lw_p92 : lw_okq (⟨"CakePapersModel", "doOut", "(I)V"⟩, 80) := ⟨⟨by decide +kernel, by decide +kernel⟩, List.mem_of_getElem? (i := 1196) (by decide +kernel), List.mem_of_getElem? (i := 1707) (by decide +kernel), List.mem_of_getElem? (i := 1708) (by decide +kernel)⟩
theorem lw_p93 : lw_okq (⟨"CakePapersModel", "doPut", "(I)V"⟩, 80) := ⟨⟨by decide +kernel, by decide +kernel⟩, List.mem_of_getElem? (i := 1196) (by decide +kernel), List.mem_of_getElem? (i := 1711) (by decide +kernel), List.mem_of_getElem? (i := 1712) (by decide +kernel)⟩
theorem lw_p94 : lw_okq (⟨"CakePapersModel", "settles", "()Z"⟩, 80) := ⟨⟨by decide +kernel, by decide +kernel⟩, List.mem_of_getElem? (i := 1196) (by decide +kernel), List.mem_of_getElem? (i := 1715) (by decide +kernel), List.mem_of_getElem? (i := 1716) (by decide +kernel)⟩
theorem lw_p95 : lw_okq (⟨"CakePapersModel", "nextStep", "()I"⟩, 80) := ⟨⟨by decide +kernel, by decide +kernel⟩, List.mem_of_getElem? (i := 1196) (by decide +kernel), List.mem_of_getElem? (i := 1719) (by decide +kernel), List.mem_of_getElem? (i := 1720) (by decide +kernel)⟩
def lw_privs_6 : List (MethodName × Nat) := [(⟨"CakePapersModel", "addChange", "(III)V"⟩, 80), (⟨"CakePapersModel", "isField", "(III)Z"⟩, 80), (⟨"CakePapersModel", "lacks", "(II)I"⟩, 80), (⟨"CakePapersModel", "isSlipAt", "(I)Z"⟩, 80), (⟨"CakePapersModel", "isSlip", "(JJI)Z"⟩, 80), (⟨"CakePapersModel", "layDigits", "(ZJI)V"⟩, 80), (⟨"CakePapersModel", "weight", "(II)I"⟩, 80), (⟨"CakePapersModel", "doAll", "(II)Z"⟩, 80), (⟨"CakePapersModel", "rowStep", "(II)V"⟩, 80), (⟨"CakePapersModel", "giveNeeds", "(III)V"⟩, 80), (⟨"CakePapersModel", "doAltered", "(I)V"⟩, 80), (⟨"CakePapersModel", "giveField", "(IIII)V"⟩, 80), (⟨"CakePapersModel", "doOut", "(I)V"⟩, 80), (⟨"CakePapersModel", "doPut", "(I)V"⟩, 80), (⟨"CakePapersModel", "settles", "()Z"⟩, 80), (⟨"CakePapersModel", "nextStep", "()I"⟩, 80)]
theorem lw_r6 : ∀ q ∈ lw_privs_6, lw_okq q := List.forall_mem_cons.mpr ⟨lw_p80, List.forall_mem_cons.mpr ⟨lw_p81, List.forall_mem_cons.mpr ⟨lw_p82, List.forall_mem_cons.mpr ⟨lw_p83, List.forall_mem_cons.mpr ⟨lw_p84, List.forall_mem_cons.mpr ⟨lw_p85, List.forall_mem_cons.mpr ⟨lw_p86, List.forall_mem_cons.mpr ⟨lw_p87, List.forall_mem_cons.mpr ⟨lw_p88, List.forall_mem_cons.mpr ⟨lw_p89, List.forall_mem_cons.mpr ⟨lw_p90, List.forall_mem_cons.mpr ⟨lw_p91, List.forall_mem_cons.mpr ⟨lw_p92, List.forall_mem_cons.mpr ⟨lw_p93, List.forall_mem_cons.mpr ⟨lw_p94, List.forall_mem_cons.mpr ⟨lw_p95, fun _ h => absurd h List.not_mem_nil⟩⟩⟩⟩⟩⟩⟩⟩⟩⟩⟩⟩⟩⟩⟩⟩
theorem lw_p96 : lw_okq (⟨"CakePapersModel", "canCome", "(I)Z"⟩, 80) := ⟨⟨by decide +kernel, by decide +kernel⟩, List.mem_of_getElem? (i := 1196) (by decide +kernel), List.mem_of_getElem? (i := 1723) (by decide +kernel), List.mem_of_getElem? (i := 1724) (by decide +kernel)⟩
theorem lw_p97 : lw_okq (⟨"CakePapersModel", "rowMaker", "(JZ)I"⟩, 80) := ⟨⟨by decide +kernel, by decide +kernel⟩, List.mem_of_getElem? (i := 1196) (by decide +kernel), List.mem_of_getElem? (i := 1727) (by decide +kernel), List.mem_of_getElem? (i := 1728) (by decide +kernel)⟩
theorem lw_p98 : lw_okq (⟨"CakePapersModel", "isBroken", "(I)Z"⟩, 80) := ⟨⟨by decide +kernel, by decide +kernel⟩, List.mem_of_getElem? (i := 1196) (by decide +kernel), List.mem_of_getElem? (i := 1731) (by decide +kernel), List.mem_of_getElem? (i := 1732) (by decide +kernel)⟩
theorem lw_p99 : lw_okq (⟨"CakePapersModel", "layJoin", "(III)V"⟩, 80) := ⟨⟨by decide +kernel, by decide +kernel⟩, List.mem_of_getElem? (i := 1196) (by decide +kernel), List.mem_of_getElem? (i := 1739) (by decide +kernel), List.mem_of_getElem? (i := 1740) (by decide +kernel)⟩
theorem lw_p100 : lw_okq (⟨"CakePapersModel", "joinStep", "(J)V"⟩, 80) := ⟨⟨by decide +kernel, by decide +kernel⟩, List.mem_of_getElem? (i := 1196) (by decide +kernel), List.mem_of_getElem? (i := 1743) (by decide +kernel), List.mem_of_getElem? (i := 1744) (by decide +kernel)⟩
theorem lw_p101 : lw_okq (⟨"CakePapersModel", "layQuarrels", "(I)V"⟩, 80) := ⟨⟨by decide +kernel, by decide +kernel⟩, List.mem_of_getElem? (i := 1196) (by decide +kernel), List.mem_of_getElem? (i := 1747) (by decide +kernel), List.mem_of_getElem? (i := 1748) (by decide +kernel)⟩
theorem lw_p102 : lw_okq (⟨"CakePapersModel", "giver", "(II)I"⟩, 80) := ⟨⟨by decide +kernel, by decide +kernel⟩, List.mem_of_getElem? (i := 1196) (by decide +kernel), List.mem_of_getElem? (i := 1751) (by decide +kernel), List.mem_of_getElem? (i := 1752) (by decide +kernel)⟩
theorem lw_p103 : lw_okq (⟨"CakePapersModel", "quarrelAt", "(II)V"⟩, 80) := ⟨⟨by decide +kernel, by decide +kernel⟩, List.mem_of_getElem? (i := 1196) (by decide +kernel), List.mem_of_getElem? (i := 1755) (by decide +kernel), List.mem_of_getElem? (i := 1756) (by decide +kernel)⟩
theorem lw_p104 : lw_okq (⟨"CakePapersModel", "isAltered", "(II)Z"⟩, 80) := ⟨⟨by decide +kernel, by decide +kernel⟩, List.mem_of_getElem? (i := 1196) (by decide +kernel), List.mem_of_getElem? (i := 1759) (by decide +kernel), List.mem_of_getElem? (i := 1760) (by decide +kernel)⟩
theorem lw_p105 : lw_okq (⟨"CakePapersModel", "isQuarrel", "(I)Z"⟩, 80) := ⟨⟨by decide +kernel, by decide +kernel⟩, List.mem_of_getElem? (i := 1196) (by decide +kernel), List.mem_of_getElem? (i := 1767) (by decide +kernel), List.mem_of_getElem? (i := 1768) (by decide +kernel)⟩
theorem lw_p106 : lw_okq (⟨"CakePapersModel", "layTold", "()V"⟩, 80) := ⟨⟨by decide +kernel, by decide +kernel⟩, List.mem_of_getElem? (i := 1196) (by decide +kernel), List.mem_of_getElem? (i := 1771) (by decide +kernel), List.mem_of_getElem? (i := 1772) (by decide +kernel)⟩
theorem lw_p107 : lw_okq (⟨"CakePapersModel", "allByOne", "()V"⟩, 80) := ⟨⟨by decide +kernel, by decide +kernel⟩, List.mem_of_getElem? (i := 1196) (by decide +kernel), List.mem_of_getElem? (i := 1775) (by decide +kernel), List.mem_of_getElem? (i := 1776) (by decide +kernel)⟩
theorem lw_p108 : lw_okq (⟨"CakePapersModel", "isOfWords", "(I)Z"⟩, 80) := ⟨⟨by decide +kernel, by decide +kernel⟩, List.mem_of_getElem? (i := 1196) (by decide +kernel), List.mem_of_getElem? (i := 1779) (by decide +kernel), List.mem_of_getElem? (i := 1780) (by decide +kernel)⟩
theorem lw_p109 : lw_okq (⟨"CakePapersModel", "joins", "()Z"⟩, 80) := ⟨⟨by decide +kernel, by decide +kernel⟩, List.mem_of_getElem? (i := 1196) (by decide +kernel), List.mem_of_getElem? (i := 1783) (by decide +kernel), List.mem_of_getElem? (i := 1784) (by decide +kernel)⟩
theorem lw_p110 : lw_okq (⟨"CakePapersModel", "bothStep", "(I)V"⟩, 80) := ⟨⟨by decide +kernel, by decide +kernel⟩, List.mem_of_getElem? (i := 1196) (by decide +kernel), List.mem_of_getElem? (i := 1787) (by decide +kernel), List.mem_of_getElem? (i := 1788) (by decide +kernel)⟩
theorem lw_p111 : lw_okq (⟨"CakePapersModel", "sideOf", "(II)I"⟩, 80) := ⟨⟨by decide +kernel, by decide +kernel⟩, List.mem_of_getElem? (i := 1196) (by decide +kernel), List.mem_of_getElem? (i := 1791) (by decide +kernel), List.mem_of_getElem? (i := 1792) (by decide +kernel)⟩
def lw_privs_7 : List (MethodName × Nat) := [(⟨"CakePapersModel", "canCome", "(I)Z"⟩, 80), (⟨"CakePapersModel", "rowMaker", "(JZ)I"⟩, 80), (⟨"CakePapersModel", "isBroken", "(I)Z"⟩, 80), (⟨"CakePapersModel", "layJoin", "(III)V"⟩, 80), (⟨"CakePapersModel", "joinStep", "(J)V"⟩, 80), (⟨"CakePapersModel", "layQuarrels", "(I)V"⟩, 80), (⟨"CakePapersModel", "giver", "(II)I"⟩, 80), (⟨"CakePapersModel", "quarrelAt", "(II)V"⟩, 80), (⟨"CakePapersModel", "isAltered", "(II)Z"⟩, 80), (⟨"CakePapersModel", "isQuarrel", "(I)Z"⟩, 80), (⟨"CakePapersModel", "layTold", "()V"⟩, 80), (⟨"CakePapersModel", "allByOne", "()V"⟩, 80), (⟨"CakePapersModel", "isOfWords", "(I)Z"⟩, 80), (⟨"CakePapersModel", "joins", "()Z"⟩, 80), (⟨"CakePapersModel", "bothStep", "(I)V"⟩, 80), (⟨"CakePapersModel", "sideOf", "(II)I"⟩, 80)]
theorem lw_r7 : ∀ q ∈ lw_privs_7, lw_okq q := List.forall_mem_cons.mpr ⟨lw_p96, List.forall_mem_cons.mpr ⟨lw_p97, List.forall_mem_cons.mpr ⟨lw_p98, List.forall_mem_cons.mpr ⟨lw_p99, List.forall_mem_cons.mpr ⟨lw_p100, List.forall_mem_cons.mpr ⟨lw_p101, List.forall_mem_cons.mpr ⟨lw_p102, List.forall_mem_cons.mpr ⟨lw_p103, List.forall_mem_cons.mpr ⟨lw_p104, List.forall_mem_cons.mpr ⟨lw_p105, List.forall_mem_cons.mpr ⟨lw_p106, List.forall_mem_cons.mpr ⟨lw_p107, List.forall_mem_cons.mpr ⟨lw_p108, List.forall_mem_cons.mpr ⟨lw_p109, List.forall_mem_cons.mpr ⟨lw_p110, List.forall_mem_cons.mpr ⟨lw_p111, fun _ h => absurd h List.not_mem_nil⟩⟩⟩⟩⟩⟩⟩⟩⟩⟩⟩⟩⟩⟩⟩⟩
theorem lw_p112 : lw_okq (⟨"CakePapersModel", "paperOf", "(I)I"⟩, 80) := ⟨⟨by decide +kernel, by decide +kernel⟩, List.mem_of_getElem? (i := 1196) (by decide +kernel), List.mem_of_getElem? (i := 1795) (by decide +kernel), List.mem_of_getElem? (i := 1796) (by decide +kernel)⟩
theorem lw_p113 : lw_okq (⟨"CakePapersModel", "stepOf", "(II)I"⟩, 80) := ⟨⟨by decide +kernel, by decide +kernel⟩, List.mem_of_getElem? (i := 1196) (by decide +kernel), List.mem_of_getElem? (i := 1799) (by decide +kernel), List.mem_of_getElem? (i := 1800) (by decide +kernel)⟩
theorem lw_p114 : lw_okq (⟨"CakePapersModel", "rowBecomes", "(I)V"⟩, 80) := ⟨⟨by decide +kernel, by decide +kernel⟩, List.mem_of_getElem? (i := 1196) (by decide +kernel), List.mem_of_getElem? (i := 1803) (by decide +kernel), List.mem_of_getElem? (i := 1804) (by decide +kernel)⟩
theorem lw_p115 : lw_okq (⟨"CakePapersModel", "settledMany", "()I"⟩, 80) := ⟨⟨by decide +kernel, by decide +kernel⟩, List.mem_of_getElem? (i := 1196) (by decide +kernel), List.mem_of_getElem? (i := 1815) (by decide +kernel), List.mem_of_getElem? (i := 1816) (by decide +kernel)⟩
theorem lw_p116 : lw_okq (⟨"CakePapersModel", "findBest", "()V"⟩, 80) := ⟨⟨by decide +kernel, by decide +kernel⟩, List.mem_of_getElem? (i := 1196) (by decide +kernel), List.mem_of_getElem? (i := 1823) (by decide +kernel), List.mem_of_getElem? (i := 1824) (by decide +kernel)⟩
theorem lw_p117 : lw_okq (⟨"CakePapersModel", "isUnchanged", "(I)Z"⟩, 80) := ⟨⟨by decide +kernel, by decide +kernel⟩, List.mem_of_getElem? (i := 1196) (by decide +kernel), List.mem_of_getElem? (i := 1834) (by decide +kernel), List.mem_of_getElem? (i := 1835) (by decide +kernel)⟩
theorem lw_p118 : lw_okq (⟨"CakePapersModel", "findAlone", "(I)V"⟩, 80) := ⟨⟨by decide +kernel, by decide +kernel⟩, List.mem_of_getElem? (i := 1196) (by decide +kernel), List.mem_of_getElem? (i := 1842) (by decide +kernel), List.mem_of_getElem? (i := 1843) (by decide +kernel)⟩
theorem lw_p119 : lw_okq (⟨"CakePapersModel", "noneDone", "()V"⟩, 80) := ⟨⟨by decide +kernel, by decide +kernel⟩, List.mem_of_getElem? (i := 1196) (by decide +kernel), List.mem_of_getElem? (i := 1846) (by decide +kernel), List.mem_of_getElem? (i := 1847) (by decide +kernel)⟩
theorem lw_p120 : lw_okq (⟨"CakePapersModel", "holds", "(IIIII)Z"⟩, 80) := ⟨⟨by decide +kernel, by decide +kernel⟩, List.mem_of_getElem? (i := 1196) (by decide +kernel), List.mem_of_getElem? (i := 1854) (by decide +kernel), List.mem_of_getElem? (i := 1855) (by decide +kernel)⟩
theorem lw_p121 : lw_okq (⟨"CakePapersModel", "joinsTo", "(IIII)Z"⟩, 80) := ⟨⟨by decide +kernel, by decide +kernel⟩, List.mem_of_getElem? (i := 1196) (by decide +kernel), List.mem_of_getElem? (i := 1858) (by decide +kernel), List.mem_of_getElem? (i := 1859) (by decide +kernel)⟩
theorem lw_p122 : lw_okq (⟨"CakePapersModel", "blamed", "()I"⟩, 80) := ⟨⟨by decide +kernel, by decide +kernel⟩, List.mem_of_getElem? (i := 1196) (by decide +kernel), List.mem_of_getElem? (i := 1870) (by decide +kernel), List.mem_of_getElem? (i := 1871) (by decide +kernel)⟩
theorem lw_p123 : lw_okq (⟨"CakePapersModel", "isAnyAlike", "(IIII)Z"⟩, 80) := ⟨⟨by decide +kernel, by decide +kernel⟩, List.mem_of_getElem? (i := 1196) (by decide +kernel), List.mem_of_getElem? (i := 1878) (by decide +kernel), List.mem_of_getElem? (i := 1879) (by decide +kernel)⟩
theorem lw_p124 : lw_okq (⟨"CakePapersModel", "e", "()V"⟩, 80) := ⟨⟨by decide +kernel, by decide +kernel⟩, List.mem_of_getElem? (i := 1196) (by decide +kernel), List.mem_of_getElem? (i := 1886) (by decide +kernel), List.mem_of_getElem? (i := 1887) (by decide +kernel)⟩
theorem lw_p125 : lw_okq (⟨"CakePapersModel", "pushE", "(II)V"⟩, 80) := ⟨⟨by decide +kernel, by decide +kernel⟩, List.mem_of_getElem? (i := 1196) (by decide +kernel), List.mem_of_getElem? (i := 1890) (by decide +kernel), List.mem_of_getElem? (i := 1891) (by decide +kernel)⟩
theorem lw_p126 : lw_okq (⟨"CakePapersModel", "unit", "()Z"⟩, 80) := ⟨⟨by decide +kernel, by decide +kernel⟩, List.mem_of_getElem? (i := 1196) (by decide +kernel), List.mem_of_getElem? (i := 1894) (by decide +kernel), List.mem_of_getElem? (i := 1895) (by decide +kernel)⟩
theorem lw_p127 : lw_okq (⟨"CakePapersModel", "wordHere", "()I"⟩, 80) := ⟨⟨by decide +kernel, by decide +kernel⟩, List.mem_of_getElem? (i := 1196) (by decide +kernel), List.mem_of_getElem? (i := 1898) (by decide +kernel), List.mem_of_getElem? (i := 1899) (by decide +kernel)⟩
def lw_privs_8 : List (MethodName × Nat) := [(⟨"CakePapersModel", "paperOf", "(I)I"⟩, 80), (⟨"CakePapersModel", "stepOf", "(II)I"⟩, 80), (⟨"CakePapersModel", "rowBecomes", "(I)V"⟩, 80), (⟨"CakePapersModel", "settledMany", "()I"⟩, 80), (⟨"CakePapersModel", "findBest", "()V"⟩, 80), (⟨"CakePapersModel", "isUnchanged", "(I)Z"⟩, 80), (⟨"CakePapersModel", "findAlone", "(I)V"⟩, 80), (⟨"CakePapersModel", "noneDone", "()V"⟩, 80), (⟨"CakePapersModel", "holds", "(IIIII)Z"⟩, 80), (⟨"CakePapersModel", "joinsTo", "(IIII)Z"⟩, 80), (⟨"CakePapersModel", "blamed", "()I"⟩, 80), (⟨"CakePapersModel", "isAnyAlike", "(IIII)Z"⟩, 80), (⟨"CakePapersModel", "e", "()V"⟩, 80), (⟨"CakePapersModel", "pushE", "(II)V"⟩, 80), (⟨"CakePapersModel", "unit", "()Z"⟩, 80), (⟨"CakePapersModel", "wordHere", "()I"⟩, 80)]
theorem lw_r8 : ∀ q ∈ lw_privs_8, lw_okq q := List.forall_mem_cons.mpr ⟨lw_p112, List.forall_mem_cons.mpr ⟨lw_p113, List.forall_mem_cons.mpr ⟨lw_p114, List.forall_mem_cons.mpr ⟨lw_p115, List.forall_mem_cons.mpr ⟨lw_p116, List.forall_mem_cons.mpr ⟨lw_p117, List.forall_mem_cons.mpr ⟨lw_p118, List.forall_mem_cons.mpr ⟨lw_p119, List.forall_mem_cons.mpr ⟨lw_p120, List.forall_mem_cons.mpr ⟨lw_p121, List.forall_mem_cons.mpr ⟨lw_p122, List.forall_mem_cons.mpr ⟨lw_p123, List.forall_mem_cons.mpr ⟨lw_p124, List.forall_mem_cons.mpr ⟨lw_p125, List.forall_mem_cons.mpr ⟨lw_p126, List.forall_mem_cons.mpr ⟨lw_p127, fun _ h => absurd h List.not_mem_nil⟩⟩⟩⟩⟩⟩⟩⟩⟩⟩⟩⟩⟩⟩⟩⟩
theorem lw_p128 : lw_okq (⟨"CakePapersModel", "emit", "(IIJ)V"⟩, 80) := ⟨⟨by decide +kernel, by decide +kernel⟩, List.mem_of_getElem? (i := 1196) (by decide +kernel), List.mem_of_getElem? (i := 1902) (by decide +kernel), List.mem_of_getElem? (i := 1903) (by decide +kernel)⟩
theorem lw_p129 : lw_okq (⟨"CakePapersModel", "behindUnit", "()Z"⟩, 80) := ⟨⟨by decide +kernel, by decide +kernel⟩, List.mem_of_getElem? (i := 1196) (by decide +kernel), List.mem_of_getElem? (i := 1906) (by decide +kernel), List.mem_of_getElem? (i := 1907) (by decide +kernel)⟩
theorem lw_p130 : lw_okq (⟨"CakePapersModel", "rankHere", "()I"⟩, 80) := ⟨⟨by decide +kernel, by decide +kernel⟩, List.mem_of_getElem? (i := 1196) (by decide +kernel), List.mem_of_getElem? (i := 1910) (by decide +kernel), List.mem_of_getElem? (i := 1911) (by decide +kernel)⟩
theorem lw_p131 : lw_okq (⟨"CakePapersModel", "isCompared", "()Z"⟩, 80) := ⟨⟨by decide +kernel, by decide +kernel⟩, List.mem_of_getElem? (i := 1196) (by decide +kernel), List.mem_of_getElem? (i := 1914) (by decide +kernel), List.mem_of_getElem? (i := 1915) (by decide +kernel)⟩
theorem lw_p132 : lw_okq (⟨"CakePapersModel", "keepPaper", "(IIZ)V"⟩, 80) := ⟨⟨by decide +kernel, by decide +kernel⟩, List.mem_of_getElem? (i := 1196) (by decide +kernel), List.mem_of_getElem? (i := 1926) (by decide +kernel), List.mem_of_getElem? (i := 1927) (by decide +kernel)⟩
def lw_privs_9 : List (MethodName × Nat) := [(⟨"CakePapersModel", "emit", "(IIJ)V"⟩, 80), (⟨"CakePapersModel", "behindUnit", "()Z"⟩, 80), (⟨"CakePapersModel", "rankHere", "()I"⟩, 80), (⟨"CakePapersModel", "isCompared", "()Z"⟩, 80), (⟨"CakePapersModel", "keepPaper", "(IIZ)V"⟩, 80)]
theorem lw_r9 : ∀ q ∈ lw_privs_9, lw_okq q := List.forall_mem_cons.mpr ⟨lw_p128, List.forall_mem_cons.mpr ⟨lw_p129, List.forall_mem_cons.mpr ⟨lw_p130, List.forall_mem_cons.mpr ⟨lw_p131, List.forall_mem_cons.mpr ⟨lw_p132, fun _ h => absurd h List.not_mem_nil⟩⟩⟩⟩⟩
def lw_privs : List (MethodName × Nat) := lw_privs_1 ++ (lw_privs_2 ++ (lw_privs_3 ++ (lw_privs_4 ++ (lw_privs_5 ++ (lw_privs_6 ++ (lw_privs_7 ++ (lw_privs_8 ++ (lw_privs_9))))))))
def lw_tbl : List Cond := k2_sels lw_privs ++ tables_1
theorem lw_privs_ok : ∀ q ∈ lw_privs, lw_okq q := by
  show ∀ q ∈ lw_privs_1 ++ (lw_privs_2 ++ (lw_privs_3 ++ (lw_privs_4 ++ (lw_privs_5 ++ (lw_privs_6 ++ (lw_privs_7 ++ (lw_privs_8 ++ (lw_privs_9)))))))), lw_okq q
  exact List.forall_mem_append.mpr ⟨lw_r1, List.forall_mem_append.mpr ⟨lw_r2, List.forall_mem_append.mpr ⟨lw_r3, List.forall_mem_append.mpr ⟨lw_r4, List.forall_mem_append.mpr ⟨lw_r5, List.forall_mem_append.mpr ⟨lw_r6, List.forall_mem_append.mpr ⟨lw_r7, List.forall_mem_append.mpr ⟨lw_r8, lw_r9⟩⟩⟩⟩⟩⟩⟩⟩
end
section
def RX0 : String := "CakePapers$Changes"
def TX0 : u_T := fun k => match k with
  | 0 => ("CakePapers$Changes", "kinds", "[I", true)
  | 1 => ("CakePapers$Changes", "steps", "[I", true)
  | 2 => ("CakePapers$Changes", "signs", "[I", true)
  | 3 => ("CakePapers$Changes", "otherSigns", "[I", true)
  | 4 => ("CakePapers$Changes", "count", "I", false)
  | 5 => ("CakePapers$Changes", "from", "LCakePapers$Paper;", false)
  | _ => ("CakePapers$Changes", "to", "LCakePapers$Paper;", false)
def tyX0 : Nat → FieldType := fun k => match k with
  | 0 => .array .int
  | 1 => .array .int
  | 2 => .array .int
  | 3 => .array .int
  | 4 => .int
  | 5 => .object "CakePapers$Paper"
  | _ => .object "CakePapers$Paper"
abbrev wsX00 : List Cond := u_ws RX0 TX0 7
theorem nmX0 : ∀ a, a < 7 → ∀ b, b < 7 → a ≠ b → (TX0 a).2.1 ≠ (TX0 b).2.1 := by decide +kernel
theorem tyX0_ok : ∀ k, k < 7 → parseFieldDescriptor (TX0 k).2.2.1 = some (tyX0 k) := by decide +kernel
abbrev cX0_init : ByteArray := prog_2_method_1_code
def yX0_init : MethodName := ⟨RX0, "<init>", "()V"⟩
def RX1 : String := "CakePapers$Desk"
def TX1 : u_T := fun k => match k with
  | 0 => ("CakePapers$Desk", "papers", "[LCakePapers$Paper;", true)
  | 1 => ("CakePapers$Desk", "joining", "LCakePapers$Joining;", true)
  | _ => ("CakePapers$Desk", "count", "I", false)
def tyX1 : Nat → FieldType := fun k => match k with
  | 0 => .array (.object "CakePapers$Paper")
  | 1 => .object "CakePapers$Joining"
  | _ => .int
abbrev wsX10 : List Cond := u_ws RX1 TX1 3
theorem nmX1 : ∀ a, a < 3 → ∀ b, b < 3 → a ≠ b → (TX1 a).2.1 ≠ (TX1 b).2.1 := by decide +kernel
theorem tyX1_ok : ∀ k, k < 3 → parseFieldDescriptor (TX1 k).2.2.1 = some (tyX1 k) := by decide +kernel
abbrev cX1_init : ByteArray := prog_3_method_1_code
def yX1_init : MethodName := ⟨RX1, "<init>", "()V"⟩
abbrev cX1_isFull : ByteArray := prog_3_method_2_code
def yX1_isFull : MethodName := ⟨RX1, "isFull", "()Z"⟩
abbrev cX1_get : ByteArray := prog_3_method_3_code
def yX1_get : MethodName := ⟨RX1, "get", "(I)LCakePapers$Paper;"⟩
abbrev cX1_add : ByteArray := prog_3_method_4_code
def yX1_add : MethodName := ⟨RX1, "add", "(LCakePapers$Paper;)I"⟩
abbrev cX1_copyFrom : ByteArray := prog_3_method_6_code
def yX1_copyFrom : MethodName := ⟨RX1, "copyFrom", "(LCakePapers$Desk;)V"⟩
def RX2 : String := "CakePapers$Draft"
def TX2 : u_T := fun k => match k with
  | 0 => ("CakePapers$Draft", "sheet", "LCakePapers$Paper;", true)
  | 1 => ("CakePapers$Draft", "wasMade", "[Z", true)
  | 2 => ("CakePapers$Draft", "order", "[I", true)
  | _ => ("CakePapers$Draft", "placed", "[Z", true)
def tyX2 : Nat → FieldType := fun k => match k with
  | 0 => .object "CakePapers$Paper"
  | 1 => .array .boolean
  | 2 => .array .int
  | _ => .array .boolean
abbrev wsX20 : List Cond := u_ws RX2 TX2 4
theorem nmX2 : ∀ a, a < 4 → ∀ b, b < 4 → a ≠ b → (TX2 a).2.1 ≠ (TX2 b).2.1 := by decide +kernel
theorem tyX2_ok : ∀ k, k < 4 → parseFieldDescriptor (TX2 k).2.2.1 = some (tyX2 k) := by decide +kernel
abbrev cX2_init : ByteArray := prog_4_method_1_code
def yX2_init : MethodName := ⟨RX2, "<init>", "()V"⟩
def RX3 : String := "CakePapers$Joiner"
def TX3 : u_T := fun k => match k with
  | 0 => ("CakePapers$Joiner", "draft", "LCakePapers$Draft;", true)
  | 1 => ("CakePapers$Joiner", "likeness", "LCakePapers$Likeness;", true)
  | 2 => ("CakePapers$Joiner", "trial", "LCakePapers$Joining;", true)
  | 3 => ("CakePapers$Joiner", "half", "LCakePapers$Paper;", true)
  | 4 => ("CakePapers$Joiner", "leftResult", "LCakePapers$Paper;", true)
  | 5 => ("CakePapers$Joiner", "rightResult", "LCakePapers$Paper;", true)
  | 6 => ("CakePapers$Joiner", "row", "[I", true)
  | 7 => ("CakePapers$Joiner", "bestRow", "[I", true)
  | 8 => ("CakePapers$Joiner", "bestKnown", "Z", false)
  | 9 => ("CakePapers$Joiner", "bestFound", "Z", false)
  | _ => ("CakePapers$Joiner", "bestWant", "I", false)
def tyX3 : Nat → FieldType := fun k => match k with
  | 0 => .object "CakePapers$Draft"
  | 1 => .object "CakePapers$Likeness"
  | 2 => .object "CakePapers$Joining"
  | 3 => .object "CakePapers$Paper"
  | 4 => .object "CakePapers$Paper"
  | 5 => .object "CakePapers$Paper"
  | 6 => .array .int
  | 7 => .array .int
  | 8 => .boolean
  | 9 => .boolean
  | _ => .int
abbrev wsX30 : List Cond := u_ws RX3 TX3 11
theorem nmX3 : ∀ a, a < 11 → ∀ b, b < 11 → a ≠ b → (TX3 a).2.1 ≠ (TX3 b).2.1 := by decide +kernel
theorem tyX3_ok : ∀ k, k < 11 → parseFieldDescriptor (TX3 k).2.2.1 = some (tyX3 k) := by decide +kernel
abbrev cX3_init : ByteArray := prog_5_method_1_code
def yX3_init : MethodName := ⟨RX3, "<init>", "(LCakePapers$Draft;LCakePapers$Likeness;)V"⟩
def RX4 : String := "CakePapers$Joining"
def TX4 : u_T := fun k => match k with
  | 0 => ("CakePapers$Joining", "base", "LCakePapers$Paper;", false)
  | 1 => ("CakePapers$Joining", "one", "LCakePapers$Paper;", false)
  | 2 => ("CakePapers$Joining", "other", "LCakePapers$Paper;", false)
  | 3 => ("CakePapers$Joining", "inBase", "[I", true)
  | 4 => ("CakePapers$Joining", "inOne", "[I", true)
  | 5 => ("CakePapers$Joining", "inOther", "[I", true)
  | 6 => ("CakePapers$Joining", "oneChanged", "[I", true)
  | 7 => ("CakePapers$Joining", "otherChanged", "[I", true)
  | 8 => ("CakePapers$Joining", "quarrelStep", "[I", true)
  | 9 => ("CakePapers$Joining", "quarrelField", "[I", true)
  | 10 => ("CakePapers$Joining", "sides", "[I", true)
  | 11 => ("CakePapers$Joining", "steps", "I", false)
  | _ => ("CakePapers$Joining", "quarrels", "I", false)
def tyX4 : Nat → FieldType := fun k => match k with
  | 0 => .object "CakePapers$Paper"
  | 1 => .object "CakePapers$Paper"
  | 2 => .object "CakePapers$Paper"
  | 3 => .array .int
  | 4 => .array .int
  | 5 => .array .int
  | 6 => .array .int
  | 7 => .array .int
  | 8 => .array .int
  | 9 => .array .int
  | 10 => .array .int
  | 11 => .int
  | _ => .int
abbrev wsX40 : List Cond := u_ws RX4 TX4 13
theorem nmX4 : ∀ a, a < 13 → ∀ b, b < 13 → a ≠ b → (TX4 a).2.1 ≠ (TX4 b).2.1 := by decide +kernel
theorem tyX4_ok : ∀ k, k < 13 → parseFieldDescriptor (TX4 k).2.2.1 = some (tyX4 k) := by decide +kernel
abbrev cX4_init : ByteArray := prog_6_method_1_code
def yX4_init : MethodName := ⟨RX4, "<init>", "()V"⟩
abbrev cX4_isThere : ByteArray := prog_6_method_2_code
def yX4_isThere : MethodName := ⟨RX4, "isThere", "()Z"⟩
abbrev cX4_hasQuarrel : ByteArray := prog_6_method_3_code
def yX4_hasQuarrel : MethodName := ⟨RX4, "hasQuarrel", "(I)Z"⟩
abbrev cX4_clear : ByteArray := prog_6_method_4_code
def yX4_clear : MethodName := ⟨RX4, "clear", "()V"⟩
abbrev cX4_copyFrom : ByteArray := prog_6_method_5_code
def yX4_copyFrom : MethodName := ⟨RX4, "copyFrom", "(LCakePapers$Joining;)V"⟩
def RX5 : String := "CakePapers$Likeness"
def TX5 : u_T := fun k => match k with
  | 0 => ("CakePapers$Likeness", "alikes", "[Z", true)
  | 1 => ("CakePapers$Likeness", "used", "[Z", true)
  | 2 => ("CakePapers$Likeness", "weights", "[I", true)
  | 3 => ("CakePapers$Likeness", "lightest", "[I", true)
  | 4 => ("CakePapers$Likeness", "first", "LCakePapers$Paper;", false)
  | _ => ("CakePapers$Likeness", "second", "LCakePapers$Paper;", false)
def tyX5 : Nat → FieldType := fun k => match k with
  | 0 => .array .boolean
  | 1 => .array .boolean
  | 2 => .array .int
  | 3 => .array .int
  | 4 => .object "CakePapers$Paper"
  | _ => .object "CakePapers$Paper"
abbrev wsX50 : List Cond := u_ws RX5 TX5 6
theorem nmX5 : ∀ a, a < 6 → ∀ b, b < 6 → a ≠ b → (TX5 a).2.1 ≠ (TX5 b).2.1 := by decide +kernel
theorem tyX5_ok : ∀ k, k < 6 → parseFieldDescriptor (TX5 k).2.2.1 = some (tyX5 k) := by decide +kernel
abbrev cX5_init : ByteArray := prog_7_method_1_code
def yX5_init : MethodName := ⟨RX5, "<init>", "()V"⟩
def RX6 : String := "CakePapers$Paper"
def TX6 : u_T := fun k => match k with
  | 0 => ("CakePapers$Paper", "makes", "[J", true)
  | 1 => ("CakePapers$Paper", "verbs", "[J", true)
  | 2 => ("CakePapers$Paper", "much", "[I", true)
  | 3 => ("CakePapers$Paper", "lasts", "[I", true)
  | 4 => ("CakePapers$Paper", "needCount", "[I", true)
  | 5 => ("CakePapers$Paper", "needs", "[J", true)
  | 6 => ("CakePapers$Paper", "makers", "[I", true)
  | 7 => ("CakePapers$Paper", "isEnd", "[Z", true)
  | 8 => ("CakePapers$Paper", "reach", "[I", true)
  | 9 => ("CakePapers$Paper", "steps", "I", false)
  | 10 => ("CakePapers$Paper", "ends", "I", false)
  | 11 => ("CakePapers$Paper", "path", "I", false)
  | 12 => ("CakePapers$Paper", "allMuch", "I", false)
  | _ => ("CakePapers$Paper", "allLong", "I", false)
def tyX6 : Nat → FieldType := fun k => match k with
  | 0 => .array .long
  | 1 => .array .long
  | 2 => .array .int
  | 3 => .array .int
  | 4 => .array .int
  | 5 => .array .long
  | 6 => .array .int
  | 7 => .array .boolean
  | 8 => .array .int
  | 9 => .int
  | 10 => .int
  | 11 => .int
  | 12 => .int
  | _ => .int
abbrev wsX60 : List Cond := u_ws RX6 TX6 14
theorem nmX6 : ∀ a, a < 14 → ∀ b, b < 14 → a ≠ b → (TX6 a).2.1 ≠ (TX6 b).2.1 := by decide +kernel
theorem tyX6_ok : ∀ k, k < 14 → parseFieldDescriptor (TX6 k).2.2.1 = some (tyX6 k) := by decide +kernel
abbrev cX6_init : ByteArray := prog_8_method_1_code
def yX6_init : MethodName := ⟨RX6, "<init>", "(I)V"⟩
abbrev cX6_workOut : ByteArray := prog_8_method_9_code
def yX6_workOut : MethodName := ⟨RX6, "workOut", "()V"⟩
def RX7 : String := "CakePapers$PaperReader"
def TX7 : u_T := fun k => match k with
  | 0 => ("CakePapers$PaperReader", "scanner", "LCakePapers$Scanner;", true)
  | 1 => ("CakePapers$PaperReader", "called", "[J", true)
  | 2 => ("CakePapers$PaperReader", "meant", "[J", true)
  | _ => ("CakePapers$PaperReader", "calls", "I", false)
def tyX7 : Nat → FieldType := fun k => match k with
  | 0 => .object "CakePapers$Scanner"
  | 1 => .array .long
  | 2 => .array .long
  | _ => .int
abbrev wsX70 : List Cond := u_ws RX7 TX7 4
theorem nmX7 : ∀ a, a < 4 → ∀ b, b < 4 → a ≠ b → (TX7 a).2.1 ≠ (TX7 b).2.1 := by decide +kernel
theorem tyX7_ok : ∀ k, k < 4 → parseFieldDescriptor (TX7 k).2.2.1 = some (tyX7 k) := by decide +kernel
abbrev cX7_init : ByteArray := prog_9_method_1_code
def yX7_init : MethodName := ⟨RX7, "<init>", "(LCakePapers$Scanner;)V"⟩
abbrev cX7_read : ByteArray := prog_9_method_2_code
def yX7_read : MethodName := ⟨RX7, "read", "(LCakePapers$Paper;)Z"⟩
def RX8 : String := "CakePapers$Scanner"
def TX8 : u_T := fun k => match k with
  | 0 => ("CakePapers$Scanner", "words", "[J", true)
  | 1 => ("CakePapers$Scanner", "bytes", "[I", false)
  | 2 => ("CakePapers$Scanner", "length", "I", false)
  | 3 => ("CakePapers$Scanner", "at", "I", false)
  | 4 => ("CakePapers$Scanner", "kind", "I", false)
  | 5 => ("CakePapers$Scanner", "place", "I", false)
  | 6 => ("CakePapers$Scanner", "number", "I", false)
  | 7 => ("CakePapers$Scanner", "name", "J", false)
  | 8 => ("CakePapers$Scanner", "fault", "I", false)
  | _ => ("CakePapers$Scanner", "faultPlace", "I", false)
def tyX8 : Nat → FieldType := fun k => match k with
  | 0 => .array .long
  | 1 => .array .int
  | 2 => .int
  | 3 => .int
  | 4 => .int
  | 5 => .int
  | 6 => .int
  | 7 => .long
  | 8 => .int
  | _ => .int
abbrev wsX80 : List Cond := u_ws RX8 TX8 10
theorem nmX8 : ∀ a, a < 10 → ∀ b, b < 10 → a ≠ b → (TX8 a).2.1 ≠ (TX8 b).2.1 := by decide +kernel
theorem tyX8_ok : ∀ k, k < 10 → parseFieldDescriptor (TX8 k).2.2.1 = some (tyX8 k) := by decide +kernel
abbrev cX8_start : ByteArray := prog_10_method_2_code
def yX8_start : MethodName := ⟨RX8, "start", "([II)V"⟩
abbrev cX8_next : ByteArray := prog_10_method_3_code
def yX8_next : MethodName := ⟨RX8, "next", "()V"⟩
abbrev cX8_blame : ByteArray := prog_10_method_8_code
def yX8_blame : MethodName := ⟨RX8, "blame", "(I)Z"⟩
abbrev cX8_refuse : ByteArray := prog_10_method_9_code
def yX8_refuse : MethodName := ⟨RX8, "refuse", "()Z"⟩
abbrev cX8_pass : ByteArray := prog_10_method_10_code
def yX8_pass : MethodName := ⟨RX8, "pass", "(I)Z"⟩
def RX9 : String := "CakePapers$Want"
def TX9 : u_T := fun k => match k with
  | 0 => ("CakePapers$Want", "codes", "[I", true)
  | 1 => ("CakePapers$Want", "values", "[J", true)
  | 2 => ("CakePapers$Want", "stack", "[I", true)
  | 3 => ("CakePapers$Want", "length", "I", false)
  | _ => ("CakePapers$Want", "units", "I", false)
def tyX9 : Nat → FieldType := fun k => match k with
  | 0 => .array .int
  | 1 => .array .long
  | 2 => .array .int
  | 3 => .int
  | _ => .int
abbrev wsX90 : List Cond := u_ws RX9 TX9 5
theorem nmX9 : ∀ a, a < 5 → ∀ b, b < 5 → a ≠ b → (TX9 a).2.1 ≠ (TX9 b).2.1 := by decide +kernel
theorem tyX9_ok : ∀ k, k < 5 → parseFieldDescriptor (TX9 k).2.2.1 = some (tyX9 k) := by decide +kernel
abbrev cX9_init : ByteArray := prog_11_method_1_code
def yX9_init : MethodName := ⟨RX9, "<init>", "()V"⟩
def RX10 : String := "CakePapers$WantReader"
def TX10 : u_T := fun k => match k with
  | 0 => ("CakePapers$WantReader", "scanner", "LCakePapers$Scanner;", true)
  | _ => ("CakePapers$WantReader", "into", "LCakePapers$Want;", false)
def tyX10 : Nat → FieldType := fun k => match k with
  | 0 => .object "CakePapers$Scanner"
  | _ => .object "CakePapers$Want"
abbrev wsX100 : List Cond := u_ws RX10 TX10 2
theorem nmX10 : ∀ a, a < 2 → ∀ b, b < 2 → a ≠ b → (TX10 a).2.1 ≠ (TX10 b).2.1 := by decide +kernel
theorem tyX10_ok : ∀ k, k < 2 → parseFieldDescriptor (TX10 k).2.2.1 = some (tyX10 k) := by decide +kernel
abbrev cX10_init : ByteArray := prog_12_method_1_code
def yX10_init : MethodName := ⟨RX10, "<init>", "(LCakePapers$Scanner;)V"⟩
abbrev cX10_read : ByteArray := prog_12_method_2_code
def yX10_read : MethodName := ⟨RX10, "read", "(LCakePapers$Want;)Z"⟩
def RX11 : String := "CakePapers"
def TX11 : u_T := fun k => match k with
  | 0 => ("CakePapers", "tape", "[I", true)
  | 1 => ("CakePapers", "taped", "I", false)
  | 2 => ("CakePapers", "scanner", "LCakePapers$Scanner;", true)
  | 3 => ("CakePapers", "paperReader", "LCakePapers$PaperReader;", true)
  | 4 => ("CakePapers", "wantReader", "LCakePapers$WantReader;", true)
  | 5 => ("CakePapers", "desk", "LCakePapers$Desk;", true)
  | 6 => ("CakePapers", "boxes", "[LCakePapers$Desk;", true)
  | 7 => ("CakePapers", "sparePaper", "LCakePapers$Paper;", false)
  | 8 => ("CakePapers", "wanted", "LCakePapers$Want;", false)
  | 9 => ("CakePapers", "spareWant", "LCakePapers$Want;", false)
  | 10 => ("CakePapers", "likeness", "LCakePapers$Likeness;", true)
  | 11 => ("CakePapers", "joiner", "LCakePapers$Joiner;", true)
  | 12 => ("CakePapers", "changesOfOne", "LCakePapers$Changes;", true)
  | 13 => ("CakePapers", "changesOfOther", "LCakePapers$Changes;", true)
  | 14 => ("CakePapers", "chosen", "[Z", true)
  | _ => ("CakePapers", "draft", "LCakePapers$Draft;", true)
def tyX11 : Nat → FieldType := fun k => match k with
  | 0 => .array .int
  | 1 => .int
  | 2 => .object "CakePapers$Scanner"
  | 3 => .object "CakePapers$PaperReader"
  | 4 => .object "CakePapers$WantReader"
  | 5 => .object "CakePapers$Desk"
  | 6 => .array (.object "CakePapers$Desk")
  | 7 => .object "CakePapers$Paper"
  | 8 => .object "CakePapers$Want"
  | 9 => .object "CakePapers$Want"
  | 10 => .object "CakePapers$Likeness"
  | 11 => .object "CakePapers$Joiner"
  | 12 => .object "CakePapers$Changes"
  | 13 => .object "CakePapers$Changes"
  | 14 => .array .boolean
  | _ => .object "CakePapers$Draft"
abbrev wsX110 : List Cond := u_ws RX11 TX11 16
theorem nmX11 : ∀ a, a < 16 → ∀ b, b < 16 → a ≠ b → (TX11 a).2.1 ≠ (TX11 b).2.1 := by decide +kernel
theorem tyX11_ok : ∀ k, k < 16 → parseFieldDescriptor (TX11 k).2.2.1 = some (tyX11 k) := by decide +kernel
abbrev cX11_feed : ByteArray := prog_1_method_2_code
def yX11_feed : MethodName := ⟨RX11, "feed", "(IIIII)I"⟩
abbrev cX11_putFour : ByteArray := prog_1_method_3_code
def yX11_putFour : MethodName := ⟨RX11, "putFour", "(I)V"⟩
abbrev cX11_end : ByteArray := prog_1_method_4_code
def yX11_end : MethodName := ⟨RX11, "end", "(I)I"⟩
abbrev cX11_paper : ByteArray := prog_1_method_5_code
def yX11_paper : MethodName := ⟨RX11, "paper", "()I"⟩
abbrev cX11_keepSparePaper : ByteArray := prog_1_method_6_code
def yX11_keepSparePaper : MethodName := ⟨RX11, "keepSparePaper", "()I"⟩
abbrev cX11_want : ByteArray := prog_1_method_7_code
def yX11_want : MethodName := ⟨RX11, "want", "()I"⟩
abbrev cX11_fault : ByteArray := prog_1_method_8_code
def yX11_fault : MethodName := ⟨RX11, "fault", "(I)I"⟩
abbrev cX11_makes : ByteArray := prog_1_method_9_code
def yX11_makes : MethodName := ⟨RX11, "makes", "(II)I"⟩
abbrev cX11_step : ByteArray := prog_1_method_10_code
def yX11_step : MethodName := ⟨RX11, "step", "(III)I"⟩
abbrev cX11_same : ByteArray := prog_1_method_11_code
def yX11_same : MethodName := ⟨RX11, "same", "(II)I"⟩
abbrev cX11_alike : ByteArray := prog_1_method_12_code
def yX11_alike : MethodName := ⟨RX11, "alike", "(III)I"⟩
abbrev cX11_changes : ByteArray := prog_1_method_13_code
def yX11_changes : MethodName := ⟨RX11, "changes", "(II)I"⟩
abbrev cX11_listChanges : ByteArray := prog_1_method_14_code
def yX11_listChanges : MethodName := ⟨RX11, "listChanges", "(LCakePapers$Changes;II)Z"⟩
abbrev cX11_change : ByteArray := prog_1_method_15_code
def yX11_change : MethodName := ⟨RX11, "change", "(IIII)I"⟩
abbrev cX11_least : ByteArray := prog_1_method_16_code
def yX11_least : MethodName := ⟨RX11, "least", "(II)I"⟩
abbrev cX11_does : ByteArray := prog_1_method_17_code
def yX11_does : MethodName := ⟨RX11, "does", "(III)I"⟩
abbrev cX11_join : ByteArray := prog_1_method_19_code
def yX11_join : MethodName := ⟨RX11, "join", "(III)I"⟩
abbrev cX11_quarrel : ByteArray := prog_1_method_20_code
def yX11_quarrel : MethodName := ⟨RX11, "quarrel", "(II)I"⟩
abbrev cX11_settle : ByteArray := prog_1_method_21_code
def yX11_settle : MethodName := ⟨RX11, "settle", "(II)Z"⟩
abbrev cX11_joined : ByteArray := prog_1_method_22_code
def yX11_joined : MethodName := ⟨RX11, "joined", "()I"⟩
abbrev cX11_best : ByteArray := prog_1_method_23_code
def yX11_best : MethodName := ⟨RX11, "best", "(I)I"⟩
abbrev cX11_left : ByteArray := prog_1_method_24_code
def yX11_left : MethodName := ⟨RX11, "left", "(I)I"⟩
abbrev cX11_ruin : ByteArray := prog_1_method_25_code
def yX11_ruin : MethodName := ⟨RX11, "ruin", "(IIII)I"⟩
abbrev cX11_law : ByteArray := prog_1_method_28_code
def yX11_law : MethodName := ⟨RX11, "law", "(IIIII)I"⟩
abbrev cX11_three : ByteArray := prog_1_method_29_code
def yX11_three : MethodName := ⟨RX11, "three", "(IIIII)I"⟩
abbrev cX11_leans : ByteArray := prog_1_method_30_code
def yX11_leans : MethodName := ⟨RX11, "leans", "(III)I"⟩
abbrev cX11_begun : ByteArray := prog_1_method_32_code
def yX11_begun : MethodName := ⟨RX11, "begun", "(IIII)I"⟩
abbrev cX11_tear : ByteArray := prog_1_method_33_code
def yX11_tear : MethodName := ⟨RX11, "tear", "(I)Z"⟩
abbrev cX11_image : ByteArray := prog_1_method_34_code
def yX11_image : MethodName := ⟨RX11, "image", "(I)I"⟩
abbrev cX11_back : ByteArray := prog_1_method_35_code
def yX11_back : MethodName := ⟨RX11, "back", "(I)I"⟩
abbrev cX11_about : ByteArray := prog_1_method_36_code
def yX11_about : MethodName := ⟨RX11, "about", "(I)I"⟩
def RX12 : String := "CakePapersModel"
def TX12 : u_T := fun k => match k with
  | 0 => ("CakePapersModel", "tape", "[B", true)
  | 1 => ("CakePapersModel", "text", "[B", true)
  | 2 => ("CakePapersModel", "taped", "I", false)
  | 3 => ("CakePapersModel", "size", "I", false)
  | 4 => ("CakePapersModel", "faultKind", "I", false)
  | 5 => ("CakePapersModel", "faultPlace", "I", false)
  | 6 => ("CakePapersModel", "at", "I", false)
  | 7 => ("CakePapersModel", "end", "I", false)
  | 8 => ("CakePapersModel", "token", "I", false)
  | 9 => ("CakePapersModel", "number", "I", false)
  | 10 => ("CakePapersModel", "name", "J", false)
  | 11 => ("CakePapersModel", "many", "[I", true)
  | 12 => ("CakePapersModel", "much", "[I", true)
  | 13 => ("CakePapersModel", "length", "[I", true)
  | 14 => ("CakePapersModel", "needMany", "[I", true)
  | 15 => ("CakePapersModel", "makes", "[J", true)
  | 16 => ("CakePapersModel", "verb", "[J", true)
  | 17 => ("CakePapersModel", "need", "[J", true)
  | 18 => ("CakePapersModel", "called", "[J", true)
  | 19 => ("CakePapersModel", "calledTo", "[J", true)
  | 20 => ("CakePapersModel", "papers", "I", false)
  | 21 => ("CakePapersModel", "calls", "I", false)
  | 22 => ("CakePapersModel", "way", "[I", true)
  | 23 => ("CakePapersModel", "sort", "[I", true)
  | 24 => ("CakePapersModel", "cMany", "[I", true)
  | 25 => ("CakePapersModel", "cKind", "[I", true)
  | 26 => ("CakePapersModel", "cStep", "[I", true)
  | 27 => ("CakePapersModel", "cFrom", "[I", true)
  | 28 => ("CakePapersModel", "cTo", "[I", true)
  | 29 => ("CakePapersModel", "oneRow", "[I", true)
  | 30 => ("CakePapersModel", "twoRow", "[I", true)
  | 31 => ("CakePapersModel", "oneMany", "I", false)
  | 32 => ("CakePapersModel", "twoMany", "I", false)
  | 33 => ("CakePapersModel", "least", "[I", true)
  | 34 => ("CakePapersModel", "then", "[I", true)
  | 35 => ("CakePapersModel", "isThere", "[Z", true)
  | 36 => ("CakePapersModel", "isPlaced", "[Z", true)
  | 37 => ("CakePapersModel", "wasMade", "[Z", true)
  | 38 => ("CakePapersModel", "order", "[I", true)
  | 39 => ("CakePapersModel", "rowMany", "I", false)
  | 40 => ("CakePapersModel", "placed", "I", false)
  | 41 => ("CakePapersModel", "breach", "I", false)
  | 42 => ("CakePapersModel", "breachStep", "I", false)
  | 43 => ("CakePapersModel", "isDone", "[Z", true)
  | 44 => ("CakePapersModel", "jBase", "[I", true)
  | 45 => ("CakePapersModel", "jOne", "[I", true)
  | 46 => ("CakePapersModel", "jOther", "[I", true)
  | 47 => ("CakePapersModel", "qStep", "[I", true)
  | 48 => ("CakePapersModel", "qField", "[I", true)
  | 49 => ("CakePapersModel", "qSide", "[I", true)
  | 50 => ("CakePapersModel", "jMany", "I", false)
  | 51 => ("CakePapersModel", "quarrels", "I", false)
  | 52 => ("CakePapersModel", "joinBase", "I", false)
  | 53 => ("CakePapersModel", "joinOne", "I", false)
  | 54 => ("CakePapersModel", "joinOther", "I", false)
  | 55 => ("CakePapersModel", "tSide", "[I", true)
  | 56 => ("CakePapersModel", "tBase", "I", false)
  | 57 => ("CakePapersModel", "tOne", "I", false)
  | 58 => ("CakePapersModel", "tOther", "I", false)
  | 59 => ("CakePapersModel", "tMany", "I", false)
  | 60 => ("CakePapersModel", "isJoining", "Z", false)
  | 61 => ("CakePapersModel", "bestWant", "I", false)
  | 62 => ("CakePapersModel", "bestRow", "I", false)
  | 63 => ("CakePapersModel", "isGoodAlone", "[Z", true)
  | 64 => ("CakePapersModel", "code", "[I", true)
  | 65 => ("CakePapersModel", "codeNumber", "[I", true)
  | 66 => ("CakePapersModel", "codes", "[I", true)
  | 67 => ("CakePapersModel", "unitsOf", "[I", true)
  | 68 => ("CakePapersModel", "eWhat", "[I", true)
  | 69 => ("CakePapersModel", "eSign", "[I", true)
  | 70 => ("CakePapersModel", "pile", "[I", true)
  | 71 => ("CakePapersModel", "codeName", "[J", true)
  | 72 => ("CakePapersModel", "wantBank", "I", false)
  | 73 => ("CakePapersModel", "wb", "I", false)
  | 74 => ("CakePapersModel", "within", "I", false)
  | 75 => ("CakePapersModel", "piled", "I", false)
  | 76 => ("CakePapersModel", "boxMany", "[I", true)
  | 77 => ("CakePapersModel", "boxJoin", "[I", true)
  | 78 => ("CakePapersModel", "boxSide", "[I", true)
  | _ => ("CakePapersModel", "boxJoining", "[Z", true)
theorem dX0_init_0 : decode cX0_init 0 = .ok (.aload_n 0, 1) := by decide +kernel
theorem dX0_init_1 : decode cX0_init 1 = .ok (.invokespecial 5, 3) := by decide +kernel
theorem dX0_init_4 : decode cX0_init 4 = .ok (.aload_n 0, 1) := by decide +kernel
theorem dX0_init_5 : decode cX0_init 5 = .ok (.bipush 60, 2) := by decide +kernel
theorem dX0_init_7 : decode cX0_init 7 = .ok (.newarray .int, 2) := by decide +kernel
theorem dX0_init_9 : decode cX0_init 9 = .ok (.putfield 13, 3) := by decide +kernel
theorem dX0_init_12 : decode cX0_init 12 = .ok (.aload_n 0, 1) := by decide +kernel
theorem dX0_init_13 : decode cX0_init 13 = .ok (.bipush 60, 2) := by decide +kernel
theorem dX0_init_15 : decode cX0_init 15 = .ok (.newarray .int, 2) := by decide +kernel
theorem dX0_init_17 : decode cX0_init 17 = .ok (.putfield 17, 3) := by decide +kernel
theorem dX0_init_20 : decode cX0_init 20 = .ok (.aload_n 0, 1) := by decide +kernel
theorem dX0_init_21 : decode cX0_init 21 = .ok (.bipush 10, 2) := by decide +kernel
theorem dX0_init_23 : decode cX0_init 23 = .ok (.newarray .int, 2) := by decide +kernel
theorem dX0_init_25 : decode cX0_init 25 = .ok (.putfield 20, 3) := by decide +kernel
theorem dX0_init_28 : decode cX0_init 28 = .ok (.aload_n 0, 1) := by decide +kernel
theorem dX0_init_29 : decode cX0_init 29 = .ok (.bipush 10, 2) := by decide +kernel
theorem dX0_init_31 : decode cX0_init 31 = .ok (.newarray .int, 2) := by decide +kernel
theorem dX0_init_33 : decode cX0_init 33 = .ok (.putfield 23, 3) := by decide +kernel
theorem dX0_init_36 : decode cX0_init 36 = .ok (.return_, 1) := by decide +kernel
theorem dX1_init_0 : decode cX1_init 0 = .ok (.aload_n 0, 1) := by decide +kernel
theorem dX1_init_1 : decode cX1_init 1 = .ok (.invokespecial 3, 3) := by decide +kernel
theorem dX1_init_4 : decode cX1_init 4 = .ok (.aload_n 0, 1) := by decide +kernel
theorem dX1_init_5 : decode cX1_init 5 = .ok (.bipush 8, 2) := by decide +kernel
theorem dX1_init_7 : decode cX1_init 7 = .ok (.anewarray 11, 3) := by decide +kernel
theorem dX1_init_10 : decode cX1_init 10 = .ok (.putfield 13, 3) := by decide +kernel
theorem dX1_init_13 : decode cX1_init 13 = .ok (.aload_n 0, 1) := by decide +kernel
theorem dX1_init_14 : decode cX1_init 14 = .ok (.new 17, 3) := by decide +kernel
theorem dX1_init_17 : decode cX1_init 17 = .ok (.dup, 1) := by decide +kernel
theorem dX1_init_18 : decode cX1_init 18 = .ok (.invokespecial 19, 3) := by decide +kernel
theorem dX1_init_21 : decode cX1_init 21 = .ok (.putfield 20, 3) := by decide +kernel
theorem dX1_init_24 : decode cX1_init 24 = .ok (.aload_n 0, 1) := by decide +kernel
theorem dX1_init_25 : decode cX1_init 25 = .ok (.iconst (-1), 1) := by decide +kernel
theorem dX1_init_26 : decode cX1_init 26 = .ok (.putfield 24, 3) := by decide +kernel
theorem dX1_init_29 : decode cX1_init 29 = .ok (.return_, 1) := by decide +kernel
theorem dX1_isFull_0 : decode cX1_isFull 0 = .ok (.aload_n 0, 1) := by decide +kernel
theorem dX1_isFull_1 : decode cX1_isFull 1 = .ok (.getfield 24, 3) := by decide +kernel
theorem dX1_isFull_4 : decode cX1_isFull 4 = .ok (.bipush 8, 2) := by decide +kernel
theorem dX1_isFull_6 : decode cX1_isFull 6 = .ok (.if_icmp .lt 7, 3) := by decide +kernel
theorem dX1_isFull_13 : decode cX1_isFull 13 = .ok (.iconst 0, 1) := by decide +kernel
theorem dX1_isFull_14 : decode cX1_isFull 14 = .ok (.ireturn, 1) := by decide +kernel
theorem dX1_get_0 : decode cX1_get 0 = .ok (.iload_n 1, 1) := by decide +kernel
theorem dX1_get_1 : decode cX1_get 1 = .ok (.ifCond .lt 20, 3) := by decide +kernel
theorem dX1_get_4 : decode cX1_get 4 = .ok (.iload_n 1, 1) := by decide +kernel
theorem dX1_get_5 : decode cX1_get 5 = .ok (.aload_n 0, 1) := by decide +kernel
theorem dX1_get_6 : decode cX1_get 6 = .ok (.getfield 24, 3) := by decide +kernel
theorem dX1_get_9 : decode cX1_get 9 = .ok (.if_icmp .ge 12, 3) := by decide +kernel
theorem dX1_get_21 : decode cX1_get 21 = .ok (.aconst_null, 1) := by decide +kernel
theorem dX1_get_22 : decode cX1_get 22 = .ok (.areturn, 1) := by decide +kernel
theorem dX1_add_0 : decode cX1_add 0 = .ok (.aload_n 0, 1) := by decide +kernel
theorem dX1_add_1 : decode cX1_add 1 = .ok (.invokevirtual 28, 3) := by decide +kernel
theorem dX1_add_4 : decode cX1_add 4 = .ok (.ifCond .ne 10, 3) := by decide +kernel
theorem dX1_add_7 : decode cX1_add 7 = .ok (.aload_n 0, 1) := by decide +kernel
theorem dX1_add_8 : decode cX1_add 8 = .ok (.getfield 24, 3) := by decide +kernel
theorem dX1_add_11 : decode cX1_add 11 = .ok (.ifCond .ge 5, 3) := by decide +kernel
theorem dX1_add_16 : decode cX1_add 16 = .ok (.aload_n 0, 1) := by decide +kernel
theorem dX1_add_17 : decode cX1_add 17 = .ok (.getfield 13, 3) := by decide +kernel
theorem dX1_add_20 : decode cX1_add 20 = .ok (.aload_n 0, 1) := by decide +kernel
theorem dX1_add_21 : decode cX1_add 21 = .ok (.getfield 24, 3) := by decide +kernel
theorem dX1_add_24 : decode cX1_add 24 = .ok (.aload_n 1, 1) := by decide +kernel
theorem dX1_add_25 : decode cX1_add 25 = .ok (.aastore, 1) := by decide +kernel
theorem dX1_add_26 : decode cX1_add 26 = .ok (.aload_n 0, 1) := by decide +kernel
theorem dX1_add_27 : decode cX1_add 27 = .ok (.dup, 1) := by decide +kernel
theorem dX1_add_28 : decode cX1_add 28 = .ok (.getfield 24, 3) := by decide +kernel
theorem dX1_add_31 : decode cX1_add 31 = .ok (.iconst 1, 1) := by decide +kernel
theorem dX1_add_32 : decode cX1_add 32 = .ok (.iadd, 1) := by decide +kernel
theorem dX1_add_33 : decode cX1_add 33 = .ok (.putfield 24, 3) := by decide +kernel
theorem dX1_add_36 : decode cX1_add 36 = .ok (.aload_n 0, 1) := by decide +kernel
theorem dX1_add_37 : decode cX1_add 37 = .ok (.getfield 24, 3) := by decide +kernel
theorem dX1_add_40 : decode cX1_add 40 = .ok (.iconst 1, 1) := by decide +kernel
theorem dX1_add_41 : decode cX1_add 41 = .ok (.isub, 1) := by decide +kernel
theorem dX1_add_42 : decode cX1_add 42 = .ok (.ireturn, 1) := by decide +kernel
theorem dX1_copyFrom_0 : decode cX1_copyFrom 0 = .ok (.iconst 0, 1) := by decide +kernel
theorem dX1_copyFrom_1 : decode cX1_copyFrom 1 = .ok (.istore_n 2, 1) := by decide +kernel
theorem dX1_copyFrom_2 : decode cX1_copyFrom 2 = .ok (.iload_n 2, 1) := by decide +kernel
theorem dX1_copyFrom_3 : decode cX1_copyFrom 3 = .ok (.bipush 8, 2) := by decide +kernel
theorem dX1_copyFrom_5 : decode cX1_copyFrom 5 = .ok (.if_icmp .ge 21, 3) := by decide +kernel
theorem dX1_copyFrom_8 : decode cX1_copyFrom 8 = .ok (.aload_n 0, 1) := by decide +kernel
theorem dX1_copyFrom_9 : decode cX1_copyFrom 9 = .ok (.getfield 13, 3) := by decide +kernel
theorem dX1_copyFrom_12 : decode cX1_copyFrom 12 = .ok (.iload_n 2, 1) := by decide +kernel
theorem dX1_copyFrom_13 : decode cX1_copyFrom 13 = .ok (.aload_n 1, 1) := by decide +kernel
theorem dX1_copyFrom_14 : decode cX1_copyFrom 14 = .ok (.getfield 13, 3) := by decide +kernel
theorem dX1_copyFrom_17 : decode cX1_copyFrom 17 = .ok (.iload_n 2, 1) := by decide +kernel
theorem dX1_copyFrom_18 : decode cX1_copyFrom 18 = .ok (.aaload, 1) := by decide +kernel
theorem dX1_copyFrom_19 : decode cX1_copyFrom 19 = .ok (.aastore, 1) := by decide +kernel
theorem dX1_copyFrom_20 : decode cX1_copyFrom 20 = .ok (.iinc 2 1, 3) := by decide +kernel
theorem dX1_copyFrom_23 : decode cX1_copyFrom 23 = .ok (.goto (-21), 3) := by decide +kernel
theorem dX1_copyFrom_26 : decode cX1_copyFrom 26 = .ok (.aload_n 0, 1) := by decide +kernel
theorem dX1_copyFrom_27 : decode cX1_copyFrom 27 = .ok (.aload_n 1, 1) := by decide +kernel
theorem dX1_copyFrom_28 : decode cX1_copyFrom 28 = .ok (.getfield 24, 3) := by decide +kernel
theorem dX1_copyFrom_31 : decode cX1_copyFrom 31 = .ok (.putfield 24, 3) := by decide +kernel
theorem dX1_copyFrom_34 : decode cX1_copyFrom 34 = .ok (.aload_n 0, 1) := by decide +kernel
theorem dX1_copyFrom_35 : decode cX1_copyFrom 35 = .ok (.getfield 20, 3) := by decide +kernel
theorem dX1_copyFrom_38 : decode cX1_copyFrom 38 = .ok (.aload_n 1, 1) := by decide +kernel
theorem dX1_copyFrom_39 : decode cX1_copyFrom 39 = .ok (.getfield 20, 3) := by decide +kernel
theorem dX1_copyFrom_42 : decode cX1_copyFrom 42 = .ok (.invokevirtual 41, 3) := by decide +kernel
theorem dX1_copyFrom_45 : decode cX1_copyFrom 45 = .ok (.return_, 1) := by decide +kernel
theorem dX2_init_0 : decode cX2_init 0 = .ok (.aload_n 0, 1) := by decide +kernel
theorem dX2_init_1 : decode cX2_init 1 = .ok (.invokespecial 5, 3) := by decide +kernel
theorem dX2_init_4 : decode cX2_init 4 = .ok (.aload_n 0, 1) := by decide +kernel
theorem dX2_init_5 : decode cX2_init 5 = .ok (.new 1, 3) := by decide +kernel
theorem dX2_init_8 : decode cX2_init 8 = .ok (.dup, 1) := by decide +kernel
theorem dX2_init_9 : decode cX2_init 9 = .ok (.bipush 36, 2) := by decide +kernel
theorem dX2_init_11 : decode cX2_init 11 = .ok (.invokespecial 13, 3) := by decide +kernel
theorem dX2_init_14 : decode cX2_init 14 = .ok (.putfield 16, 3) := by decide +kernel
theorem dX2_init_17 : decode cX2_init 17 = .ok (.aload_n 0, 1) := by decide +kernel
theorem dX2_init_18 : decode cX2_init 18 = .ok (.sipush 144, 3) := by decide +kernel
theorem dX2_init_21 : decode cX2_init 21 = .ok (.newarray .boolean, 2) := by decide +kernel
theorem dX2_init_23 : decode cX2_init 23 = .ok (.putfield 20, 3) := by decide +kernel
theorem dX2_init_26 : decode cX2_init 26 = .ok (.aload_n 0, 1) := by decide +kernel
theorem dX2_init_27 : decode cX2_init 27 = .ok (.bipush 12, 2) := by decide +kernel
theorem dX2_init_29 : decode cX2_init 29 = .ok (.newarray .int, 2) := by decide +kernel
theorem dX2_init_31 : decode cX2_init 31 = .ok (.putfield 24, 3) := by decide +kernel
theorem dX2_init_34 : decode cX2_init 34 = .ok (.aload_n 0, 1) := by decide +kernel
theorem dX2_init_35 : decode cX2_init 35 = .ok (.bipush 12, 2) := by decide +kernel
theorem dX2_init_37 : decode cX2_init 37 = .ok (.newarray .boolean, 2) := by decide +kernel
theorem dX2_init_39 : decode cX2_init 39 = .ok (.putfield 28, 3) := by decide +kernel
theorem dX2_init_42 : decode cX2_init 42 = .ok (.return_, 1) := by decide +kernel
theorem dX3_init_0 : decode cX3_init 0 = .ok (.aload_n 0, 1) := by decide +kernel
theorem dX3_init_1 : decode cX3_init 1 = .ok (.invokespecial 3, 3) := by decide +kernel
theorem dX3_init_4 : decode cX3_init 4 = .ok (.aload_n 0, 1) := by decide +kernel
theorem dX3_init_5 : decode cX3_init 5 = .ok (.aload_n 1, 1) := by decide +kernel
theorem dX3_init_6 : decode cX3_init 6 = .ok (.putfield 9, 3) := by decide +kernel
theorem dX3_init_9 : decode cX3_init 9 = .ok (.aload_n 0, 1) := by decide +kernel
theorem dX3_init_10 : decode cX3_init 10 = .ok (.aload_n 2, 1) := by decide +kernel
theorem dX3_init_11 : decode cX3_init 11 = .ok (.putfield 15, 3) := by decide +kernel
theorem dX3_init_14 : decode cX3_init 14 = .ok (.aload_n 0, 1) := by decide +kernel
theorem dX3_init_15 : decode cX3_init 15 = .ok (.new 19, 3) := by decide +kernel
theorem dX3_init_18 : decode cX3_init 18 = .ok (.dup, 1) := by decide +kernel
theorem dX3_init_19 : decode cX3_init 19 = .ok (.invokespecial 21, 3) := by decide +kernel
theorem dX3_init_22 : decode cX3_init 22 = .ok (.putfield 22, 3) := by decide +kernel
theorem dX3_init_25 : decode cX3_init 25 = .ok (.aload_n 0, 1) := by decide +kernel
theorem dX3_init_26 : decode cX3_init 26 = .ok (.new 26, 3) := by decide +kernel
theorem dX3_init_29 : decode cX3_init 29 = .ok (.dup, 1) := by decide +kernel
theorem dX3_init_30 : decode cX3_init 30 = .ok (.bipush 12, 2) := by decide +kernel
theorem dX3_init_32 : decode cX3_init 32 = .ok (.invokespecial 28, 3) := by decide +kernel
theorem dX3_init_35 : decode cX3_init 35 = .ok (.putfield 31, 3) := by decide +kernel
theorem dX3_init_38 : decode cX3_init 38 = .ok (.aload_n 0, 1) := by decide +kernel
theorem dX3_init_39 : decode cX3_init 39 = .ok (.new 26, 3) := by decide +kernel
theorem dX3_init_42 : decode cX3_init 42 = .ok (.dup, 1) := by decide +kernel
theorem dX3_init_43 : decode cX3_init 43 = .ok (.bipush 12, 2) := by decide +kernel
theorem dX3_init_45 : decode cX3_init 45 = .ok (.invokespecial 28, 3) := by decide +kernel
theorem dX3_init_48 : decode cX3_init 48 = .ok (.putfield 35, 3) := by decide +kernel
theorem dX3_init_51 : decode cX3_init 51 = .ok (.aload_n 0, 1) := by decide +kernel
theorem dX3_init_52 : decode cX3_init 52 = .ok (.new 26, 3) := by decide +kernel
theorem dX3_init_55 : decode cX3_init 55 = .ok (.dup, 1) := by decide +kernel
theorem dX3_init_56 : decode cX3_init 56 = .ok (.bipush 12, 2) := by decide +kernel
theorem dX3_init_58 : decode cX3_init 58 = .ok (.invokespecial 28, 3) := by decide +kernel
theorem dX3_init_61 : decode cX3_init 61 = .ok (.putfield 38, 3) := by decide +kernel
theorem dX3_init_64 : decode cX3_init 64 = .ok (.aload_n 0, 1) := by decide +kernel
theorem dX3_init_65 : decode cX3_init 65 = .ok (.bipush 64, 2) := by decide +kernel
theorem dX3_init_67 : decode cX3_init 67 = .ok (.newarray .int, 2) := by decide +kernel
theorem dX3_init_69 : decode cX3_init 69 = .ok (.putfield 41, 3) := by decide +kernel
theorem dX3_init_72 : decode cX3_init 72 = .ok (.aload_n 0, 1) := by decide +kernel
theorem dX3_init_73 : decode cX3_init 73 = .ok (.bipush 64, 2) := by decide +kernel
theorem dX3_init_75 : decode cX3_init 75 = .ok (.newarray .int, 2) := by decide +kernel
theorem dX3_init_77 : decode cX3_init 77 = .ok (.putfield 45, 3) := by decide +kernel
theorem dX3_init_80 : decode cX3_init 80 = .ok (.return_, 1) := by decide +kernel
theorem dX4_init_0 : decode cX4_init 0 = .ok (.aload_n 0, 1) := by decide +kernel
theorem dX4_init_1 : decode cX4_init 1 = .ok (.invokespecial 5, 3) := by decide +kernel
theorem dX4_init_4 : decode cX4_init 4 = .ok (.aload_n 0, 1) := by decide +kernel
theorem dX4_init_5 : decode cX4_init 5 = .ok (.bipush 36, 2) := by decide +kernel
theorem dX4_init_7 : decode cX4_init 7 = .ok (.newarray .int, 2) := by decide +kernel
theorem dX4_init_9 : decode cX4_init 9 = .ok (.putfield 13, 3) := by decide +kernel
theorem dX4_init_12 : decode cX4_init 12 = .ok (.aload_n 0, 1) := by decide +kernel
theorem dX4_init_13 : decode cX4_init 13 = .ok (.bipush 36, 2) := by decide +kernel
theorem dX4_init_15 : decode cX4_init 15 = .ok (.newarray .int, 2) := by decide +kernel
theorem dX4_init_17 : decode cX4_init 17 = .ok (.putfield 17, 3) := by decide +kernel
theorem dX4_init_20 : decode cX4_init 20 = .ok (.aload_n 0, 1) := by decide +kernel
theorem dX4_init_21 : decode cX4_init 21 = .ok (.bipush 36, 2) := by decide +kernel
theorem dX4_init_23 : decode cX4_init 23 = .ok (.newarray .int, 2) := by decide +kernel
theorem dX4_init_25 : decode cX4_init 25 = .ok (.putfield 20, 3) := by decide +kernel
theorem dX4_init_28 : decode cX4_init 28 = .ok (.aload_n 0, 1) := by decide +kernel
theorem dX4_init_29 : decode cX4_init 29 = .ok (.bipush 36, 2) := by decide +kernel
theorem dX4_init_31 : decode cX4_init 31 = .ok (.newarray .int, 2) := by decide +kernel
theorem dX4_init_33 : decode cX4_init 33 = .ok (.putfield 23, 3) := by decide +kernel
theorem dX4_init_36 : decode cX4_init 36 = .ok (.aload_n 0, 1) := by decide +kernel
theorem dX4_init_37 : decode cX4_init 37 = .ok (.bipush 36, 2) := by decide +kernel
theorem dX4_init_39 : decode cX4_init 39 = .ok (.newarray .int, 2) := by decide +kernel
theorem dX4_init_41 : decode cX4_init 41 = .ok (.putfield 26, 3) := by decide +kernel
theorem dX4_init_44 : decode cX4_init 44 = .ok (.aload_n 0, 1) := by decide +kernel
theorem dX4_init_45 : decode cX4_init 45 = .ok (.bipush 64, 2) := by decide +kernel
theorem dX4_init_47 : decode cX4_init 47 = .ok (.newarray .int, 2) := by decide +kernel
theorem dX4_init_49 : decode cX4_init 49 = .ok (.putfield 29, 3) := by decide +kernel
theorem dX4_init_52 : decode cX4_init 52 = .ok (.aload_n 0, 1) := by decide +kernel
theorem dX4_init_53 : decode cX4_init 53 = .ok (.bipush 64, 2) := by decide +kernel
theorem dX4_init_55 : decode cX4_init 55 = .ok (.newarray .int, 2) := by decide +kernel
theorem dX4_init_57 : decode cX4_init 57 = .ok (.putfield 32, 3) := by decide +kernel
theorem dX4_init_60 : decode cX4_init 60 = .ok (.aload_n 0, 1) := by decide +kernel
theorem dX4_init_61 : decode cX4_init 61 = .ok (.bipush 64, 2) := by decide +kernel
theorem dX4_init_63 : decode cX4_init 63 = .ok (.newarray .int, 2) := by decide +kernel
theorem dX4_init_65 : decode cX4_init 65 = .ok (.putfield 35, 3) := by decide +kernel
theorem dX4_init_68 : decode cX4_init 68 = .ok (.return_, 1) := by decide +kernel
theorem dX4_isThere_0 : decode cX4_isThere 0 = .ok (.aload_n 0, 1) := by decide +kernel
theorem dX4_isThere_1 : decode cX4_isThere 1 = .ok (.getfield 38, 3) := by decide +kernel
theorem dX4_isThere_4 : decode cX4_isThere 4 = .ok (.ifnull 21, 3) := by decide +kernel
theorem dX4_isThere_25 : decode cX4_isThere 25 = .ok (.iconst 0, 1) := by decide +kernel
theorem dX4_isThere_26 : decode cX4_isThere 26 = .ok (.ireturn, 1) := by decide +kernel
theorem dX4_hasQuarrel_0 : decode cX4_hasQuarrel 0 = .ok (.iload_n 1, 1) := by decide +kernel
theorem dX4_hasQuarrel_1 : decode cX4_hasQuarrel 1 = .ok (.ifCond .lt 15, 3) := by decide +kernel
theorem dX4_hasQuarrel_4 : decode cX4_hasQuarrel 4 = .ok (.iload_n 1, 1) := by decide +kernel
theorem dX4_hasQuarrel_5 : decode cX4_hasQuarrel 5 = .ok (.aload_n 0, 1) := by decide +kernel
theorem dX4_hasQuarrel_6 : decode cX4_hasQuarrel 6 = .ok (.getfield 48, 3) := by decide +kernel
theorem dX4_hasQuarrel_9 : decode cX4_hasQuarrel 9 = .ok (.if_icmp .ge 7, 3) := by decide +kernel
theorem dX4_hasQuarrel_16 : decode cX4_hasQuarrel 16 = .ok (.iconst 0, 1) := by decide +kernel
theorem dX4_hasQuarrel_17 : decode cX4_hasQuarrel 17 = .ok (.ireturn, 1) := by decide +kernel
theorem dX4_clear_0 : decode cX4_clear 0 = .ok (.aload_n 0, 1) := by decide +kernel
theorem dX4_clear_1 : decode cX4_clear 1 = .ok (.aconst_null, 1) := by decide +kernel
theorem dX4_clear_2 : decode cX4_clear 2 = .ok (.putfield 38, 3) := by decide +kernel
theorem dX4_clear_5 : decode cX4_clear 5 = .ok (.aload_n 0, 1) := by decide +kernel
theorem dX4_clear_6 : decode cX4_clear 6 = .ok (.aconst_null, 1) := by decide +kernel
theorem dX4_clear_7 : decode cX4_clear 7 = .ok (.putfield 42, 3) := by decide +kernel
theorem dX4_clear_10 : decode cX4_clear 10 = .ok (.aload_n 0, 1) := by decide +kernel
theorem dX4_clear_11 : decode cX4_clear 11 = .ok (.aconst_null, 1) := by decide +kernel
theorem dX4_clear_12 : decode cX4_clear 12 = .ok (.putfield 45, 3) := by decide +kernel
theorem dX4_clear_15 : decode cX4_clear 15 = .ok (.aload_n 0, 1) := by decide +kernel
theorem dX4_clear_16 : decode cX4_clear 16 = .ok (.iconst 0, 1) := by decide +kernel
theorem dX4_clear_17 : decode cX4_clear 17 = .ok (.putfield 52, 3) := by decide +kernel
theorem dX4_clear_20 : decode cX4_clear 20 = .ok (.aload_n 0, 1) := by decide +kernel
theorem dX4_clear_21 : decode cX4_clear 21 = .ok (.iconst 0, 1) := by decide +kernel
theorem dX4_clear_22 : decode cX4_clear 22 = .ok (.putfield 48, 3) := by decide +kernel
theorem dX4_clear_25 : decode cX4_clear 25 = .ok (.return_, 1) := by decide +kernel
theorem dX4_copyFrom_0 : decode cX4_copyFrom 0 = .ok (.aload_n 1, 1) := by decide +kernel
theorem dX4_copyFrom_1 : decode cX4_copyFrom 1 = .ok (.invokevirtual 55, 3) := by decide +kernel
theorem dX4_copyFrom_4 : decode cX4_copyFrom 4 = .ok (.ifCond .ne 8, 3) := by decide +kernel
theorem dX4_copyFrom_7 : decode cX4_copyFrom 7 = .ok (.aload_n 0, 1) := by decide +kernel
theorem dX4_copyFrom_8 : decode cX4_copyFrom 8 = .ok (.invokevirtual 59, 3) := by decide +kernel
theorem dX4_copyFrom_11 : decode cX4_copyFrom 11 = .ok (.return_, 1) := by decide +kernel
theorem dX5_init_0 : decode cX5_init 0 = .ok (.aload_n 0, 1) := by decide +kernel
theorem dX5_init_1 : decode cX5_init 1 = .ok (.invokespecial 5, 3) := by decide +kernel
theorem dX5_init_4 : decode cX5_init 4 = .ok (.aload_n 0, 1) := by decide +kernel
theorem dX5_init_5 : decode cX5_init 5 = .ok (.sipush 144, 3) := by decide +kernel
theorem dX5_init_8 : decode cX5_init 8 = .ok (.newarray .boolean, 2) := by decide +kernel
theorem dX5_init_10 : decode cX5_init 10 = .ok (.putfield 13, 3) := by decide +kernel
theorem dX5_init_13 : decode cX5_init 13 = .ok (.aload_n 0, 1) := by decide +kernel
theorem dX5_init_14 : decode cX5_init 14 = .ok (.bipush 12, 2) := by decide +kernel
theorem dX5_init_16 : decode cX5_init 16 = .ok (.newarray .boolean, 2) := by decide +kernel
theorem dX5_init_18 : decode cX5_init 18 = .ok (.putfield 17, 3) := by decide +kernel
theorem dX5_init_21 : decode cX5_init 21 = .ok (.aload_n 0, 1) := by decide +kernel
theorem dX5_init_22 : decode cX5_init 22 = .ok (.bipush 64, 2) := by decide +kernel
theorem dX5_init_24 : decode cX5_init 24 = .ok (.newarray .int, 2) := by decide +kernel
theorem dX5_init_26 : decode cX5_init 26 = .ok (.putfield 20, 3) := by decide +kernel
theorem dX5_init_29 : decode cX5_init 29 = .ok (.aload_n 0, 1) := by decide +kernel
theorem dX5_init_30 : decode cX5_init 30 = .ok (.sipush 256, 3) := by decide +kernel
theorem dX5_init_33 : decode cX5_init 33 = .ok (.newarray .int, 2) := by decide +kernel
theorem dX5_init_35 : decode cX5_init 35 = .ok (.putfield 24, 3) := by decide +kernel
theorem dX5_init_38 : decode cX5_init 38 = .ok (.return_, 1) := by decide +kernel
theorem dX6_init_0 : decode cX6_init 0 = .ok (.aload_n 0, 1) := by decide +kernel
theorem dX6_init_1 : decode cX6_init 1 = .ok (.invokespecial 3, 3) := by decide +kernel
theorem dX6_init_4 : decode cX6_init 4 = .ok (.iload_n 1, 1) := by decide +kernel
theorem dX6_init_5 : decode cX6_init 5 = .ok (.iconst 0, 1) := by decide +kernel
theorem dX6_init_6 : decode cX6_init 6 = .ok (.invokestatic 9, 3) := by decide +kernel
theorem dX6_init_9 : decode cX6_init 9 = .ok (.istore_n 2, 1) := by decide +kernel
theorem dX6_init_10 : decode cX6_init 10 = .ok (.aload_n 0, 1) := by decide +kernel
theorem dX6_init_11 : decode cX6_init 11 = .ok (.iload_n 2, 1) := by decide +kernel
theorem dX6_init_12 : decode cX6_init 12 = .ok (.newarray .long, 2) := by decide +kernel
theorem dX6_init_14 : decode cX6_init 14 = .ok (.putfield 15, 3) := by decide +kernel
theorem dX6_init_17 : decode cX6_init 17 = .ok (.aload_n 0, 1) := by decide +kernel
theorem dX6_init_18 : decode cX6_init 18 = .ok (.iload_n 2, 1) := by decide +kernel
theorem dX6_init_19 : decode cX6_init 19 = .ok (.newarray .long, 2) := by decide +kernel
theorem dX6_init_21 : decode cX6_init 21 = .ok (.putfield 21, 3) := by decide +kernel
theorem dX6_init_24 : decode cX6_init 24 = .ok (.aload_n 0, 1) := by decide +kernel
theorem dX6_init_25 : decode cX6_init 25 = .ok (.iload_n 2, 1) := by decide +kernel
theorem dX6_init_26 : decode cX6_init 26 = .ok (.newarray .int, 2) := by decide +kernel
theorem dX6_init_28 : decode cX6_init 28 = .ok (.putfield 24, 3) := by decide +kernel
theorem dX6_init_31 : decode cX6_init 31 = .ok (.aload_n 0, 1) := by decide +kernel
theorem dX6_init_32 : decode cX6_init 32 = .ok (.iload_n 2, 1) := by decide +kernel
theorem dX6_init_33 : decode cX6_init 33 = .ok (.newarray .int, 2) := by decide +kernel
theorem dX6_init_35 : decode cX6_init 35 = .ok (.putfield 28, 3) := by decide +kernel
theorem dX6_init_38 : decode cX6_init 38 = .ok (.aload_n 0, 1) := by decide +kernel
theorem dX6_init_39 : decode cX6_init 39 = .ok (.iload_n 2, 1) := by decide +kernel
theorem dX6_init_40 : decode cX6_init 40 = .ok (.newarray .int, 2) := by decide +kernel
theorem dX6_init_42 : decode cX6_init 42 = .ok (.putfield 31, 3) := by decide +kernel
theorem dX6_init_45 : decode cX6_init 45 = .ok (.aload_n 0, 1) := by decide +kernel
theorem dX6_init_46 : decode cX6_init 46 = .ok (.iload_n 2, 1) := by decide +kernel
theorem dX6_init_47 : decode cX6_init 47 = .ok (.iconst 4, 1) := by decide +kernel
theorem dX6_init_48 : decode cX6_init 48 = .ok (.imul, 1) := by decide +kernel
theorem dX6_init_49 : decode cX6_init 49 = .ok (.newarray .long, 2) := by decide +kernel
theorem dX6_init_51 : decode cX6_init 51 = .ok (.putfield 34, 3) := by decide +kernel
theorem dX6_init_54 : decode cX6_init 54 = .ok (.aload_n 0, 1) := by decide +kernel
theorem dX6_init_55 : decode cX6_init 55 = .ok (.iload_n 2, 1) := by decide +kernel
theorem dX6_init_56 : decode cX6_init 56 = .ok (.iconst 4, 1) := by decide +kernel
theorem dX6_init_57 : decode cX6_init 57 = .ok (.imul, 1) := by decide +kernel
theorem dX6_init_58 : decode cX6_init 58 = .ok (.newarray .int, 2) := by decide +kernel
theorem dX6_init_60 : decode cX6_init 60 = .ok (.putfield 37, 3) := by decide +kernel
theorem dX6_init_63 : decode cX6_init 63 = .ok (.aload_n 0, 1) := by decide +kernel
theorem dX6_init_64 : decode cX6_init 64 = .ok (.iload_n 2, 1) := by decide +kernel
theorem dX6_init_65 : decode cX6_init 65 = .ok (.newarray .boolean, 2) := by decide +kernel
theorem dX6_init_67 : decode cX6_init 67 = .ok (.putfield 40, 3) := by decide +kernel
theorem dX6_init_70 : decode cX6_init 70 = .ok (.aload_n 0, 1) := by decide +kernel
theorem dX6_init_71 : decode cX6_init 71 = .ok (.iload_n 2, 1) := by decide +kernel
theorem dX6_init_72 : decode cX6_init 72 = .ok (.newarray .int, 2) := by decide +kernel
theorem dX6_init_74 : decode cX6_init 74 = .ok (.putfield 44, 3) := by decide +kernel
theorem dX6_init_77 : decode cX6_init 77 = .ok (.return_, 1) := by decide +kernel
theorem dX6_workOut_0 : decode cX6_workOut 0 = .ok (.aload_n 0, 1) := by decide +kernel
theorem dX6_workOut_1 : decode cX6_workOut 1 = .ok (.iconst 0, 1) := by decide +kernel
theorem dX6_workOut_2 : decode cX6_workOut 2 = .ok (.putfield 65, 3) := by decide +kernel
theorem dX6_workOut_5 : decode cX6_workOut 5 = .ok (.aload_n 0, 1) := by decide +kernel
theorem dX6_workOut_6 : decode cX6_workOut 6 = .ok (.iconst 0, 1) := by decide +kernel
theorem dX6_workOut_7 : decode cX6_workOut 7 = .ok (.putfield 68, 3) := by decide +kernel
theorem dX6_workOut_10 : decode cX6_workOut 10 = .ok (.aload_n 0, 1) := by decide +kernel
theorem dX6_workOut_11 : decode cX6_workOut 11 = .ok (.iconst 0, 1) := by decide +kernel
theorem dX6_workOut_12 : decode cX6_workOut 12 = .ok (.putfield 71, 3) := by decide +kernel
theorem dX6_workOut_15 : decode cX6_workOut 15 = .ok (.aload_n 0, 1) := by decide +kernel
theorem dX6_workOut_16 : decode cX6_workOut 16 = .ok (.iconst 0, 1) := by decide +kernel
theorem dX6_workOut_17 : decode cX6_workOut 17 = .ok (.putfield 74, 3) := by decide +kernel
theorem dX6_workOut_20 : decode cX6_workOut 20 = .ok (.iconst 0, 1) := by decide +kernel
theorem dX6_workOut_21 : decode cX6_workOut 21 = .ok (.istore_n 1, 1) := by decide +kernel
theorem dX6_workOut_22 : decode cX6_workOut 22 = .ok (.iload_n 1, 1) := by decide +kernel
theorem dX6_workOut_23 : decode cX6_workOut 23 = .ok (.aload_n 0, 1) := by decide +kernel
theorem dX6_workOut_24 : decode cX6_workOut 24 = .ok (.getfield 47, 3) := by decide +kernel
theorem dX6_workOut_27 : decode cX6_workOut 27 = .ok (.if_icmp .ge 68, 3) := by decide +kernel
theorem dX6_workOut_95 : decode cX6_workOut 95 = .ok (.iconst 0, 1) := by decide +kernel
theorem dX6_workOut_96 : decode cX6_workOut 96 = .ok (.istore_n 1, 1) := by decide +kernel
theorem dX6_workOut_97 : decode cX6_workOut 97 = .ok (.iload_n 1, 1) := by decide +kernel
theorem dX6_workOut_98 : decode cX6_workOut 98 = .ok (.aload_n 0, 1) := by decide +kernel
theorem dX6_workOut_99 : decode cX6_workOut 99 = .ok (.getfield 47, 3) := by decide +kernel
theorem dX6_workOut_102 : decode cX6_workOut 102 = .ok (.if_icmp .ge 32, 3) := by decide +kernel
theorem dX6_workOut_134 : decode cX6_workOut 134 = .ok (.return_, 1) := by decide +kernel
theorem dX7_init_0 : decode cX7_init 0 = .ok (.aload_n 0, 1) := by decide +kernel
theorem dX7_init_1 : decode cX7_init 1 = .ok (.invokespecial 3, 3) := by decide +kernel
theorem dX7_init_4 : decode cX7_init 4 = .ok (.aload_n 0, 1) := by decide +kernel
theorem dX7_init_5 : decode cX7_init 5 = .ok (.aload_n 1, 1) := by decide +kernel
theorem dX7_init_6 : decode cX7_init 6 = .ok (.putfield 9, 3) := by decide +kernel
theorem dX7_init_9 : decode cX7_init 9 = .ok (.aload_n 0, 1) := by decide +kernel
theorem dX7_init_10 : decode cX7_init 10 = .ok (.bipush 6, 2) := by decide +kernel
theorem dX7_init_12 : decode cX7_init 12 = .ok (.newarray .long, 2) := by decide +kernel
theorem dX7_init_14 : decode cX7_init 14 = .ok (.putfield 15, 3) := by decide +kernel
theorem dX7_init_17 : decode cX7_init 17 = .ok (.aload_n 0, 1) := by decide +kernel
theorem dX7_init_18 : decode cX7_init 18 = .ok (.bipush 6, 2) := by decide +kernel
theorem dX7_init_20 : decode cX7_init 20 = .ok (.newarray .long, 2) := by decide +kernel
theorem dX7_init_22 : decode cX7_init 22 = .ok (.putfield 19, 3) := by decide +kernel
theorem dX7_init_25 : decode cX7_init 25 = .ok (.return_, 1) := by decide +kernel
theorem dX7_read_0 : decode cX7_read 0 = .ok (.aload_n 0, 1) := by decide +kernel
theorem dX7_read_1 : decode cX7_read 1 = .ok (.iconst 0, 1) := by decide +kernel
theorem dX7_read_2 : decode cX7_read 2 = .ok (.putfield 22, 3) := by decide +kernel
theorem dX7_read_5 : decode cX7_read 5 = .ok (.aload_n 1, 1) := by decide +kernel
theorem dX7_read_6 : decode cX7_read 6 = .ok (.iconst 0, 1) := by decide +kernel
theorem dX7_read_7 : decode cX7_read 7 = .ok (.putfield 26, 3) := by decide +kernel
theorem dX7_read_10 : decode cX7_read 10 = .ok (.iconst 0, 1) := by decide +kernel
theorem dX7_read_11 : decode cX7_read 11 = .ok (.istore_n 2, 1) := by decide +kernel
theorem dX7_read_12 : decode cX7_read 12 = .ok (.iload_n 2, 1) := by decide +kernel
theorem dX7_read_13 : decode cX7_read 13 = .ok (.bipush 6, 2) := by decide +kernel
theorem dX7_read_15 : decode cX7_read 15 = .ok (.if_icmp .gt 30, 3) := by decide +kernel
theorem dX7_read_18 : decode cX7_read 18 = .ok (.aload_n 0, 1) := by decide +kernel
theorem dX7_read_19 : decode cX7_read 19 = .ok (.getfield 9, 3) := by decide +kernel
theorem dX7_read_22 : decode cX7_read 22 = .ok (.getfield 31, 3) := by decide +kernel
theorem dX7_read_25 : decode cX7_read 25 = .ok (.bipush 100, 2) := by decide +kernel
theorem dX7_read_27 : decode cX7_read 27 = .ok (.if_icmp .ne 18, 3) := by decide +kernel
theorem dX7_read_45 : decode cX7_read 45 = .ok (.iconst 0, 1) := by decide +kernel
theorem dX7_read_46 : decode cX7_read 46 = .ok (.istore_n 2, 1) := by decide +kernel
theorem dX7_read_47 : decode cX7_read 47 = .ok (.iload_n 2, 1) := by decide +kernel
theorem dX7_read_48 : decode cX7_read 48 = .ok (.bipush 12, 2) := by decide +kernel
theorem dX7_read_50 : decode cX7_read 50 = .ok (.if_icmp .gt 31, 3) := by decide +kernel
theorem dX7_read_53 : decode cX7_read 53 = .ok (.aload_n 0, 1) := by decide +kernel
theorem dX7_read_54 : decode cX7_read 54 = .ok (.getfield 9, 3) := by decide +kernel
theorem dX7_read_57 : decode cX7_read 57 = .ok (.getfield 31, 3) := by decide +kernel
theorem dX7_read_60 : decode cX7_read 60 = .ok (.bipush 101, 2) := by decide +kernel
theorem dX7_read_62 : decode cX7_read 62 = .ok (.if_icmp .ne 19, 3) := by decide +kernel
theorem dX7_read_81 : decode cX7_read 81 = .ok (.aload_n 0, 1) := by decide +kernel
theorem dX7_read_82 : decode cX7_read 82 = .ok (.getfield 9, 3) := by decide +kernel
theorem dX7_read_85 : decode cX7_read 85 = .ok (.getfield 31, 3) := by decide +kernel
theorem dX7_read_88 : decode cX7_read 88 = .ok (.iconst 1, 1) := by decide +kernel
theorem dX7_read_89 : decode cX7_read 89 = .ok (.if_icmp .eq 11, 3) := by decide +kernel
theorem dX7_read_100 : decode cX7_read 100 = .ok (.aload_n 1, 1) := by decide +kernel
theorem dX7_read_101 : decode cX7_read 101 = .ok (.invokevirtual 47, 3) := by decide +kernel
theorem dX7_read_104 : decode cX7_read 104 = .ok (.iconst 1, 1) := by decide +kernel
theorem dX7_read_105 : decode cX7_read 105 = .ok (.ireturn, 1) := by decide +kernel
theorem dX8_start_0 : decode cX8_start 0 = .ok (.aload_n 0, 1) := by decide +kernel
theorem dX8_start_1 : decode cX8_start 1 = .ok (.aload_n 1, 1) := by decide +kernel
theorem dX8_start_2 : decode cX8_start 2 = .ok (.putfield 15, 3) := by decide +kernel
theorem dX8_start_5 : decode cX8_start 5 = .ok (.aload_n 0, 1) := by decide +kernel
theorem dX8_start_6 : decode cX8_start 6 = .ok (.iload_n 2, 1) := by decide +kernel
theorem dX8_start_7 : decode cX8_start 7 = .ok (.aload_n 1, 1) := by decide +kernel
theorem dX8_start_8 : decode cX8_start 8 = .ok (.arraylength, 1) := by decide +kernel
theorem dX8_start_9 : decode cX8_start 9 = .ok (.invokestatic 35, 3) := by decide +kernel
theorem dX8_start_12 : decode cX8_start 12 = .ok (.putfield 41, 3) := by decide +kernel
theorem dX8_start_15 : decode cX8_start 15 = .ok (.aload_n 0, 1) := by decide +kernel
theorem dX8_start_16 : decode cX8_start 16 = .ok (.iconst 0, 1) := by decide +kernel
theorem dX8_start_17 : decode cX8_start 17 = .ok (.putfield 43, 3) := by decide +kernel
theorem dX8_start_20 : decode cX8_start 20 = .ok (.aload_n 0, 1) := by decide +kernel
theorem dX8_start_21 : decode cX8_start 21 = .ok (.iconst 0, 1) := by decide +kernel
theorem dX8_start_22 : decode cX8_start 22 = .ok (.putfield 46, 3) := by decide +kernel
theorem dX8_start_25 : decode cX8_start 25 = .ok (.aload_n 0, 1) := by decide +kernel
theorem dX8_start_26 : decode cX8_start 26 = .ok (.iconst (-1), 1) := by decide +kernel
theorem dX8_start_27 : decode cX8_start 27 = .ok (.putfield 19, 3) := by decide +kernel
theorem dX8_start_30 : decode cX8_start 30 = .ok (.aload_n 0, 1) := by decide +kernel
theorem dX8_start_31 : decode cX8_start 31 = .ok (.invokevirtual 49, 3) := by decide +kernel
theorem dX8_start_34 : decode cX8_start 34 = .ok (.return_, 1) := by decide +kernel
theorem dX8_next_0 : decode cX8_next 0 = .ok (.aload_n 0, 1) := by decide +kernel
theorem dX8_next_1 : decode cX8_next 1 = .ok (.getfield 43, 3) := by decide +kernel
theorem dX8_next_4 : decode cX8_next 4 = .ok (.aload_n 0, 1) := by decide +kernel
theorem dX8_next_5 : decode cX8_next 5 = .ok (.getfield 41, 3) := by decide +kernel
theorem dX8_next_8 : decode cX8_next 8 = .ok (.if_icmp .ge 44, 3) := by decide +kernel
theorem dX8_next_52 : decode cX8_next 52 = .ok (.aload_n 0, 1) := by decide +kernel
theorem dX8_next_53 : decode cX8_next 53 = .ok (.aload_n 0, 1) := by decide +kernel
theorem dX8_next_54 : decode cX8_next 54 = .ok (.getfield 43, 3) := by decide +kernel
theorem dX8_next_57 : decode cX8_next 57 = .ok (.putfield 52, 3) := by decide +kernel
theorem dX8_next_60 : decode cX8_next 60 = .ok (.aload_n 0, 1) := by decide +kernel
theorem dX8_next_61 : decode cX8_next 61 = .ok (.getfield 43, 3) := by decide +kernel
theorem dX8_next_64 : decode cX8_next 64 = .ok (.aload_n 0, 1) := by decide +kernel
theorem dX8_next_65 : decode cX8_next 65 = .ok (.getfield 41, 3) := by decide +kernel
theorem dX8_next_68 : decode cX8_next 68 = .ok (.if_icmp .lt 11, 3) := by decide +kernel
theorem dX8_next_71 : decode cX8_next 71 = .ok (.aload_n 0, 1) := by decide +kernel
theorem dX8_next_72 : decode cX8_next 72 = .ok (.iconst 1, 1) := by decide +kernel
theorem dX8_next_73 : decode cX8_next 73 = .ok (.putfield 55, 3) := by decide +kernel
theorem dX8_next_76 : decode cX8_next 76 = .ok (.goto 92, 3) := by decide +kernel
theorem dX8_next_168 : decode cX8_next 168 = .ok (.return_, 1) := by decide +kernel
theorem dX8_blame_0 : decode cX8_blame 0 = .ok (.aload_n 0, 1) := by decide +kernel
theorem dX8_blame_1 : decode cX8_blame 1 = .ok (.iload_n 1, 1) := by decide +kernel
theorem dX8_blame_2 : decode cX8_blame 2 = .ok (.putfield 46, 3) := by decide +kernel
theorem dX8_blame_5 : decode cX8_blame 5 = .ok (.aload_n 0, 1) := by decide +kernel
theorem dX8_blame_6 : decode cX8_blame 6 = .ok (.aload_n 0, 1) := by decide +kernel
theorem dX8_blame_7 : decode cX8_blame 7 = .ok (.getfield 52, 3) := by decide +kernel
theorem dX8_blame_10 : decode cX8_blame 10 = .ok (.putfield 19, 3) := by decide +kernel
theorem dX8_blame_13 : decode cX8_blame 13 = .ok (.iconst 0, 1) := by decide +kernel
theorem dX8_blame_14 : decode cX8_blame 14 = .ok (.ireturn, 1) := by decide +kernel
theorem dX8_refuse_0 : decode cX8_refuse 0 = .ok (.aload_n 0, 1) := by decide +kernel
theorem dX8_refuse_1 : decode cX8_refuse 1 = .ok (.aload_n 0, 1) := by decide +kernel
theorem dX8_refuse_2 : decode cX8_refuse 2 = .ok (.getfield 55, 3) := by decide +kernel
theorem dX8_refuse_5 : decode cX8_refuse 5 = .ok (.ifCond .ne 7, 3) := by decide +kernel
theorem dX8_refuse_12 : decode cX8_refuse 12 = .ok (.iconst 2, 1) := by decide +kernel
theorem dX8_refuse_13 : decode cX8_refuse 13 = .ok (.invokevirtual 84, 3) := by decide +kernel
theorem dX8_refuse_16 : decode cX8_refuse 16 = .ok (.ireturn, 1) := by decide +kernel
theorem dX8_pass_0 : decode cX8_pass 0 = .ok (.aload_n 0, 1) := by decide +kernel
theorem dX8_pass_1 : decode cX8_pass 1 = .ok (.getfield 55, 3) := by decide +kernel
theorem dX8_pass_4 : decode cX8_pass 4 = .ok (.iload_n 1, 1) := by decide +kernel
theorem dX8_pass_5 : decode cX8_pass 5 = .ok (.if_icmp .eq 8, 3) := by decide +kernel
theorem dX8_pass_8 : decode cX8_pass 8 = .ok (.aload_n 0, 1) := by decide +kernel
theorem dX8_pass_9 : decode cX8_pass 9 = .ok (.invokevirtual 87, 3) := by decide +kernel
theorem dX8_pass_12 : decode cX8_pass 12 = .ok (.ireturn, 1) := by decide +kernel
theorem dX9_init_0 : decode cX9_init 0 = .ok (.aload_n 0, 1) := by decide +kernel
theorem dX9_init_1 : decode cX9_init 1 = .ok (.invokespecial 3, 3) := by decide +kernel
theorem dX9_init_4 : decode cX9_init 4 = .ok (.aload_n 0, 1) := by decide +kernel
theorem dX9_init_5 : decode cX9_init 5 = .ok (.sipush 400, 3) := by decide +kernel
theorem dX9_init_8 : decode cX9_init 8 = .ok (.newarray .int, 2) := by decide +kernel
theorem dX9_init_10 : decode cX9_init 10 = .ok (.putfield 9, 3) := by decide +kernel
theorem dX9_init_13 : decode cX9_init 13 = .ok (.aload_n 0, 1) := by decide +kernel
theorem dX9_init_14 : decode cX9_init 14 = .ok (.sipush 400, 3) := by decide +kernel
theorem dX9_init_17 : decode cX9_init 17 = .ok (.newarray .long, 2) := by decide +kernel
theorem dX9_init_19 : decode cX9_init 19 = .ok (.putfield 15, 3) := by decide +kernel
theorem dX9_init_22 : decode cX9_init 22 = .ok (.aload_n 0, 1) := by decide +kernel
theorem dX9_init_23 : decode cX9_init 23 = .ok (.bipush 41, 2) := by decide +kernel
theorem dX9_init_25 : decode cX9_init 25 = .ok (.newarray .int, 2) := by decide +kernel
theorem dX9_init_27 : decode cX9_init 27 = .ok (.putfield 19, 3) := by decide +kernel
theorem dX9_init_30 : decode cX9_init 30 = .ok (.return_, 1) := by decide +kernel
theorem dX10_init_0 : decode cX10_init 0 = .ok (.aload_n 0, 1) := by decide +kernel
theorem dX10_init_1 : decode cX10_init 1 = .ok (.invokespecial 3, 3) := by decide +kernel
theorem dX10_init_4 : decode cX10_init 4 = .ok (.aload_n 0, 1) := by decide +kernel
theorem dX10_init_5 : decode cX10_init 5 = .ok (.aload_n 1, 1) := by decide +kernel
theorem dX10_init_6 : decode cX10_init 6 = .ok (.putfield 9, 3) := by decide +kernel
theorem dX10_init_9 : decode cX10_init 9 = .ok (.return_, 1) := by decide +kernel
theorem dX10_read_0 : decode cX10_read 0 = .ok (.aload_n 0, 1) := by decide +kernel
theorem dX10_read_1 : decode cX10_read 1 = .ok (.aload_n 1, 1) := by decide +kernel
theorem dX10_read_2 : decode cX10_read 2 = .ok (.putfield 15, 3) := by decide +kernel
theorem dX10_read_5 : decode cX10_read 5 = .ok (.aload_n 0, 1) := by decide +kernel
theorem dX10_read_6 : decode cX10_read 6 = .ok (.getfield 15, 3) := by decide +kernel
theorem dX10_read_9 : decode cX10_read 9 = .ok (.iconst 0, 1) := by decide +kernel
theorem dX10_read_10 : decode cX10_read 10 = .ok (.putfield 19, 3) := by decide +kernel
theorem dX10_read_13 : decode cX10_read 13 = .ok (.aload_n 0, 1) := by decide +kernel
theorem dX10_read_14 : decode cX10_read 14 = .ok (.getfield 15, 3) := by decide +kernel
theorem dX10_read_17 : decode cX10_read 17 = .ok (.iconst 0, 1) := by decide +kernel
theorem dX10_read_18 : decode cX10_read 18 = .ok (.putfield 25, 3) := by decide +kernel
theorem dX10_read_21 : decode cX10_read 21 = .ok (.aload_n 0, 1) := by decide +kernel
theorem dX10_read_22 : decode cX10_read 22 = .ok (.getfield 9, 3) := by decide +kernel
theorem dX10_read_25 : decode cX10_read 25 = .ok (.bipush 106, 2) := by decide +kernel
theorem dX10_read_27 : decode cX10_read 27 = .ok (.invokevirtual 30, 3) := by decide +kernel
theorem dX10_read_30 : decode cX10_read 30 = .ok (.ifCond .eq 23, 3) := by decide +kernel
theorem dX10_read_53 : decode cX10_read 53 = .ok (.iconst 0, 1) := by decide +kernel
theorem dX10_read_54 : decode cX10_read 54 = .ok (.ireturn, 1) := by decide +kernel
theorem dX11_feed_0 : decode cX11_feed 0 = .ok (.aload_n 0, 1) := by decide +kernel
theorem dX11_feed_1 : decode cX11_feed 1 = .ok (.getfield 107, 3) := by decide +kernel
theorem dX11_feed_4 : decode cX11_feed 4 = .ok (.bipush 20, 2) := by decide +kernel
theorem dX11_feed_6 : decode cX11_feed 6 = .ok (.iadd, 1) := by decide +kernel
theorem dX11_feed_7 : decode cX11_feed 7 = .ok (.sipush 1200, 3) := by decide +kernel
theorem dX11_feed_10 : decode cX11_feed 10 = .ok (.if_icmp .le 5, 3) := by decide +kernel
theorem dX11_feed_15 : decode cX11_feed 15 = .ok (.aload_n 0, 1) := by decide +kernel
theorem dX11_feed_16 : decode cX11_feed 16 = .ok (.iload_n 1, 1) := by decide +kernel
theorem dX11_feed_17 : decode cX11_feed 17 = .ok (.invokevirtual 110, 3) := by decide +kernel
theorem dX11_feed_20 : decode cX11_feed 20 = .ok (.aload_n 0, 1) := by decide +kernel
theorem dX11_feed_21 : decode cX11_feed 21 = .ok (.iload_n 2, 1) := by decide +kernel
theorem dX11_feed_22 : decode cX11_feed 22 = .ok (.invokevirtual 110, 3) := by decide +kernel
theorem dX11_feed_25 : decode cX11_feed 25 = .ok (.aload_n 0, 1) := by decide +kernel
theorem dX11_feed_26 : decode cX11_feed 26 = .ok (.iload_n 3, 1) := by decide +kernel
theorem dX11_feed_27 : decode cX11_feed 27 = .ok (.invokevirtual 110, 3) := by decide +kernel
theorem dX11_feed_30 : decode cX11_feed 30 = .ok (.aload_n 0, 1) := by decide +kernel
theorem dX11_feed_31 : decode cX11_feed 31 = .ok (.iload 4, 2) := by decide +kernel
theorem dX11_feed_33 : decode cX11_feed 33 = .ok (.invokevirtual 110, 3) := by decide +kernel
theorem dX11_feed_36 : decode cX11_feed 36 = .ok (.aload_n 0, 1) := by decide +kernel
theorem dX11_feed_37 : decode cX11_feed 37 = .ok (.iload 5, 2) := by decide +kernel
theorem dX11_feed_39 : decode cX11_feed 39 = .ok (.invokevirtual 110, 3) := by decide +kernel
theorem dX11_feed_42 : decode cX11_feed 42 = .ok (.aload_n 0, 1) := by decide +kernel
theorem dX11_feed_43 : decode cX11_feed 43 = .ok (.getfield 107, 3) := by decide +kernel
theorem dX11_feed_46 : decode cX11_feed 46 = .ok (.ireturn, 1) := by decide +kernel
theorem dX11_putFour_0 : decode cX11_putFour 0 = .ok (.bipush 24, 2) := by decide +kernel
theorem dX11_putFour_2 : decode cX11_putFour 2 = .ok (.istore_n 2, 1) := by decide +kernel
theorem dX11_putFour_3 : decode cX11_putFour 3 = .ok (.iload_n 2, 1) := by decide +kernel
theorem dX11_putFour_4 : decode cX11_putFour 4 = .ok (.ifCond .lt 35, 3) := by decide +kernel
theorem dX11_putFour_7 : decode cX11_putFour 7 = .ok (.aload_n 0, 1) := by decide +kernel
theorem dX11_putFour_8 : decode cX11_putFour 8 = .ok (.getfield 9, 3) := by decide +kernel
theorem dX11_putFour_11 : decode cX11_putFour 11 = .ok (.aload_n 0, 1) := by decide +kernel
theorem dX11_putFour_12 : decode cX11_putFour 12 = .ok (.getfield 107, 3) := by decide +kernel
theorem dX11_putFour_15 : decode cX11_putFour 15 = .ok (.iload_n 1, 1) := by decide +kernel
theorem dX11_putFour_16 : decode cX11_putFour 16 = .ok (.iload_n 2, 1) := by decide +kernel
theorem dX11_putFour_17 : decode cX11_putFour 17 = .ok (.iushr, 1) := by decide +kernel
theorem dX11_putFour_18 : decode cX11_putFour 18 = .ok (.sipush 255, 3) := by decide +kernel
theorem dX11_putFour_21 : decode cX11_putFour 21 = .ok (.iand, 1) := by decide +kernel
theorem dX11_putFour_22 : decode cX11_putFour 22 = .ok (.iastore, 1) := by decide +kernel
theorem dX11_putFour_23 : decode cX11_putFour 23 = .ok (.aload_n 0, 1) := by decide +kernel
theorem dX11_putFour_24 : decode cX11_putFour 24 = .ok (.dup, 1) := by decide +kernel
theorem dX11_putFour_25 : decode cX11_putFour 25 = .ok (.getfield 107, 3) := by decide +kernel
theorem dX11_putFour_28 : decode cX11_putFour 28 = .ok (.iconst 1, 1) := by decide +kernel
theorem dX11_putFour_29 : decode cX11_putFour 29 = .ok (.iadd, 1) := by decide +kernel
theorem dX11_putFour_30 : decode cX11_putFour 30 = .ok (.putfield 107, 3) := by decide +kernel
theorem dX11_putFour_33 : decode cX11_putFour 33 = .ok (.iinc 2 (-8), 3) := by decide +kernel
theorem dX11_putFour_36 : decode cX11_putFour 36 = .ok (.goto (-33), 3) := by decide +kernel
theorem dX11_putFour_39 : decode cX11_putFour 39 = .ok (.return_, 1) := by decide +kernel
theorem dX11_end_0 : decode cX11_end 0 = .ok (.iload_n 1, 1) := by decide +kernel
theorem dX11_end_1 : decode cX11_end 1 = .ok (.ifCond .lt 11, 3) := by decide +kernel
theorem dX11_end_4 : decode cX11_end 4 = .ok (.iload_n 1, 1) := by decide +kernel
theorem dX11_end_5 : decode cX11_end 5 = .ok (.aload_n 0, 1) := by decide +kernel
theorem dX11_end_6 : decode cX11_end 6 = .ok (.getfield 107, 3) := by decide +kernel
theorem dX11_end_9 : decode cX11_end 9 = .ok (.if_icmp .le 5, 3) := by decide +kernel
theorem dX11_end_12 : decode cX11_end 12 = .ok (.iconst (-1), 1) := by decide +kernel
theorem dX11_end_13 : decode cX11_end 13 = .ok (.ireturn, 1) := by decide +kernel
theorem dX11_end_14 : decode cX11_end 14 = .ok (.aload_n 0, 1) := by decide +kernel
theorem dX11_end_15 : decode cX11_end 15 = .ok (.iload_n 1, 1) := by decide +kernel
theorem dX11_end_16 : decode cX11_end 16 = .ok (.putfield 107, 3) := by decide +kernel
theorem dX11_end_19 : decode cX11_end 19 = .ok (.iload_n 1, 1) := by decide +kernel
theorem dX11_end_20 : decode cX11_end 20 = .ok (.ireturn, 1) := by decide +kernel
theorem dX11_paper_0 : decode cX11_paper 0 = .ok (.aload_n 0, 1) := by decide +kernel
theorem dX11_paper_1 : decode cX11_paper 1 = .ok (.getfield 39, 3) := by decide +kernel
theorem dX11_paper_4 : decode cX11_paper 4 = .ok (.invokevirtual 113, 3) := by decide +kernel
theorem dX11_paper_7 : decode cX11_paper 7 = .ok (.ifCond .eq 11, 3) := by decide +kernel
theorem dX11_paper_18 : decode cX11_paper 18 = .ok (.aload_n 0, 1) := by decide +kernel
theorem dX11_paper_19 : decode cX11_paper 19 = .ok (.getfield 16, 3) := by decide +kernel
theorem dX11_paper_22 : decode cX11_paper 22 = .ok (.aload_n 0, 1) := by decide +kernel
theorem dX11_paper_23 : decode cX11_paper 23 = .ok (.getfield 9, 3) := by decide +kernel
theorem dX11_paper_26 : decode cX11_paper 26 = .ok (.aload_n 0, 1) := by decide +kernel
theorem dX11_paper_27 : decode cX11_paper 27 = .ok (.getfield 107, 3) := by decide +kernel
theorem dX11_paper_30 : decode cX11_paper 30 = .ok (.invokevirtual 117, 3) := by decide +kernel
theorem dX11_paper_33 : decode cX11_paper 33 = .ok (.aload_n 0, 1) := by decide +kernel
theorem dX11_paper_34 : decode cX11_paper 34 = .ok (.getfield 25, 3) := by decide +kernel
theorem dX11_paper_37 : decode cX11_paper 37 = .ok (.aload_n 0, 1) := by decide +kernel
theorem dX11_paper_38 : decode cX11_paper 38 = .ok (.getfield 56, 3) := by decide +kernel
theorem dX11_paper_41 : decode cX11_paper 41 = .ok (.invokevirtual 121, 3) := by decide +kernel
theorem dX11_paper_44 : decode cX11_paper 44 = .ok (.ifCond .ne 5, 3) := by decide +kernel
theorem dX11_paper_49 : decode cX11_paper 49 = .ok (.aload_n 0, 1) := by decide +kernel
theorem dX11_paper_50 : decode cX11_paper 50 = .ok (.iconst 0, 1) := by decide +kernel
theorem dX11_paper_51 : decode cX11_paper 51 = .ok (.putfield 107, 3) := by decide +kernel
theorem dX11_paper_54 : decode cX11_paper 54 = .ok (.aload_n 0, 1) := by decide +kernel
theorem dX11_paper_55 : decode cX11_paper 55 = .ok (.invokevirtual 125, 3) := by decide +kernel
theorem dX11_paper_58 : decode cX11_paper 58 = .ok (.ireturn, 1) := by decide +kernel
theorem dX11_keepSparePaper_0 : decode cX11_keepSparePaper 0 = .ok (.aload_n 0, 1) := by decide +kernel
theorem dX11_keepSparePaper_1 : decode cX11_keepSparePaper 1 = .ok (.getfield 39, 3) := by decide +kernel
theorem dX11_keepSparePaper_4 : decode cX11_keepSparePaper 4 = .ok (.aload_n 0, 1) := by decide +kernel
theorem dX11_keepSparePaper_5 : decode cX11_keepSparePaper 5 = .ok (.getfield 56, 3) := by decide +kernel
theorem dX11_keepSparePaper_8 : decode cX11_keepSparePaper 8 = .ok (.invokevirtual 129, 3) := by decide +kernel
theorem dX11_keepSparePaper_11 : decode cX11_keepSparePaper 11 = .ok (.istore_n 1, 1) := by decide +kernel
theorem dX11_keepSparePaper_12 : decode cX11_keepSparePaper 12 = .ok (.aload_n 0, 1) := by decide +kernel
theorem dX11_keepSparePaper_13 : decode cX11_keepSparePaper 13 = .ok (.new 51, 3) := by decide +kernel
theorem dX11_keepSparePaper_16 : decode cX11_keepSparePaper 16 = .ok (.dup, 1) := by decide +kernel
theorem dX11_keepSparePaper_17 : decode cX11_keepSparePaper 17 = .ok (.bipush 12, 2) := by decide +kernel
theorem dX11_keepSparePaper_19 : decode cX11_keepSparePaper 19 = .ok (.invokespecial 53, 3) := by decide +kernel
theorem dX11_keepSparePaper_22 : decode cX11_keepSparePaper 22 = .ok (.putfield 56, 3) := by decide +kernel
theorem dX11_keepSparePaper_25 : decode cX11_keepSparePaper 25 = .ok (.iload_n 1, 1) := by decide +kernel
theorem dX11_keepSparePaper_26 : decode cX11_keepSparePaper 26 = .ok (.ireturn, 1) := by decide +kernel
theorem dX11_want_0 : decode cX11_want 0 = .ok (.aload_n 0, 1) := by decide +kernel
theorem dX11_want_1 : decode cX11_want 1 = .ok (.getfield 107, 3) := by decide +kernel
theorem dX11_want_4 : decode cX11_want 4 = .ok (.sipush 400, 3) := by decide +kernel
theorem dX11_want_7 : decode cX11_want 7 = .ok (.if_icmp .le 6, 3) := by decide +kernel
theorem dX11_want_13 : decode cX11_want 13 = .ok (.aload_n 0, 1) := by decide +kernel
theorem dX11_want_14 : decode cX11_want 14 = .ok (.getfield 16, 3) := by decide +kernel
theorem dX11_want_17 : decode cX11_want 17 = .ok (.aload_n 0, 1) := by decide +kernel
theorem dX11_want_18 : decode cX11_want 18 = .ok (.getfield 9, 3) := by decide +kernel
theorem dX11_want_21 : decode cX11_want 21 = .ok (.aload_n 0, 1) := by decide +kernel
theorem dX11_want_22 : decode cX11_want 22 = .ok (.getfield 107, 3) := by decide +kernel
theorem dX11_want_25 : decode cX11_want 25 = .ok (.invokevirtual 117, 3) := by decide +kernel
theorem dX11_want_28 : decode cX11_want 28 = .ok (.aload_n 0, 1) := by decide +kernel
theorem dX11_want_29 : decode cX11_want 29 = .ok (.getfield 32, 3) := by decide +kernel
theorem dX11_want_32 : decode cX11_want 32 = .ok (.aload_n 0, 1) := by decide +kernel
theorem dX11_want_33 : decode cX11_want 33 = .ok (.getfield 67, 3) := by decide +kernel
theorem dX11_want_36 : decode cX11_want 36 = .ok (.invokevirtual 133, 3) := by decide +kernel
theorem dX11_want_39 : decode cX11_want 39 = .ok (.ifCond .ne 5, 3) := by decide +kernel
theorem dX11_want_42 : decode cX11_want 42 = .ok (.iconst (-1), 1) := by decide +kernel
theorem dX11_want_43 : decode cX11_want 43 = .ok (.ireturn, 1) := by decide +kernel
theorem dX11_fault_0 : decode cX11_fault 0 = .ok (.iload_n 1, 1) := by decide +kernel
theorem dX11_fault_1 : decode cX11_fault 1 = .ok (.ifCond .ne 11, 3) := by decide +kernel
theorem dX11_fault_4 : decode cX11_fault 4 = .ok (.aload_n 0, 1) := by decide +kernel
theorem dX11_fault_5 : decode cX11_fault 5 = .ok (.getfield 16, 3) := by decide +kernel
theorem dX11_fault_8 : decode cX11_fault 8 = .ok (.getfield 142, 3) := by decide +kernel
theorem dX11_fault_11 : decode cX11_fault 11 = .ok (.ireturn, 1) := by decide +kernel
theorem dX11_fault_12 : decode cX11_fault 12 = .ok (.iload_n 1, 1) := by decide +kernel
theorem dX11_fault_13 : decode cX11_fault 13 = .ok (.iconst 1, 1) := by decide +kernel
theorem dX11_fault_14 : decode cX11_fault 14 = .ok (.if_icmp .ne 13, 3) := by decide +kernel
theorem dX11_fault_17 : decode cX11_fault 17 = .ok (.aload_n 0, 1) := by decide +kernel
theorem dX11_fault_18 : decode cX11_fault 18 = .ok (.getfield 16, 3) := by decide +kernel
theorem dX11_fault_21 : decode cX11_fault 21 = .ok (.getfield 145, 3) := by decide +kernel
theorem dX11_fault_24 : decode cX11_fault 24 = .ok (.goto 4, 3) := by decide +kernel
theorem dX11_fault_27 : decode cX11_fault 27 = .ok (.iconst (-1), 1) := by decide +kernel
theorem dX11_fault_28 : decode cX11_fault 28 = .ok (.ireturn, 1) := by decide +kernel
theorem dX11_makes_0 : decode cX11_makes 0 = .ok (.aload_n 0, 1) := by decide +kernel
theorem dX11_makes_1 : decode cX11_makes 1 = .ok (.getfield 39, 3) := by decide +kernel
theorem dX11_makes_4 : decode cX11_makes 4 = .ok (.iload_n 1, 1) := by decide +kernel
theorem dX11_makes_5 : decode cX11_makes 5 = .ok (.invokevirtual 148, 3) := by decide +kernel
theorem dX11_makes_8 : decode cX11_makes 8 = .ok (.astore_n 3, 1) := by decide +kernel
theorem dX11_makes_9 : decode cX11_makes 9 = .ok (.aload_n 3, 1) := by decide +kernel
theorem dX11_makes_10 : decode cX11_makes 10 = .ok (.ifnonnull 5, 3) := by decide +kernel
theorem dX11_makes_13 : decode cX11_makes 13 = .ok (.iconst (-1), 1) := by decide +kernel
theorem dX11_makes_14 : decode cX11_makes 14 = .ok (.ireturn, 1) := by decide +kernel
theorem dX11_step_0 : decode cX11_step 0 = .ok (.aload_n 0, 1) := by decide +kernel
theorem dX11_step_1 : decode cX11_step 1 = .ok (.getfield 39, 3) := by decide +kernel
theorem dX11_step_4 : decode cX11_step 4 = .ok (.iload_n 1, 1) := by decide +kernel
theorem dX11_step_5 : decode cX11_step 5 = .ok (.invokevirtual 148, 3) := by decide +kernel
theorem dX11_step_8 : decode cX11_step 8 = .ok (.astore 4, 2) := by decide +kernel
theorem dX11_step_10 : decode cX11_step 10 = .ok (.aload 4, 2) := by decide +kernel
theorem dX11_step_12 : decode cX11_step 12 = .ok (.ifnull 12, 3) := by decide +kernel
theorem dX11_step_24 : decode cX11_step 24 = .ok (.iconst (-1), 1) := by decide +kernel
theorem dX11_step_25 : decode cX11_step 25 = .ok (.ireturn, 1) := by decide +kernel
theorem dX11_same_0 : decode cX11_same 0 = .ok (.aload_n 0, 1) := by decide +kernel
theorem dX11_same_1 : decode cX11_same 1 = .ok (.getfield 39, 3) := by decide +kernel
theorem dX11_same_4 : decode cX11_same 4 = .ok (.iload_n 1, 1) := by decide +kernel
theorem dX11_same_5 : decode cX11_same 5 = .ok (.invokevirtual 148, 3) := by decide +kernel
theorem dX11_same_8 : decode cX11_same 8 = .ok (.astore_n 3, 1) := by decide +kernel
theorem dX11_same_9 : decode cX11_same 9 = .ok (.aload_n 0, 1) := by decide +kernel
theorem dX11_same_10 : decode cX11_same 10 = .ok (.getfield 39, 3) := by decide +kernel
theorem dX11_same_13 : decode cX11_same 13 = .ok (.iload_n 2, 1) := by decide +kernel
theorem dX11_same_14 : decode cX11_same 14 = .ok (.invokevirtual 148, 3) := by decide +kernel
theorem dX11_same_17 : decode cX11_same 17 = .ok (.astore 4, 2) := by decide +kernel
theorem dX11_same_19 : decode cX11_same 19 = .ok (.aload_n 3, 1) := by decide +kernel
theorem dX11_same_20 : decode cX11_same 20 = .ok (.ifnull 8, 3) := by decide +kernel
theorem dX11_same_28 : decode cX11_same 28 = .ok (.iconst (-1), 1) := by decide +kernel
theorem dX11_same_29 : decode cX11_same 29 = .ok (.ireturn, 1) := by decide +kernel
theorem dX11_alike_0 : decode cX11_alike 0 = .ok (.aload_n 0, 1) := by decide +kernel
theorem dX11_alike_1 : decode cX11_alike 1 = .ok (.getfield 39, 3) := by decide +kernel
theorem dX11_alike_4 : decode cX11_alike 4 = .ok (.iload_n 1, 1) := by decide +kernel
theorem dX11_alike_5 : decode cX11_alike 5 = .ok (.invokevirtual 148, 3) := by decide +kernel
theorem dX11_alike_8 : decode cX11_alike 8 = .ok (.astore 4, 2) := by decide +kernel
theorem dX11_alike_10 : decode cX11_alike 10 = .ok (.aload_n 0, 1) := by decide +kernel
theorem dX11_alike_11 : decode cX11_alike 11 = .ok (.getfield 39, 3) := by decide +kernel
theorem dX11_alike_14 : decode cX11_alike 14 = .ok (.iload_n 3, 1) := by decide +kernel
theorem dX11_alike_15 : decode cX11_alike 15 = .ok (.invokevirtual 148, 3) := by decide +kernel
theorem dX11_alike_18 : decode cX11_alike 18 = .ok (.astore 5, 2) := by decide +kernel
theorem dX11_alike_20 : decode cX11_alike 20 = .ok (.aload 4, 2) := by decide +kernel
theorem dX11_alike_22 : decode cX11_alike 22 = .ok (.ifnull 17, 3) := by decide +kernel
theorem dX11_alike_39 : decode cX11_alike 39 = .ok (.iconst (-1), 1) := by decide +kernel
theorem dX11_alike_40 : decode cX11_alike 40 = .ok (.ireturn, 1) := by decide +kernel
theorem dX11_changes_0 : decode cX11_changes 0 = .ok (.aload_n 0, 1) := by decide +kernel
theorem dX11_changes_1 : decode cX11_changes 1 = .ok (.aload_n 0, 1) := by decide +kernel
theorem dX11_changes_2 : decode cX11_changes 2 = .ok (.getfield 96, 3) := by decide +kernel
theorem dX11_changes_5 : decode cX11_changes 5 = .ok (.iload_n 1, 1) := by decide +kernel
theorem dX11_changes_6 : decode cX11_changes 6 = .ok (.iload_n 2, 1) := by decide +kernel
theorem dX11_changes_7 : decode cX11_changes 7 = .ok (.invokevirtual 201, 3) := by decide +kernel
theorem dX11_changes_10 : decode cX11_changes 10 = .ok (.ifCond .eq 13, 3) := by decide +kernel
theorem dX11_changes_23 : decode cX11_changes 23 = .ok (.iconst (-1), 1) := by decide +kernel
theorem dX11_changes_24 : decode cX11_changes 24 = .ok (.ireturn, 1) := by decide +kernel
theorem dX11_listChanges_0 : decode cX11_listChanges 0 = .ok (.aload_n 0, 1) := by decide +kernel
theorem dX11_listChanges_1 : decode cX11_listChanges 1 = .ok (.getfield 39, 3) := by decide +kernel
theorem dX11_listChanges_4 : decode cX11_listChanges 4 = .ok (.iload_n 2, 1) := by decide +kernel
theorem dX11_listChanges_5 : decode cX11_listChanges 5 = .ok (.invokevirtual 148, 3) := by decide +kernel
theorem dX11_listChanges_8 : decode cX11_listChanges 8 = .ok (.astore 4, 2) := by decide +kernel
theorem dX11_listChanges_10 : decode cX11_listChanges 10 = .ok (.aload_n 0, 1) := by decide +kernel
theorem dX11_listChanges_11 : decode cX11_listChanges 11 = .ok (.getfield 39, 3) := by decide +kernel
theorem dX11_listChanges_14 : decode cX11_listChanges 14 = .ok (.iload_n 3, 1) := by decide +kernel
theorem dX11_listChanges_15 : decode cX11_listChanges 15 = .ok (.invokevirtual 148, 3) := by decide +kernel
theorem dX11_listChanges_18 : decode cX11_listChanges 18 = .ok (.astore 5, 2) := by decide +kernel
theorem dX11_listChanges_20 : decode cX11_listChanges 20 = .ok (.aload 4, 2) := by decide +kernel
theorem dX11_listChanges_22 : decode cX11_listChanges 22 = .ok (.ifnull 8, 3) := by decide +kernel
theorem dX11_listChanges_30 : decode cX11_listChanges 30 = .ok (.iconst 0, 1) := by decide +kernel
theorem dX11_listChanges_31 : decode cX11_listChanges 31 = .ok (.ireturn, 1) := by decide +kernel
theorem dX11_change_0 : decode cX11_change 0 = .ok (.aload_n 0, 1) := by decide +kernel
theorem dX11_change_1 : decode cX11_change 1 = .ok (.aload_n 0, 1) := by decide +kernel
theorem dX11_change_2 : decode cX11_change 2 = .ok (.getfield 96, 3) := by decide +kernel
theorem dX11_change_5 : decode cX11_change 5 = .ok (.iload_n 1, 1) := by decide +kernel
theorem dX11_change_6 : decode cX11_change 6 = .ok (.iload_n 2, 1) := by decide +kernel
theorem dX11_change_7 : decode cX11_change 7 = .ok (.invokevirtual 201, 3) := by decide +kernel
theorem dX11_change_10 : decode cX11_change 10 = .ok (.ifCond .eq 14, 3) := by decide +kernel
theorem dX11_change_24 : decode cX11_change 24 = .ok (.iconst (-1), 1) := by decide +kernel
theorem dX11_change_25 : decode cX11_change 25 = .ok (.ireturn, 1) := by decide +kernel
theorem dX11_least_0 : decode cX11_least 0 = .ok (.aload_n 0, 1) := by decide +kernel
theorem dX11_least_1 : decode cX11_least 1 = .ok (.getfield 39, 3) := by decide +kernel
theorem dX11_least_4 : decode cX11_least 4 = .ok (.iload_n 1, 1) := by decide +kernel
theorem dX11_least_5 : decode cX11_least 5 = .ok (.invokevirtual 148, 3) := by decide +kernel
theorem dX11_least_8 : decode cX11_least 8 = .ok (.astore_n 3, 1) := by decide +kernel
theorem dX11_least_9 : decode cX11_least 9 = .ok (.aload_n 0, 1) := by decide +kernel
theorem dX11_least_10 : decode cX11_least 10 = .ok (.getfield 39, 3) := by decide +kernel
theorem dX11_least_13 : decode cX11_least 13 = .ok (.iload_n 2, 1) := by decide +kernel
theorem dX11_least_14 : decode cX11_least 14 = .ok (.invokevirtual 148, 3) := by decide +kernel
theorem dX11_least_17 : decode cX11_least 17 = .ok (.astore 4, 2) := by decide +kernel
theorem dX11_least_19 : decode cX11_least 19 = .ok (.aload_n 3, 1) := by decide +kernel
theorem dX11_least_20 : decode cX11_least 20 = .ok (.ifnull 8, 3) := by decide +kernel
theorem dX11_least_28 : decode cX11_least 28 = .ok (.iconst (-1), 1) := by decide +kernel
theorem dX11_least_29 : decode cX11_least 29 = .ok (.ireturn, 1) := by decide +kernel
theorem dX11_does_0 : decode cX11_does 0 = .ok (.aload_n 0, 1) := by decide +kernel
theorem dX11_does_1 : decode cX11_does 1 = .ok (.aload_n 0, 1) := by decide +kernel
theorem dX11_does_2 : decode cX11_does 2 = .ok (.getfield 96, 3) := by decide +kernel
theorem dX11_does_5 : decode cX11_does 5 = .ok (.iload_n 1, 1) := by decide +kernel
theorem dX11_does_6 : decode cX11_does 6 = .ok (.iload_n 2, 1) := by decide +kernel
theorem dX11_does_7 : decode cX11_does 7 = .ok (.invokevirtual 201, 3) := by decide +kernel
theorem dX11_does_10 : decode cX11_does 10 = .ok (.ifCond .ne 6, 3) := by decide +kernel
theorem dX11_does_13 : decode cX11_does 13 = .ok (.ldc 224, 2) := by decide +kernel
theorem dX11_does_15 : decode cX11_does 15 = .ok (.ireturn, 1) := by decide +kernel
theorem dX11_join_0 : decode cX11_join 0 = .ok (.aload_n 0, 1) := by decide +kernel
theorem dX11_join_1 : decode cX11_join 1 = .ok (.getfield 39, 3) := by decide +kernel
theorem dX11_join_4 : decode cX11_join 4 = .ok (.iload_n 1, 1) := by decide +kernel
theorem dX11_join_5 : decode cX11_join 5 = .ok (.invokevirtual 148, 3) := by decide +kernel
theorem dX11_join_8 : decode cX11_join 8 = .ok (.astore 4, 2) := by decide +kernel
theorem dX11_join_10 : decode cX11_join 10 = .ok (.aload_n 0, 1) := by decide +kernel
theorem dX11_join_11 : decode cX11_join 11 = .ok (.getfield 39, 3) := by decide +kernel
theorem dX11_join_14 : decode cX11_join 14 = .ok (.iload_n 2, 1) := by decide +kernel
theorem dX11_join_15 : decode cX11_join 15 = .ok (.invokevirtual 148, 3) := by decide +kernel
theorem dX11_join_18 : decode cX11_join 18 = .ok (.astore 5, 2) := by decide +kernel
theorem dX11_join_20 : decode cX11_join 20 = .ok (.aload_n 0, 1) := by decide +kernel
theorem dX11_join_21 : decode cX11_join 21 = .ok (.getfield 39, 3) := by decide +kernel
theorem dX11_join_24 : decode cX11_join 24 = .ok (.iload_n 3, 1) := by decide +kernel
theorem dX11_join_25 : decode cX11_join 25 = .ok (.invokevirtual 148, 3) := by decide +kernel
theorem dX11_join_28 : decode cX11_join 28 = .ok (.astore 6, 2) := by decide +kernel
theorem dX11_join_30 : decode cX11_join 30 = .ok (.aload 4, 2) := by decide +kernel
theorem dX11_join_32 : decode cX11_join 32 = .ok (.ifnull 13, 3) := by decide +kernel
theorem dX11_join_45 : decode cX11_join 45 = .ok (.iconst (-1), 1) := by decide +kernel
theorem dX11_join_46 : decode cX11_join 46 = .ok (.ireturn, 1) := by decide +kernel
theorem dX11_quarrel_0 : decode cX11_quarrel 0 = .ok (.aload_n 0, 1) := by decide +kernel
theorem dX11_quarrel_1 : decode cX11_quarrel 1 = .ok (.getfield 39, 3) := by decide +kernel
theorem dX11_quarrel_4 : decode cX11_quarrel 4 = .ok (.getfield 251, 3) := by decide +kernel
theorem dX11_quarrel_7 : decode cX11_quarrel 7 = .ok (.astore_n 3, 1) := by decide +kernel
theorem dX11_quarrel_8 : decode cX11_quarrel 8 = .ok (.aload_n 3, 1) := by decide +kernel
theorem dX11_quarrel_9 : decode cX11_quarrel 9 = .ok (.iload_n 1, 1) := by decide +kernel
theorem dX11_quarrel_10 : decode cX11_quarrel 10 = .ok (.invokevirtual 264, 3) := by decide +kernel
theorem dX11_quarrel_13 : decode cX11_quarrel 13 = .ok (.ifCond .ne 5, 3) := by decide +kernel
theorem dX11_quarrel_16 : decode cX11_quarrel 16 = .ok (.iconst (-1), 1) := by decide +kernel
theorem dX11_quarrel_17 : decode cX11_quarrel 17 = .ok (.ireturn, 1) := by decide +kernel
theorem dX11_settle_0 : decode cX11_settle 0 = .ok (.aload_n 0, 1) := by decide +kernel
theorem dX11_settle_1 : decode cX11_settle 1 = .ok (.getfield 39, 3) := by decide +kernel
theorem dX11_settle_4 : decode cX11_settle 4 = .ok (.getfield 251, 3) := by decide +kernel
theorem dX11_settle_7 : decode cX11_settle 7 = .ok (.iload_n 1, 1) := by decide +kernel
theorem dX11_settle_8 : decode cX11_settle 8 = .ok (.invokevirtual 264, 3) := by decide +kernel
theorem dX11_settle_11 : decode cX11_settle 11 = .ok (.ifCond .eq 12, 3) := by decide +kernel
theorem dX11_settle_23 : decode cX11_settle 23 = .ok (.iconst 0, 1) := by decide +kernel
theorem dX11_settle_24 : decode cX11_settle 24 = .ok (.ireturn, 1) := by decide +kernel
theorem dX11_joined_0 : decode cX11_joined 0 = .ok (.aload_n 0, 1) := by decide +kernel
theorem dX11_joined_1 : decode cX11_joined 1 = .ok (.getfield 39, 3) := by decide +kernel
theorem dX11_joined_4 : decode cX11_joined 4 = .ok (.getfield 251, 3) := by decide +kernel
theorem dX11_joined_7 : decode cX11_joined 7 = .ok (.astore_n 1, 1) := by decide +kernel
theorem dX11_joined_8 : decode cX11_joined 8 = .ok (.aload_n 1, 1) := by decide +kernel
theorem dX11_joined_9 : decode cX11_joined 9 = .ok (.invokevirtual 280, 3) := by decide +kernel
theorem dX11_joined_12 : decode cX11_joined 12 = .ok (.ifCond .eq 13, 3) := by decide +kernel
theorem dX11_joined_25 : decode cX11_joined 25 = .ok (.iconst (-1), 1) := by decide +kernel
theorem dX11_joined_26 : decode cX11_joined 26 = .ok (.ireturn, 1) := by decide +kernel
theorem dX11_best_0 : decode cX11_best 0 = .ok (.aload_n 0, 1) := by decide +kernel
theorem dX11_best_1 : decode cX11_best 1 = .ok (.getfield 39, 3) := by decide +kernel
theorem dX11_best_4 : decode cX11_best 4 = .ok (.getfield 251, 3) := by decide +kernel
theorem dX11_best_7 : decode cX11_best 7 = .ok (.astore_n 2, 1) := by decide +kernel
theorem dX11_best_8 : decode cX11_best 8 = .ok (.aload_n 2, 1) := by decide +kernel
theorem dX11_best_9 : decode cX11_best 9 = .ok (.invokevirtual 280, 3) := by decide +kernel
theorem dX11_best_12 : decode cX11_best 12 = .ok (.ifCond .ne 6, 3) := by decide +kernel
theorem dX11_best_15 : decode cX11_best 15 = .ok (.ldc 224, 2) := by decide +kernel
theorem dX11_best_17 : decode cX11_best 17 = .ok (.ireturn, 1) := by decide +kernel
theorem dX11_left_0 : decode cX11_left 0 = .ok (.aload_n 0, 1) := by decide +kernel
theorem dX11_left_1 : decode cX11_left 1 = .ok (.getfield 39, 3) := by decide +kernel
theorem dX11_left_4 : decode cX11_left 4 = .ok (.getfield 251, 3) := by decide +kernel
theorem dX11_left_7 : decode cX11_left 7 = .ok (.astore_n 2, 1) := by decide +kernel
theorem dX11_left_8 : decode cX11_left 8 = .ok (.aload_n 2, 1) := by decide +kernel
theorem dX11_left_9 : decode cX11_left 9 = .ok (.invokevirtual 280, 3) := by decide +kernel
theorem dX11_left_12 : decode cX11_left 12 = .ok (.ifCond .ne 5, 3) := by decide +kernel
theorem dX11_left_15 : decode cX11_left 15 = .ok (.iconst (-1), 1) := by decide +kernel
theorem dX11_left_16 : decode cX11_left 16 = .ok (.ireturn, 1) := by decide +kernel
theorem dX11_ruin_0 : decode cX11_ruin 0 = .ok (.aload_n 0, 1) := by decide +kernel
theorem dX11_ruin_1 : decode cX11_ruin 1 = .ok (.aload_n 0, 1) := by decide +kernel
theorem dX11_ruin_2 : decode cX11_ruin 2 = .ok (.getfield 96, 3) := by decide +kernel
theorem dX11_ruin_5 : decode cX11_ruin 5 = .ok (.iload_n 1, 1) := by decide +kernel
theorem dX11_ruin_6 : decode cX11_ruin 6 = .ok (.iload_n 2, 1) := by decide +kernel
theorem dX11_ruin_7 : decode cX11_ruin 7 = .ok (.invokevirtual 201, 3) := by decide +kernel
theorem dX11_ruin_10 : decode cX11_ruin 10 = .ok (.ifCond .eq 16, 3) := by decide +kernel
theorem dX11_ruin_26 : decode cX11_ruin 26 = .ok (.iconst (-1), 1) := by decide +kernel
theorem dX11_ruin_27 : decode cX11_ruin 27 = .ok (.ireturn, 1) := by decide +kernel
theorem dX11_law_0 : decode cX11_law 0 = .ok (.aload_n 0, 1) := by decide +kernel
theorem dX11_law_1 : decode cX11_law 1 = .ok (.getfield 39, 3) := by decide +kernel
theorem dX11_law_4 : decode cX11_law 4 = .ok (.iload_n 2, 1) := by decide +kernel
theorem dX11_law_5 : decode cX11_law 5 = .ok (.invokevirtual 148, 3) := by decide +kernel
theorem dX11_law_8 : decode cX11_law 8 = .ok (.astore 6, 2) := by decide +kernel
theorem dX11_law_10 : decode cX11_law 10 = .ok (.aload_n 0, 1) := by decide +kernel
theorem dX11_law_11 : decode cX11_law 11 = .ok (.getfield 39, 3) := by decide +kernel
theorem dX11_law_14 : decode cX11_law 14 = .ok (.iload_n 3, 1) := by decide +kernel
theorem dX11_law_15 : decode cX11_law 15 = .ok (.invokevirtual 148, 3) := by decide +kernel
theorem dX11_law_18 : decode cX11_law 18 = .ok (.astore 7, 2) := by decide +kernel
theorem dX11_law_20 : decode cX11_law 20 = .ok (.iload_n 1, 1) := by decide +kernel
theorem dX11_law_21 : decode cX11_law 21 = .ok (.ifCond .lt 18, 3) := by decide +kernel
theorem dX11_law_24 : decode cX11_law 24 = .ok (.iload_n 1, 1) := by decide +kernel
theorem dX11_law_25 : decode cX11_law 25 = .ok (.iconst 2, 1) := by decide +kernel
theorem dX11_law_26 : decode cX11_law 26 = .ok (.if_icmp .gt 13, 3) := by decide +kernel
theorem dX11_law_29 : decode cX11_law 29 = .ok (.aload 6, 2) := by decide +kernel
theorem dX11_law_31 : decode cX11_law 31 = .ok (.ifnull 8, 3) := by decide +kernel
theorem dX11_law_39 : decode cX11_law 39 = .ok (.iconst (-1), 1) := by decide +kernel
theorem dX11_law_40 : decode cX11_law 40 = .ok (.ireturn, 1) := by decide +kernel
theorem dX11_three_0 : decode cX11_three 0 = .ok (.aload_n 0, 1) := by decide +kernel
theorem dX11_three_1 : decode cX11_three 1 = .ok (.getfield 39, 3) := by decide +kernel
theorem dX11_three_4 : decode cX11_three 4 = .ok (.iload_n 1, 1) := by decide +kernel
theorem dX11_three_5 : decode cX11_three 5 = .ok (.invokevirtual 148, 3) := by decide +kernel
theorem dX11_three_8 : decode cX11_three 8 = .ok (.astore 6, 2) := by decide +kernel
theorem dX11_three_10 : decode cX11_three 10 = .ok (.aload_n 0, 1) := by decide +kernel
theorem dX11_three_11 : decode cX11_three 11 = .ok (.getfield 39, 3) := by decide +kernel
theorem dX11_three_14 : decode cX11_three 14 = .ok (.iload_n 2, 1) := by decide +kernel
theorem dX11_three_15 : decode cX11_three 15 = .ok (.invokevirtual 148, 3) := by decide +kernel
theorem dX11_three_18 : decode cX11_three 18 = .ok (.astore 7, 2) := by decide +kernel
theorem dX11_three_20 : decode cX11_three 20 = .ok (.aload_n 0, 1) := by decide +kernel
theorem dX11_three_21 : decode cX11_three 21 = .ok (.getfield 39, 3) := by decide +kernel
theorem dX11_three_24 : decode cX11_three 24 = .ok (.iload_n 3, 1) := by decide +kernel
theorem dX11_three_25 : decode cX11_three 25 = .ok (.invokevirtual 148, 3) := by decide +kernel
theorem dX11_three_28 : decode cX11_three 28 = .ok (.astore 8, 2) := by decide +kernel
theorem dX11_three_30 : decode cX11_three 30 = .ok (.aload_n 0, 1) := by decide +kernel
theorem dX11_three_31 : decode cX11_three 31 = .ok (.getfield 39, 3) := by decide +kernel
theorem dX11_three_34 : decode cX11_three 34 = .ok (.iload 4, 2) := by decide +kernel
theorem dX11_three_36 : decode cX11_three 36 = .ok (.invokevirtual 148, 3) := by decide +kernel
theorem dX11_three_39 : decode cX11_three 39 = .ok (.astore 9, 2) := by decide +kernel
theorem dX11_three_41 : decode cX11_three 41 = .ok (.aload 6, 2) := by decide +kernel
theorem dX11_three_43 : decode cX11_three 43 = .ok (.ifnull 18, 3) := by decide +kernel
theorem dX11_three_61 : decode cX11_three 61 = .ok (.iconst (-1), 1) := by decide +kernel
theorem dX11_three_62 : decode cX11_three 62 = .ok (.ireturn, 1) := by decide +kernel
theorem dX11_leans_0 : decode cX11_leans 0 = .ok (.aload_n 0, 1) := by decide +kernel
theorem dX11_leans_1 : decode cX11_leans 1 = .ok (.aload_n 0, 1) := by decide +kernel
theorem dX11_leans_2 : decode cX11_leans 2 = .ok (.getfield 96, 3) := by decide +kernel
theorem dX11_leans_5 : decode cX11_leans 5 = .ok (.iload_n 1, 1) := by decide +kernel
theorem dX11_leans_6 : decode cX11_leans 6 = .ok (.iload_n 2, 1) := by decide +kernel
theorem dX11_leans_7 : decode cX11_leans 7 = .ok (.invokevirtual 201, 3) := by decide +kernel
theorem dX11_leans_10 : decode cX11_leans 10 = .ok (.ifCond .eq 14, 3) := by decide +kernel
theorem dX11_leans_24 : decode cX11_leans 24 = .ok (.iconst (-1), 1) := by decide +kernel
theorem dX11_leans_25 : decode cX11_leans 25 = .ok (.ireturn, 1) := by decide +kernel
theorem dX11_begun_0 : decode cX11_begun 0 = .ok (.aload_n 0, 1) := by decide +kernel
theorem dX11_begun_1 : decode cX11_begun 1 = .ok (.getfield 39, 3) := by decide +kernel
theorem dX11_begun_4 : decode cX11_begun 4 = .ok (.iload_n 1, 1) := by decide +kernel
theorem dX11_begun_5 : decode cX11_begun 5 = .ok (.invokevirtual 148, 3) := by decide +kernel
theorem dX11_begun_8 : decode cX11_begun 8 = .ok (.astore 5, 2) := by decide +kernel
theorem dX11_begun_10 : decode cX11_begun 10 = .ok (.aload_n 0, 1) := by decide +kernel
theorem dX11_begun_11 : decode cX11_begun 11 = .ok (.getfield 39, 3) := by decide +kernel
theorem dX11_begun_14 : decode cX11_begun 14 = .ok (.iload_n 3, 1) := by decide +kernel
theorem dX11_begun_15 : decode cX11_begun 15 = .ok (.invokevirtual 148, 3) := by decide +kernel
theorem dX11_begun_18 : decode cX11_begun 18 = .ok (.astore 6, 2) := by decide +kernel
theorem dX11_begun_20 : decode cX11_begun 20 = .ok (.aload 5, 2) := by decide +kernel
theorem dX11_begun_22 : decode cX11_begun 22 = .ok (.ifnull 21, 3) := by decide +kernel
theorem dX11_begun_43 : decode cX11_begun 43 = .ok (.iconst (-1), 1) := by decide +kernel
theorem dX11_begun_44 : decode cX11_begun 44 = .ok (.ireturn, 1) := by decide +kernel
theorem dX11_tear_0 : decode cX11_tear 0 = .ok (.aload_n 0, 1) := by decide +kernel
theorem dX11_tear_1 : decode cX11_tear 1 = .ok (.getfield 39, 3) := by decide +kernel
theorem dX11_tear_4 : decode cX11_tear 4 = .ok (.iload_n 1, 1) := by decide +kernel
theorem dX11_tear_5 : decode cX11_tear 5 = .ok (.invokevirtual 148, 3) := by decide +kernel
theorem dX11_tear_8 : decode cX11_tear 8 = .ok (.ifnonnull 5, 3) := by decide +kernel
theorem dX11_tear_11 : decode cX11_tear 11 = .ok (.iconst 0, 1) := by decide +kernel
theorem dX11_tear_12 : decode cX11_tear 12 = .ok (.ireturn, 1) := by decide +kernel
theorem dX11_image_0 : decode cX11_image 0 = .ok (.iload_n 1, 1) := by decide +kernel
theorem dX11_image_1 : decode cX11_image 1 = .ok (.ifCond .lt 8, 3) := by decide +kernel
theorem dX11_image_4 : decode cX11_image 4 = .ok (.iload_n 1, 1) := by decide +kernel
theorem dX11_image_5 : decode cX11_image 5 = .ok (.iconst 3, 1) := by decide +kernel
theorem dX11_image_6 : decode cX11_image 6 = .ok (.if_icmp .lt 5, 3) := by decide +kernel
theorem dX11_image_9 : decode cX11_image 9 = .ok (.iconst (-1), 1) := by decide +kernel
theorem dX11_image_10 : decode cX11_image 10 = .ok (.ireturn, 1) := by decide +kernel
theorem dX11_image_11 : decode cX11_image 11 = .ok (.aload_n 0, 1) := by decide +kernel
theorem dX11_image_12 : decode cX11_image 12 = .ok (.getfield 47, 3) := by decide +kernel
theorem dX11_image_15 : decode cX11_image 15 = .ok (.iload_n 1, 1) := by decide +kernel
theorem dX11_image_16 : decode cX11_image 16 = .ok (.aaload, 1) := by decide +kernel
theorem dX11_image_17 : decode cX11_image 17 = .ok (.aload_n 0, 1) := by decide +kernel
theorem dX11_image_18 : decode cX11_image 18 = .ok (.getfield 39, 3) := by decide +kernel
theorem dX11_image_21 : decode cX11_image 21 = .ok (.invokevirtual 362, 3) := by decide +kernel
theorem dX11_image_24 : decode cX11_image 24 = .ok (.aload_n 0, 1) := by decide +kernel
theorem dX11_image_25 : decode cX11_image 25 = .ok (.getfield 39, 3) := by decide +kernel
theorem dX11_image_28 : decode cX11_image 28 = .ok (.getfield 43, 3) := by decide +kernel
theorem dX11_image_31 : decode cX11_image 31 = .ok (.ireturn, 1) := by decide +kernel
theorem dX11_back_0 : decode cX11_back 0 = .ok (.iload_n 1, 1) := by decide +kernel
theorem dX11_back_1 : decode cX11_back 1 = .ok (.ifCond .lt 21, 3) := by decide +kernel
theorem dX11_back_4 : decode cX11_back 4 = .ok (.iload_n 1, 1) := by decide +kernel
theorem dX11_back_5 : decode cX11_back 5 = .ok (.iconst 3, 1) := by decide +kernel
theorem dX11_back_6 : decode cX11_back 6 = .ok (.if_icmp .ge 16, 3) := by decide +kernel
theorem dX11_back_9 : decode cX11_back 9 = .ok (.aload_n 0, 1) := by decide +kernel
theorem dX11_back_10 : decode cX11_back 10 = .ok (.getfield 47, 3) := by decide +kernel
theorem dX11_back_13 : decode cX11_back 13 = .ok (.iload_n 1, 1) := by decide +kernel
theorem dX11_back_14 : decode cX11_back 14 = .ok (.aaload, 1) := by decide +kernel
theorem dX11_back_15 : decode cX11_back 15 = .ok (.getfield 43, 3) := by decide +kernel
theorem dX11_back_18 : decode cX11_back 18 = .ok (.iconst (-1), 1) := by decide +kernel
theorem dX11_back_19 : decode cX11_back 19 = .ok (.if_icmp .ne 5, 3) := by decide +kernel
theorem dX11_back_22 : decode cX11_back 22 = .ok (.iconst (-1), 1) := by decide +kernel
theorem dX11_back_23 : decode cX11_back 23 = .ok (.ireturn, 1) := by decide +kernel
theorem dX11_about_0 : decode cX11_about 0 = .ok (.aload_n 0, 1) := by decide +kernel
theorem dX11_about_1 : decode cX11_about 1 = .ok (.getfield 39, 3) := by decide +kernel
theorem dX11_about_4 : decode cX11_about 4 = .ok (.getfield 251, 3) := by decide +kernel
theorem dX11_about_7 : decode cX11_about 7 = .ok (.invokevirtual 280, 3) := by decide +kernel
theorem dX11_about_10 : decode cX11_about 10 = .ok (.istore_n 2, 1) := by decide +kernel
theorem dX11_about_11 : decode cX11_about 11 = .ok (.iload_n 1, 1) := by decide +kernel
theorem dX11_about_12 : decode cX11_about 12 = .ok (.tableswitch 95 0 4 #[36, 44, 52, 71, 90], 36) := by decide +kernel
theorem dX11_about_48 : decode cX11_about 48 = .ok (.aload_n 0, 1) := by decide +kernel
theorem dX11_about_49 : decode cX11_about 49 = .ok (.getfield 39, 3) := by decide +kernel
theorem dX11_about_52 : decode cX11_about 52 = .ok (.getfield 43, 3) := by decide +kernel
theorem dX11_about_55 : decode cX11_about 55 = .ok (.ireturn, 1) := by decide +kernel
theorem dX11_about_56 : decode cX11_about 56 = .ok (.aload_n 0, 1) := by decide +kernel
theorem dX11_about_57 : decode cX11_about 57 = .ok (.getfield 63, 3) := by decide +kernel
theorem dX11_about_60 : decode cX11_about 60 = .ok (.getfield 139, 3) := by decide +kernel
theorem dX11_about_63 : decode cX11_about 63 = .ok (.ireturn, 1) := by decide +kernel
theorem dX11_about_64 : decode cX11_about 64 = .ok (.iload_n 2, 1) := by decide +kernel
theorem dX11_about_65 : decode cX11_about 65 = .ok (.ifCond .eq 16, 3) := by decide +kernel
theorem dX11_about_81 : decode cX11_about 81 = .ok (.iconst (-1), 1) := by decide +kernel
theorem dX11_about_82 : decode cX11_about 82 = .ok (.ireturn, 1) := by decide +kernel
theorem dX11_about_83 : decode cX11_about 83 = .ok (.iload_n 2, 1) := by decide +kernel
theorem dX11_about_84 : decode cX11_about 84 = .ok (.ifCond .eq 16, 3) := by decide +kernel
theorem dX11_about_100 : decode cX11_about 100 = .ok (.iconst (-1), 1) := by decide +kernel
theorem dX11_about_101 : decode cX11_about 101 = .ok (.ireturn, 1) := by decide +kernel
theorem dX11_about_102 : decode cX11_about 102 = .ok (.aload_n 0, 1) := by decide +kernel
theorem dX11_about_103 : decode cX11_about 103 = .ok (.getfield 107, 3) := by decide +kernel
theorem dX11_about_106 : decode cX11_about 106 = .ok (.ireturn, 1) := by decide +kernel
theorem dX11_about_107 : decode cX11_about 107 = .ok (.iconst (-1), 1) := by decide +kernel
theorem dX11_about_108 : decode cX11_about 108 = .ok (.ireturn, 1) := by decide +kernel
abbrev vwCl : List vw_C := [(RX0, TX0, 7), (RX1, TX1, 3), (RX2, TX2, 4), (RX3, TX3, 11), (RX4, TX4, 13), (RX5, TX5, 6), (RX6, TX6, 14), (RX7, TX7, 4), (RX8, TX8, 10), (RX9, TX9, 5), (RX10, TX10, 2), (RX11, TX11, 16), (RX12, TX12, 80)]
end
section
theorem zz_ci {p : Program} {l : Launch} {e : Env} {R : Room} {s : State} {m : MethodId} {args : Array Value} {below : List Frame} {meth : Method} {c : Code} {H : Heap} {locs : List Loc} {cells slots : Nat} {Q : State → Prop} {pc : Nat} {ls : Array Slot} {rest : List Value} {x y : Int32} (h : x = y) (k : W p l e R s m args below meth c H locs cells slots Q (F0 m pc ls (.int y :: rest))) : W p l e R s m args below meth c H locs cells slots Q (F0 m pc ls (.int x :: rest)) := h ▸ k
theorem zz_sw_0_4 (x : Int32) : (x.toInt < 0 ∨ 4 < x.toInt) ∨ x = 0 ∨ x = 1 ∨ x = 2 ∨ x = 3 ∨ x = 4 := by
  by_cases h1 : x.toInt < 0
  · exact Or.inl (Or.inl h1)
  by_cases h2 : 4 < x.toInt
  · exact Or.inl (Or.inr h2)
  right
  have h3 : x.toInt = 0 ∨ x.toInt = 1 ∨ x.toInt = 2 ∨ x.toInt = 3 ∨ x.toInt = 4 := by omega
  rcases h3 with h | h | h | h | h
  · exact Or.inl (Int32.toInt_inj.mp (h.trans (by decide)))
  · exact Or.inr (Or.inl (Int32.toInt_inj.mp (h.trans (by decide))))
  · exact Or.inr (Or.inr (Or.inl (Int32.toInt_inj.mp (h.trans (by decide)))))
  · exact Or.inr (Or.inr (Or.inr (Or.inl (Int32.toInt_inj.mp (h.trans (by decide))))))
  · exact Or.inr (Or.inr (Or.inr (Or.inr (Int32.toInt_inj.mp (h.trans (by decide))))))
theorem zz_three {x : Int32} (h1 : ¬ x < 0) (h2 : x < 3) : x = 0 ∨ x = 1 ∨ x = 2 := by
  have a1 : ¬ x.toInt < 0 := fun h => h1 (Int32.lt_iff_toInt_lt.mpr (by simpa using h))
  have a2 : x.toInt < 3 := by simpa using Int32.lt_iff_toInt_lt.mp h2
  have h3 : x.toInt = 0 ∨ x.toInt = 1 ∨ x.toInt = 2 := by omega
  rcases h3 with h | h | h
  · exact Or.inl (Int32.toInt_inj.mp (h.trans (by decide)))
  · exact Or.inr (Or.inl (Int32.toInt_inj.mp (h.trans (by decide))))
  · exact Or.inr (Or.inr (Int32.toInt_inj.mp (h.trans (by decide))))
theorem zz_le0 {x : Int32} (h1 : ¬ x < 0) (h2 : x ≤ 0) : x = 0 := by
  have a1 : ¬ x.toInt < 0 := fun h => h1 (Int32.lt_iff_toInt_lt.mpr (by simpa using h))
  have a2 : x.toInt ≤ 0 := by simpa using Int32.le_iff_toInt_le.mp h2
  exact Int32.toInt_inj.mp ((show x.toInt = 0 by omega).trans (by decide))
theorem zz_e1 {x : Int32} (h : x < 0) : (-1 : Int32) = if x = 0 then 0 else -1 := (if_neg (fun e => absurd (e ▸ h) (by decide))).symm
theorem zz_e2 {x : Int32} (h : ¬ x ≤ 0) : (-1 : Int32) = if x = 0 then 0 else -1 := (if_neg (fun e => absurd (e ▸ Int32.le_refl x) h)).symm
theorem zz_e3 {x : Int32} (h1 : ¬ x < 0) (h2 : x ≤ 0) : x = if x = 0 then 0 else -1 := by rw [zz_le0 h1 h2]; rfl
def zz_im (b : Int32) : Int32 := if b < 0 then -1 else if b < 3 then 0 else -1
def zz_ab (w : Int32) : Int32 := if w = 0 then 0 else if w = 1 then 0 else if w = 4 then 0 else -1
theorem zz_abo {x : Int32} (h : x.toInt < 0 ∨ 4 < x.toInt) : (-1 : Int32) = zz_ab x := by
  unfold zz_ab
  rw [if_neg (fun e => ?_), if_neg (fun e => ?_), if_neg (fun e => ?_)]
  all_goals (rw [e] at h; revert h; decide)
theorem zz_in {i : Int32} {n : Nat} (h : ¬ (i < 0 ∨ n ≤ i.toNatClampNeg)) : vp_in i n := h
theorem zz_P0 {D : va_G} {cl : List vw_C} {H : Heap} : va_P D cl [] H := fun k q h => by simp at h
theorem zz_D0 {A : Nat → Prop} : va_D A [] := ⟨fun i j p q h => by simp at h, fun k q h => by simp at h⟩
end
section
def u_c_X1_get : List Cond := .code yX1_get cX1_get 2 (some (.object "CakePapers$Paper")) :: ([.fieldLink RX1 24 "CakePapers$Desk" "count" "I"] ++ wsX10)
set_option maxHeartbeats 1000000 in
set_option maxRecDepth 100000 in
theorem c_X1_get (l : Launch) (dC : Nat → ClassId) (dI : Nat → Nat → Nat) (sz : Nat) (h0 : Nat) (fs : List Value) (hn_fs : fs.length = 3) (e_fs_2 : fs[2]? = some (.int 0)) (p0 : Int32) : Met l yX1_get u_c_X1_get ({ frames := 0, cells := 0, slots := 0, locals := 0 }) (va_Pc [.ref h0, .int p0] (fun U => U.heap.size = sz ∧ va_P (dC, dI) vwCl [(h0, .inr (1, fs))] U.heap ∧ va_K (dC, dI) vwCl [] U ∧ va_D (fun _ => True) [(h0, .inr (1, fs))])) (va_Qq (fun (r : Option Nat) (_ : Unit) => r = none) (fun _ t => va_P (dC, dI) vwCl [(h0, .inr (1, fs))] t.heap ∧ va_D (va_A [(h0, .inr (1, fs))] sz) [(h0, .inr (1, fs))]) (va_A [(h0, .inr (1, fs))] sz)) 0 0 (va_A [(h0, .inr (1, fs))] sz) := by
  refine Met.ofW (cc := cX1_get) (maxL := 2) (ret := (some (.object "CakePapers$Paper"))) (by decide) rfl ?_
  intro p e s m args below meth c s₁ B hml hv
  obtain ⟨rfl, hsz, hP, hK, hD0⟩ := hv
  have hx := B.exec
  have hb := B.bytes
  have hr := B.returns
  have hts := atoms_spec (ws := u_c_X1_get) B.pre
  have hown : s.vm.findClass RX1 = some m.cls := findClass_of_methodNamed B.named
  have hlocks := B.notSynchronized
  have hiX1 : ∀ w ∈ wsX10, w ∈ u_c_X1_get := fun w h => List.mem_cons_of_mem _ (List.mem_append_right _ h)
  subst hsz
  have hD := hD0.self (sz := s.heap.size)
  generalize hAe : va_A [(h0, .inr (1, fs))] s.heap.size = A at hD ⊢
  have hA : ∀ q : Nat, s.heap.size ≤ q → A q := fun q h => by rw [← hAe]; exact Or.inr h
  have hS : va_S A s.heap s.heap [] := va_S.rf
  obtain ⟨H, hH⟩ : ∃ H : Heap, H = s.heap := ⟨_, rfl⟩
  have hP : va_P (dC, dI) vwCl [(h0, .inr (1, fs))] H := by rw [hH]; exact hP
  have hS : va_S A s.heap H [] := by rw [hH]; exact hS
  have hl := lv_entry ([.ref h0, .int p0]) (n := 2) (Nat.le_of_ble_eq_true rfl)
  rw [lg_entry_eq]
  generalize (lg_sl ([.ref h0, .int p0]) ++ List.replicate (2 - (lg_sl ([.ref h0, .int p0])).length) Slot.unset).toArray = ls at hl ⊢
  have hl : lv_has ls 2 [(0, .ref h0), (1, .int p0)] := hl
  suffices h9 : W p l e (headSpec u_c_X1_get _).room s m _ below meth c H [] 0 0 _ (F0 m 0 ls []) by rw [hH] at h9; exact h9
  refine lv_iload_n hx hb dX1_get_0 rfl (lv_at hl 1 rfl) ?_
  refine lv_if_lt (tgt := 21) hx hb dX1_get_1 (by decide) (fun c_1 => ?_) (fun c_1 => ?_)
  · refine lv_null hx hb dX1_get_21 ?_
    refine W.widen (k := 0) (n := 0) (Nat.le_of_ble_eq_true rfl) (Nat.le_of_ble_eq_true rfl) ?_
    have hP9 := hP.sub (ws' := [(h0, .inr (1, fs))]) [0] rfl
    have hD9 := hD.sub (ws' := [(h0, .inr (1, fs))]) [0] (by decide) rfl
    exact W.aret (v := .null) hx hb hr (Or.inl ⟨_, rfl⟩) (Or.inl rfl) (fun t ht hW => ⟨⟨none, (), rfl, rfl, by rw [ht]; exact hP9, hD9⟩, hS.F ht⟩) hS.2.2 dX1_get_22
  · refine lv_iload_n hx hb dX1_get_4 rfl (lv_at hl 1 rfl) ?_
    refine lv_aload_n hx hb dX1_get_5 rfl (lv_at hl 0 rfl) ?_
    refine va_get (D := (dC, dI)) (ci := 1) (v := .int 0) (C := RX1) (T := TX1) (N := 3) hx hb hts hiX1 hown hK hP 0 rfl rfl 2 (by decide) (hts (.fieldLink RX1 24 "CakePapers$Desk" "count" "I") (by decide +kernel)) (fun _ h9 => h9) e_fs_2 dX1_get_6 ?_
    refine lv_icmp_ge (tgt := 21) hx hb dX1_get_9 (by decide) (fun c_2 => ?_) (fun c_2 => absurd (Int32.not_lt.mp c_1) c_2)
    refine lv_null hx hb dX1_get_21 ?_
    refine W.widen (k := 0) (n := 0) (Nat.le_of_ble_eq_true rfl) (Nat.le_of_ble_eq_true rfl) ?_
    have hP9 := hP.sub (ws' := [(h0, .inr (1, fs))]) [0] rfl
    have hD9 := hD.sub (ws' := [(h0, .inr (1, fs))]) [0] (by decide) rfl
    exact W.aret (v := .null) hx hb hr (Or.inl ⟨_, rfl⟩) (Or.inl rfl) (fun t ht hW => ⟨⟨none, (), rfl, rfl, by rw [ht]; exact hP9, hD9⟩, hS.F ht⟩) hS.2.2 dX1_get_22
def u_c_X1_isFull : List Cond := .code yX1_isFull cX1_isFull 1 (some .boolean) :: ([.fieldLink RX1 24 "CakePapers$Desk" "count" "I"] ++ wsX10)
set_option maxHeartbeats 1000000 in
set_option maxRecDepth 100000 in
theorem c_X1_isFull (l : Launch) (dC : Nat → ClassId) (dI : Nat → Nat → Nat) (sz : Nat) (h0 : Nat) (fs : List Value) (hn_fs : fs.length = 3) (e_fs_2 : fs[2]? = some (.int 0)) : Met l yX1_isFull u_c_X1_isFull ({ frames := 0, cells := 0, slots := 0, locals := 0 }) (va_Pc [.ref h0] (fun U => U.heap.size = sz ∧ va_P (dC, dI) vwCl [(h0, .inr (1, fs))] U.heap ∧ va_K (dC, dI) vwCl [] U ∧ va_D (fun _ => True) [(h0, .inr (1, fs))])) (va_Qi (fun (r : Int32) (_ : Unit) => r = 0) (fun _ t => va_P (dC, dI) vwCl [(h0, .inr (1, fs))] t.heap ∧ va_D (va_A [(h0, .inr (1, fs))] sz) [(h0, .inr (1, fs))]) (va_A [(h0, .inr (1, fs))] sz)) 0 0 (va_A [(h0, .inr (1, fs))] sz) := by
  refine Met.ofW (cc := cX1_isFull) (maxL := 1) (ret := (some .boolean)) (by decide) rfl ?_
  intro p e s m args below meth c s₁ B hml hv
  obtain ⟨rfl, hsz, hP, hK, hD0⟩ := hv
  have hx := B.exec
  have hb := B.bytes
  have hr := B.returns
  have hts := atoms_spec (ws := u_c_X1_isFull) B.pre
  have hown : s.vm.findClass RX1 = some m.cls := findClass_of_methodNamed B.named
  have hlocks := B.notSynchronized
  have hiX1 : ∀ w ∈ wsX10, w ∈ u_c_X1_isFull := fun w h => List.mem_cons_of_mem _ (List.mem_append_right _ h)
  subst hsz
  have hD := hD0.self (sz := s.heap.size)
  generalize hAe : va_A [(h0, .inr (1, fs))] s.heap.size = A at hD ⊢
  have hA : ∀ q : Nat, s.heap.size ≤ q → A q := fun q h => by rw [← hAe]; exact Or.inr h
  have hS : va_S A s.heap s.heap [] := va_S.rf
  obtain ⟨H, hH⟩ : ∃ H : Heap, H = s.heap := ⟨_, rfl⟩
  have hP : va_P (dC, dI) vwCl [(h0, .inr (1, fs))] H := by rw [hH]; exact hP
  have hS : va_S A s.heap H [] := by rw [hH]; exact hS
  have hl := lv_entry ([.ref h0]) (n := 1) (Nat.le_of_ble_eq_true rfl)
  rw [lg_entry_eq]
  generalize (lg_sl ([.ref h0]) ++ List.replicate (1 - (lg_sl ([.ref h0])).length) Slot.unset).toArray = ls at hl ⊢
  have hl : lv_has ls 1 [(0, .ref h0)] := hl
  suffices h9 : W p l e (headSpec u_c_X1_isFull _).room s m _ below meth c H [] 0 0 _ (F0 m 0 ls []) by rw [hH] at h9; exact h9
  refine lv_aload_n hx hb dX1_isFull_0 rfl (lv_at hl 0 rfl) ?_
  refine va_get (D := (dC, dI)) (ci := 1) (v := .int 0) (C := RX1) (T := TX1) (N := 3) hx hb hts hiX1 hown hK hP 0 rfl rfl 2 (by decide) (hts (.fieldLink RX1 24 "CakePapers$Desk" "count" "I") (by decide +kernel)) (fun _ h9 => h9) e_fs_2 dX1_isFull_1 ?_
  refine lv_bipush (v := 8) hx hb dX1_isFull_4 (by decide) ?_
  refine lv_icmp_lt (tgt := 13) hx hb dX1_isFull_6 (by decide) (fun c_1 => ?_) (fun c_1 => absurd c_1 (by decide))
  refine lv_iconst (v := 0) hx hb dX1_isFull_13 (by decide) ?_
  refine W.widen (k := 0) (n := 0) (Nat.le_of_ble_eq_true rfl) (Nat.le_of_ble_eq_true rfl) ?_
  have hP9 := hP.sub (ws' := [(h0, .inr (1, fs))]) [0] rfl
  have hD9 := hD.sub (ws' := [(h0, .inr (1, fs))]) [0] (by decide) rfl
  exact W.zret (v := 0) hx hb hr (rfl) (fun t ht hW => ⟨⟨0, (), rfl, rfl, by rw [ht]; exact hP9, hD9⟩, hS.F ht⟩) hS.2.2 dX1_isFull_14
def u_c_X4_isThere : List Cond := .code yX4_isThere cX4_isThere 1 (some .boolean) :: ([.fieldLink RX4 38 "CakePapers$Joining" "base" "LCakePapers$Paper;"] ++ wsX40)
set_option maxHeartbeats 1000000 in
set_option maxRecDepth 100000 in
theorem c_X4_isThere (l : Launch) (dC : Nat → ClassId) (dI : Nat → Nat → Nat) (sz : Nat) (h0 : Nat) (fs : List Value) (hn_fs : fs.length = 13) (e_fs_0 : fs[0]? = some .null) : Met l yX4_isThere u_c_X4_isThere ({ frames := 0, cells := 0, slots := 0, locals := 0 }) (va_Pc [.ref h0] (fun U => U.heap.size = sz ∧ va_P (dC, dI) vwCl [(h0, .inr (4, fs))] U.heap ∧ va_K (dC, dI) vwCl [] U ∧ va_D (fun _ => True) [(h0, .inr (4, fs))])) (va_Qi (fun (r : Int32) (_ : Unit) => r = 0) (fun _ t => va_P (dC, dI) vwCl [(h0, .inr (4, fs))] t.heap ∧ va_D (va_A [(h0, .inr (4, fs))] sz) [(h0, .inr (4, fs))]) (va_A [(h0, .inr (4, fs))] sz)) 0 0 (va_A [(h0, .inr (4, fs))] sz) := by
  refine Met.ofW (cc := cX4_isThere) (maxL := 1) (ret := (some .boolean)) (by decide) rfl ?_
  intro p e s m args below meth c s₁ B hml hv
  obtain ⟨rfl, hsz, hP, hK, hD0⟩ := hv
  have hx := B.exec
  have hb := B.bytes
  have hr := B.returns
  have hts := atoms_spec (ws := u_c_X4_isThere) B.pre
  have hown : s.vm.findClass RX4 = some m.cls := findClass_of_methodNamed B.named
  have hlocks := B.notSynchronized
  have hiX4 : ∀ w ∈ wsX40, w ∈ u_c_X4_isThere := fun w h => List.mem_cons_of_mem _ (List.mem_append_right _ h)
  subst hsz
  have hD := hD0.self (sz := s.heap.size)
  generalize hAe : va_A [(h0, .inr (4, fs))] s.heap.size = A at hD ⊢
  have hA : ∀ q : Nat, s.heap.size ≤ q → A q := fun q h => by rw [← hAe]; exact Or.inr h
  have hS : va_S A s.heap s.heap [] := va_S.rf
  obtain ⟨H, hH⟩ : ∃ H : Heap, H = s.heap := ⟨_, rfl⟩
  have hP : va_P (dC, dI) vwCl [(h0, .inr (4, fs))] H := by rw [hH]; exact hP
  have hS : va_S A s.heap H [] := by rw [hH]; exact hS
  have hl := lv_entry ([.ref h0]) (n := 1) (Nat.le_of_ble_eq_true rfl)
  rw [lg_entry_eq]
  generalize (lg_sl ([.ref h0]) ++ List.replicate (1 - (lg_sl ([.ref h0])).length) Slot.unset).toArray = ls at hl ⊢
  have hl : lv_has ls 1 [(0, .ref h0)] := hl
  suffices h9 : W p l e (headSpec u_c_X4_isThere _).room s m _ below meth c H [] 0 0 _ (F0 m 0 ls []) by rw [hH] at h9; exact h9
  refine lv_aload_n hx hb dX4_isThere_0 rfl (lv_at hl 0 rfl) ?_
  refine va_get (D := (dC, dI)) (ci := 4) (v := .null) (C := RX4) (T := TX4) (N := 13) hx hb hts hiX4 hown hK hP 0 rfl rfl 0 (by decide) (hts (.fieldLink RX4 38 "CakePapers$Joining" "base" "LCakePapers$Paper;") (by decide +kernel)) (fun _ h9 => h9) e_fs_0 dX4_isThere_1 ?_
  refine lv_ifnullN (tgt := 25) hx hb dX4_isThere_4 (by decide) ?_
  refine lv_iconst (v := 0) hx hb dX4_isThere_25 (by decide) ?_
  refine W.widen (k := 0) (n := 0) (Nat.le_of_ble_eq_true rfl) (Nat.le_of_ble_eq_true rfl) ?_
  have hP9 := hP.sub (ws' := [(h0, .inr (4, fs))]) [0] rfl
  have hD9 := hD.sub (ws' := [(h0, .inr (4, fs))]) [0] (by decide) rfl
  exact W.zret (v := 0) hx hb hr (rfl) (fun t ht hW => ⟨⟨0, (), rfl, rfl, by rw [ht]; exact hP9, hD9⟩, hS.F ht⟩) hS.2.2 dX4_isThere_26
def u_c_X4_hasQuarrel : List Cond := .code yX4_hasQuarrel cX4_hasQuarrel 2 (some .boolean) :: ([.fieldLink RX4 48 "CakePapers$Joining" "quarrels" "I"] ++ wsX40)
set_option maxHeartbeats 1000000 in
set_option maxRecDepth 100000 in
theorem c_X4_hasQuarrel (l : Launch) (dC : Nat → ClassId) (dI : Nat → Nat → Nat) (sz : Nat) (h0 : Nat) (fs : List Value) (hn_fs : fs.length = 13) (e_fs_12 : fs[12]? = some (.int 0)) (p0 : Int32) : Met l yX4_hasQuarrel u_c_X4_hasQuarrel ({ frames := 0, cells := 0, slots := 0, locals := 0 }) (va_Pc [.ref h0, .int p0] (fun U => U.heap.size = sz ∧ va_P (dC, dI) vwCl [(h0, .inr (4, fs))] U.heap ∧ va_K (dC, dI) vwCl [] U ∧ va_D (fun _ => True) [(h0, .inr (4, fs))])) (va_Qi (fun (r : Int32) (_ : Unit) => r = 0) (fun _ t => va_P (dC, dI) vwCl [(h0, .inr (4, fs))] t.heap ∧ va_D (va_A [(h0, .inr (4, fs))] sz) [(h0, .inr (4, fs))]) (va_A [(h0, .inr (4, fs))] sz)) 0 0 (va_A [(h0, .inr (4, fs))] sz) := by
  refine Met.ofW (cc := cX4_hasQuarrel) (maxL := 2) (ret := (some .boolean)) (by decide) rfl ?_
  intro p e s m args below meth c s₁ B hml hv
  obtain ⟨rfl, hsz, hP, hK, hD0⟩ := hv
  have hx := B.exec
  have hb := B.bytes
  have hr := B.returns
  have hts := atoms_spec (ws := u_c_X4_hasQuarrel) B.pre
  have hown : s.vm.findClass RX4 = some m.cls := findClass_of_methodNamed B.named
  have hlocks := B.notSynchronized
  have hiX4 : ∀ w ∈ wsX40, w ∈ u_c_X4_hasQuarrel := fun w h => List.mem_cons_of_mem _ (List.mem_append_right _ h)
  subst hsz
  have hD := hD0.self (sz := s.heap.size)
  generalize hAe : va_A [(h0, .inr (4, fs))] s.heap.size = A at hD ⊢
  have hA : ∀ q : Nat, s.heap.size ≤ q → A q := fun q h => by rw [← hAe]; exact Or.inr h
  have hS : va_S A s.heap s.heap [] := va_S.rf
  obtain ⟨H, hH⟩ : ∃ H : Heap, H = s.heap := ⟨_, rfl⟩
  have hP : va_P (dC, dI) vwCl [(h0, .inr (4, fs))] H := by rw [hH]; exact hP
  have hS : va_S A s.heap H [] := by rw [hH]; exact hS
  have hl := lv_entry ([.ref h0, .int p0]) (n := 2) (Nat.le_of_ble_eq_true rfl)
  rw [lg_entry_eq]
  generalize (lg_sl ([.ref h0, .int p0]) ++ List.replicate (2 - (lg_sl ([.ref h0, .int p0])).length) Slot.unset).toArray = ls at hl ⊢
  have hl : lv_has ls 2 [(0, .ref h0), (1, .int p0)] := hl
  suffices h9 : W p l e (headSpec u_c_X4_hasQuarrel _).room s m _ below meth c H [] 0 0 _ (F0 m 0 ls []) by rw [hH] at h9; exact h9
  refine lv_iload_n hx hb dX4_hasQuarrel_0 rfl (lv_at hl 1 rfl) ?_
  refine lv_if_lt (tgt := 16) hx hb dX4_hasQuarrel_1 (by decide) (fun c_1 => ?_) (fun c_1 => ?_)
  · refine lv_iconst (v := 0) hx hb dX4_hasQuarrel_16 (by decide) ?_
    refine W.widen (k := 0) (n := 0) (Nat.le_of_ble_eq_true rfl) (Nat.le_of_ble_eq_true rfl) ?_
    have hP9 := hP.sub (ws' := [(h0, .inr (4, fs))]) [0] rfl
    have hD9 := hD.sub (ws' := [(h0, .inr (4, fs))]) [0] (by decide) rfl
    exact W.zret (v := 0) hx hb hr (rfl) (fun t ht hW => ⟨⟨0, (), rfl, rfl, by rw [ht]; exact hP9, hD9⟩, hS.F ht⟩) hS.2.2 dX4_hasQuarrel_17
  · refine lv_iload_n hx hb dX4_hasQuarrel_4 rfl (lv_at hl 1 rfl) ?_
    refine lv_aload_n hx hb dX4_hasQuarrel_5 rfl (lv_at hl 0 rfl) ?_
    refine va_get (D := (dC, dI)) (ci := 4) (v := .int 0) (C := RX4) (T := TX4) (N := 13) hx hb hts hiX4 hown hK hP 0 rfl rfl 12 (by decide) (hts (.fieldLink RX4 48 "CakePapers$Joining" "quarrels" "I") (by decide +kernel)) (fun _ h9 => h9) e_fs_12 dX4_hasQuarrel_6 ?_
    refine lv_icmp_ge (tgt := 16) hx hb dX4_hasQuarrel_9 (by decide) (fun c_2 => ?_) (fun c_2 => absurd (Int32.not_lt.mp c_1) c_2)
    refine lv_iconst (v := 0) hx hb dX4_hasQuarrel_16 (by decide) ?_
    refine W.widen (k := 0) (n := 0) (Nat.le_of_ble_eq_true rfl) (Nat.le_of_ble_eq_true rfl) ?_
    have hP9 := hP.sub (ws' := [(h0, .inr (4, fs))]) [0] rfl
    have hD9 := hD.sub (ws' := [(h0, .inr (4, fs))]) [0] (by decide) rfl
    exact W.zret (v := 0) hx hb hr (rfl) (fun t ht hW => ⟨⟨0, (), rfl, rfl, by rw [ht]; exact hP9, hD9⟩, hS.F ht⟩) hS.2.2 dX4_hasQuarrel_17
def u_c_X4_clear : List Cond := .code yX4_clear cX4_clear 1 none :: ([.fieldLink RX4 38 "CakePapers$Joining" "base" "LCakePapers$Paper;", .fieldLink RX4 42 "CakePapers$Joining" "one" "LCakePapers$Paper;", .fieldLink RX4 45 "CakePapers$Joining" "other" "LCakePapers$Paper;", .fieldLink RX4 52 "CakePapers$Joining" "steps" "I", .fieldLink RX4 48 "CakePapers$Joining" "quarrels" "I"] ++ wsX40)
set_option maxHeartbeats 1000000 in
set_option maxRecDepth 100000 in
theorem c_X4_clear (l : Launch) (dC : Nat → ClassId) (dI : Nat → Nat → Nat) (sz : Nat) (h0 : Nat) (fs : List Value) (hn_fs : fs.length = 13) : Met l yX4_clear u_c_X4_clear ({ frames := 0, cells := 0, slots := 0, locals := 0 }) (va_Pc [.ref h0] (fun U => U.heap.size = sz ∧ va_P (dC, dI) vwCl [(h0, .inr (4, fs))] U.heap ∧ va_K (dC, dI) vwCl [] U ∧ va_D (fun _ => True) [(h0, .inr (4, fs))])) (va_Qv (fun (_ : Unit) => True) (fun _ t => va_P (dC, dI) vwCl [(h0, .inr (4, (List.set (List.set (List.set (List.set (List.set fs 0 .null) 1 .null) 2 .null) 11 (.int 0)) 12 (.int 0))))] t.heap ∧ va_D (va_A [(h0, .inr (4, fs))] sz) [(h0, .inr (4, (List.set (List.set (List.set (List.set (List.set fs 0 .null) 1 .null) 2 .null) 11 (.int 0)) 12 (.int 0))))]) (va_A [(h0, .inr (4, fs))] sz)) 0 0 (va_A [(h0, .inr (4, fs))] sz) := by
  refine Met.ofW (cc := cX4_clear) (maxL := 1) (ret := none) (by decide) rfl ?_
  intro p e s m args below meth c s₁ B hml hv
  obtain ⟨rfl, hsz, hP, hK, hD0⟩ := hv
  have hx := B.exec
  have hb := B.bytes
  have hr := B.returns
  have hts := atoms_spec (ws := u_c_X4_clear) B.pre
  have hown : s.vm.findClass RX4 = some m.cls := findClass_of_methodNamed B.named
  have hlocks := B.notSynchronized
  have hiX4 : ∀ w ∈ wsX40, w ∈ u_c_X4_clear := fun w h => List.mem_cons_of_mem _ (List.mem_append_right _ h)
  subst hsz
  have hD := hD0.self (sz := s.heap.size)
  generalize hAe : va_A [(h0, .inr (4, fs))] s.heap.size = A at hD ⊢
  have hA : ∀ q : Nat, s.heap.size ≤ q → A q := fun q h => by rw [← hAe]; exact Or.inr h
  have hS : va_S A s.heap s.heap [] := va_S.rf
  obtain ⟨H, hH⟩ : ∃ H : Heap, H = s.heap := ⟨_, rfl⟩
  have hP : va_P (dC, dI) vwCl [(h0, .inr (4, fs))] H := by rw [hH]; exact hP
  have hS : va_S A s.heap H [] := by rw [hH]; exact hS
  have hl := lv_entry ([.ref h0]) (n := 1) (Nat.le_of_ble_eq_true rfl)
  rw [lg_entry_eq]
  generalize (lg_sl ([.ref h0]) ++ List.replicate (1 - (lg_sl ([.ref h0])).length) Slot.unset).toArray = ls at hl ⊢
  have hl : lv_has ls 1 [(0, .ref h0)] := hl
  suffices h9 : W p l e (headSpec u_c_X4_clear _).room s m _ below meth c H [] 0 0 _ (F0 m 0 ls []) by rw [hH] at h9; exact h9
  refine lv_aload_n hx hb dX4_clear_0 rfl (lv_at hl 0 rfl) ?_
  refine lv_null hx hb dX4_clear_1 ?_
  refine va_put (D := (dC, dI)) (ci := 4) (v := .null) (ty := (.object "CakePapers$Paper")) (C := RX4) (T := TX4) (N := 13) hx hb hts hiX4 tyX4 tyX4_ok nmX4 hown hK hP hD hS 0 rfl rfl 0 (by decide) (hts (.fieldLink RX4 38 "CakePapers$Joining" "base" "LCakePapers$Paper;") (by decide +kernel)) (fun _ h9 => h9) rfl (by decide +kernel) rfl rfl (by simp [hn_fs]) dX4_clear_2 (fun H locs hP hD hS => ?_)
  have hP : va_P (dC, dI) vwCl [(h0, .inr (4, (List.set fs 0 .null)))] H := hP
  have hD : va_D A [(h0, .inr (4, (List.set fs 0 .null)))] := hD
  refine lv_aload_n hx hb dX4_clear_5 rfl (lv_at hl 0 rfl) ?_
  refine lv_null hx hb dX4_clear_6 ?_
  refine va_put (D := (dC, dI)) (ci := 4) (v := .null) (ty := (.object "CakePapers$Paper")) (C := RX4) (T := TX4) (N := 13) hx hb hts hiX4 tyX4 tyX4_ok nmX4 hown hK hP hD hS 0 rfl rfl 1 (by decide) (hts (.fieldLink RX4 42 "CakePapers$Joining" "one" "LCakePapers$Paper;") (by decide +kernel)) (fun _ h9 => h9) rfl (by decide +kernel) rfl rfl (by simp [hn_fs]) dX4_clear_7 (fun H locs hP hD hS => ?_)
  have hP : va_P (dC, dI) vwCl [(h0, .inr (4, (List.set (List.set fs 0 .null) 1 .null)))] H := hP
  have hD : va_D A [(h0, .inr (4, (List.set (List.set fs 0 .null) 1 .null)))] := hD
  refine lv_aload_n hx hb dX4_clear_10 rfl (lv_at hl 0 rfl) ?_
  refine lv_null hx hb dX4_clear_11 ?_
  refine va_put (D := (dC, dI)) (ci := 4) (v := .null) (ty := (.object "CakePapers$Paper")) (C := RX4) (T := TX4) (N := 13) hx hb hts hiX4 tyX4 tyX4_ok nmX4 hown hK hP hD hS 0 rfl rfl 2 (by decide) (hts (.fieldLink RX4 45 "CakePapers$Joining" "other" "LCakePapers$Paper;") (by decide +kernel)) (fun _ h9 => h9) rfl (by decide +kernel) rfl rfl (by simp [hn_fs]) dX4_clear_12 (fun H locs hP hD hS => ?_)
  have hP : va_P (dC, dI) vwCl [(h0, .inr (4, (List.set (List.set (List.set fs 0 .null) 1 .null) 2 .null)))] H := hP
  have hD : va_D A [(h0, .inr (4, (List.set (List.set (List.set fs 0 .null) 1 .null) 2 .null)))] := hD
  refine lv_aload_n hx hb dX4_clear_15 rfl (lv_at hl 0 rfl) ?_
  refine lv_iconst (v := 0) hx hb dX4_clear_16 (by decide) ?_
  refine va_put (D := (dC, dI)) (ci := 4) (v := .int 0) (ty := .int) (C := RX4) (T := TX4) (N := 13) hx hb hts hiX4 tyX4 tyX4_ok nmX4 hown hK hP hD hS 0 rfl rfl 11 (by decide) (hts (.fieldLink RX4 52 "CakePapers$Joining" "steps" "I") (by decide +kernel)) (fun _ h9 => h9) rfl (by decide +kernel) rfl rfl (by simp [hn_fs]) dX4_clear_17 (fun H locs hP hD hS => ?_)
  have hP : va_P (dC, dI) vwCl [(h0, .inr (4, (List.set (List.set (List.set (List.set fs 0 .null) 1 .null) 2 .null) 11 (.int 0))))] H := hP
  have hD : va_D A [(h0, .inr (4, (List.set (List.set (List.set (List.set fs 0 .null) 1 .null) 2 .null) 11 (.int 0))))] := hD
  refine lv_aload_n hx hb dX4_clear_20 rfl (lv_at hl 0 rfl) ?_
  refine lv_iconst (v := 0) hx hb dX4_clear_21 (by decide) ?_
  refine va_put (D := (dC, dI)) (ci := 4) (v := .int 0) (ty := .int) (C := RX4) (T := TX4) (N := 13) hx hb hts hiX4 tyX4 tyX4_ok nmX4 hown hK hP hD hS 0 rfl rfl 12 (by decide) (hts (.fieldLink RX4 48 "CakePapers$Joining" "quarrels" "I") (by decide +kernel)) (fun _ h9 => h9) rfl (by decide +kernel) rfl rfl (by simp [hn_fs]) dX4_clear_22 (fun H locs hP hD hS => ?_)
  have hP : va_P (dC, dI) vwCl [(h0, .inr (4, (List.set (List.set (List.set (List.set (List.set fs 0 .null) 1 .null) 2 .null) 11 (.int 0)) 12 (.int 0))))] H := hP
  have hD : va_D A [(h0, .inr (4, (List.set (List.set (List.set (List.set (List.set fs 0 .null) 1 .null) 2 .null) 11 (.int 0)) 12 (.int 0))))] := hD
  refine W.widen (k := 0) (n := 0) (Nat.le_of_ble_eq_true rfl) (Nat.le_of_ble_eq_true rfl) ?_
  have hP9 := hP.sub (ws' := [(h0, .inr (4, (List.set (List.set (List.set (List.set (List.set fs 0 .null) 1 .null) 2 .null) 11 (.int 0)) 12 (.int 0))))]) [0] rfl
  have hD9 := hD.sub (ws' := [(h0, .inr (4, (List.set (List.set (List.set (List.set (List.set fs 0 .null) 1 .null) 2 .null) 11 (.int 0)) 12 (.int 0))))]) [0] (by decide) rfl
  exact W.vret hx hb hr (fun t ht hW => ⟨⟨(), rfl, trivial, by rw [ht]; exact hP9, hD9⟩, hS.F ht⟩) hS.2.2 dX4_clear_25
def u_c_X4_copyFrom : List Cond := .code yX4_copyFrom cX4_copyFrom 3 none :: ([.code yX4_isThere cX4_isThere 1 (some .boolean), .fieldLink RX4 38 "CakePapers$Joining" "base" "LCakePapers$Paper;", .methodLink RX4 55 yX4_isThere, .instanceMethod yX4_isThere, .selects RX4 yX4_isThere yX4_isThere, .initialized RX4, .code yX4_clear cX4_clear 1 none, .fieldLink RX4 42 "CakePapers$Joining" "one" "LCakePapers$Paper;", .fieldLink RX4 45 "CakePapers$Joining" "other" "LCakePapers$Paper;", .fieldLink RX4 52 "CakePapers$Joining" "steps" "I", .fieldLink RX4 48 "CakePapers$Joining" "quarrels" "I", .methodLink RX4 59 yX4_clear, .instanceMethod yX4_clear, .selects RX4 yX4_clear yX4_clear] ++ wsX40)
set_option maxRecDepth 20000 in
theorem g_c_X4_copyFrom_c_X4_isThere_0 : GoodIn u_c_X4_copyFrom (wsV RX4 55 RX4 yX4_isThere u_c_X4_isThere) := goodIn_of _ (by decide +kernel)
set_option maxRecDepth 20000 in
theorem g_c_X4_copyFrom_c_X4_clear_1 : GoodIn u_c_X4_copyFrom (wsV RX4 59 RX4 yX4_clear u_c_X4_clear) := goodIn_of _ (by decide +kernel)
set_option maxHeartbeats 1000000 in
set_option maxRecDepth 100000 in
theorem c_X4_copyFrom (l : Launch) (dC : Nat → ClassId) (dI : Nat → Nat → Nat) (sz : Nat) (h0 h1 : Nat) (fs : List Value) (hn_fs : fs.length = 13) (gs : List Value) (hn_gs : gs.length = 13) (e_gs_0 : gs[0]? = some .null) : Met l yX4_copyFrom u_c_X4_copyFrom ({ frames := 1, cells := 0, slots := 0, locals := 20 }) (va_Pc [.ref h0, .ref h1] (fun U => U.heap.size = sz ∧ va_P (dC, dI) vwCl [(h0, .inr (4, fs)), (h1, .inr (4, gs))] U.heap ∧ va_K (dC, dI) vwCl [] U ∧ va_D (fun _ => True) [(h0, .inr (4, fs)), (h1, .inr (4, gs))])) (va_Qv (fun (_ : Unit) => True) (fun _ t => va_P (dC, dI) vwCl [(h0, .inr (4, (List.set (List.set (List.set (List.set (List.set fs 0 .null) 1 .null) 2 .null) 11 (.int 0)) 12 (.int 0)))), (h1, .inr (4, gs))] t.heap ∧ va_D (va_A [(h0, .inr (4, fs)), (h1, .inr (4, gs))] sz) [(h0, .inr (4, (List.set (List.set (List.set (List.set (List.set fs 0 .null) 1 .null) 2 .null) 11 (.int 0)) 12 (.int 0)))), (h1, .inr (4, gs))]) (va_A [(h0, .inr (4, fs)), (h1, .inr (4, gs))] sz)) 0 0 (va_A [(h0, .inr (4, fs)), (h1, .inr (4, gs))] sz) := by
  refine Met.ofW (cc := cX4_copyFrom) (maxL := 3) (ret := none) (by decide) rfl ?_
  intro p e s m args below meth c s₁ B hml hv
  obtain ⟨rfl, hsz, hP, hK, hD0⟩ := hv
  have hx := B.exec
  have hb := B.bytes
  have hr := B.returns
  have hts := atoms_spec (ws := u_c_X4_copyFrom) B.pre
  have hown : s.vm.findClass RX4 = some m.cls := findClass_of_methodNamed B.named
  have hlocks := B.notSynchronized
  have hiX4 : ∀ w ∈ wsX40, w ∈ u_c_X4_copyFrom := fun w h => List.mem_cons_of_mem _ (List.mem_append_right _ h)
  subst hsz
  have hD := hD0.self (sz := s.heap.size)
  generalize hAe : va_A [(h0, .inr (4, fs)), (h1, .inr (4, gs))] s.heap.size = A at hD ⊢
  have hA : ∀ q : Nat, s.heap.size ≤ q → A q := fun q h => by rw [← hAe]; exact Or.inr h
  have hS : va_S A s.heap s.heap [] := va_S.rf
  obtain ⟨H, hH⟩ : ∃ H : Heap, H = s.heap := ⟨_, rfl⟩
  have hP : va_P (dC, dI) vwCl [(h0, .inr (4, fs)), (h1, .inr (4, gs))] H := by rw [hH]; exact hP
  have hS : va_S A s.heap H [] := by rw [hH]; exact hS
  have hl := lv_entry ([.ref h0, .ref h1]) (n := 3) (Nat.le_of_ble_eq_true rfl)
  rw [lg_entry_eq]
  generalize (lg_sl ([.ref h0, .ref h1]) ++ List.replicate (3 - (lg_sl ([.ref h0, .ref h1])).length) Slot.unset).toArray = ls at hl ⊢
  have hl : lv_has ls 3 [(0, .ref h0), (1, .ref h1)] := hl
  suffices h9 : W p l e (headSpec u_c_X4_copyFrom _).room s m _ below meth c H [] 0 0 _ (F0 m 0 ls []) by rw [hH] at h9; exact h9
  refine lv_aload_n hx hb dX4_copyFrom_0 rfl (lv_at hl 1 rfl) ?_
  have hPc := hP.sub (ws' := [(h1, .inr (4, gs))]) [1] rfl
  have hDc := hD.sub (ws' := [(h1, .inr (4, gs))]) [1] (by decide) rfl
  have hKc := hK.sub (tys' := []) [] rfl
  have hFc := va_free (wc := [(h1, .inr (4, gs))]) hD hS hA [1] rfl
  refine va_calli (va_runV (As := []) (rest := []) ⟨hx, hb, hml, hown, hts⟩ (c_X4_isThere l dC dI H.size h1 gs hn_gs e_gs_0) (cwV 0 hts g_c_X4_copyFrom_c_X4_isThere_0 rfl rfl rfl (by decide +kernel) ⟨Nat.le_of_ble_eq_true rfl, Nat.le_of_ble_eq_true rfl⟩) ⟨fun a U g mk q => by obtain ⟨q0, q1, qP, qK, qD⟩ := q; exact ⟨q0, q1, qP, va_K.moved (u := U) (U := U.calling g mk a) (Vm.Alike.refl U.vm) qK, qD⟩, va_recv hKc hPc (ci := 4) (q0 := 0) rfl rfl, fun U hU hW => ⟨rfl, by rw [hU], by rw [hU]; exact hPc, va_K.moved hW.alike hKc, hDc.weaken (fun _ _ _ _ => trivial)⟩⟩ rfl rfl hl.1 rfl (lv_room (Nat.le_of_ble_eq_true rfl)) dX4_copyFrom_1 ⟨Nat.le_of_ble_eq_true rfl, Nat.le_of_ble_eq_true rfl⟩) hS (fun q _ h => hFc q h) hFc (fun r_1 u t H1 locs ht hvm hw hB hz1 hk1 hS => ?_)
  obtain ⟨hP1, hD1⟩ := hB
  rw [ht] at hP1
  obtain ⟨hP, hD⟩ := va_join (wr := [(h0, .inr (4, fs))]) (w1 := [(h1, .inr (4, gs))]) hP hD [1] [0] rfl rfl (by decide) (by decide) hk1 hFc hP1 hD1
  generalize H1 = H at hP hS ⊢
  have hP : va_P (dC, dI) vwCl [(h0, .inr (4, fs)), (h1, .inr (4, gs))] H := hP
  have hD : va_D A [(h0, .inr (4, fs)), (h1, .inr (4, gs))] := hD
  refine W.widen (k := 0) (n := 0) (Nat.le_of_ble_eq_true rfl) (Nat.le_of_ble_eq_true rfl) ?_
  refine zz_ci (y := 0) hw ?_
  refine lv_if_ne (tgt := 12) hx hb dX4_copyFrom_4 (by decide) (fun c_2 => absurd c_2 (by decide)) (fun c_2 => ?_)
  refine lv_aload_n hx hb dX4_copyFrom_7 rfl (lv_at hl 0 rfl) ?_
  have hPc := hP.sub (ws' := [(h0, .inr (4, fs))]) [0] rfl
  have hDc := hD.sub (ws' := [(h0, .inr (4, fs))]) [0] (by decide) rfl
  have hKc := hK.sub (tys' := []) [] rfl
  have hFc := va_free (wc := [(h0, .inr (4, fs))]) hD hS hA [0] rfl
  refine va_callv (va_runV (As := []) (rest := []) ⟨hx, hb, hml, hown, hts⟩ (c_X4_clear l dC dI H.size h0 fs hn_fs) (cwV 0 hts g_c_X4_copyFrom_c_X4_clear_1 rfl rfl rfl (by decide +kernel) ⟨Nat.le_of_ble_eq_true rfl, Nat.le_of_ble_eq_true rfl⟩) ⟨fun a U g mk q => by obtain ⟨q0, q1, qP, qK, qD⟩ := q; exact ⟨q0, q1, qP, va_K.moved (u := U) (U := U.calling g mk a) (Vm.Alike.refl U.vm) qK, qD⟩, va_recv hKc hPc (ci := 4) (q0 := 0) rfl rfl, fun U hU hW => ⟨rfl, by rw [hU], by rw [hU]; exact hPc, va_K.moved hW.alike hKc, hDc.weaken (fun _ _ _ _ => trivial)⟩⟩ rfl rfl hl.1 rfl (lv_room (Nat.le_of_ble_eq_true rfl)) dX4_copyFrom_8 ⟨Nat.le_of_ble_eq_true rfl, Nat.le_of_ble_eq_true rfl⟩) hS (fun q _ h => hFc q h) hFc (fun u t H1 locs ht hvm hw hB hz1 hk1 hS => ?_)
  obtain ⟨hP1, hD1⟩ := hB
  rw [ht] at hP1
  obtain ⟨hP, hD⟩ := va_join (wr := [(h1, .inr (4, gs))]) (w1 := [(h0, .inr (4, (List.set (List.set (List.set (List.set (List.set fs 0 .null) 1 .null) 2 .null) 11 (.int 0)) 12 (.int 0))))]) hP hD [0] [1] rfl rfl (by decide) (by decide) hk1 hFc hP1 hD1
  generalize H1 = H at hP hS ⊢
  have hP : va_P (dC, dI) vwCl [(h1, .inr (4, gs)), (h0, .inr (4, (List.set (List.set (List.set (List.set (List.set fs 0 .null) 1 .null) 2 .null) 11 (.int 0)) 12 (.int 0))))] H := hP
  have hD : va_D A [(h1, .inr (4, gs)), (h0, .inr (4, (List.set (List.set (List.set (List.set (List.set fs 0 .null) 1 .null) 2 .null) 11 (.int 0)) 12 (.int 0))))] := hD
  refine W.widen (k := 0) (n := 0) (Nat.le_of_ble_eq_true rfl) (Nat.le_of_ble_eq_true rfl) ?_
  refine W.widen (k := 0) (n := 0) (Nat.le_of_ble_eq_true rfl) (Nat.le_of_ble_eq_true rfl) ?_
  have hP9 := hP.sub (ws' := [(h0, .inr (4, (List.set (List.set (List.set (List.set (List.set fs 0 .null) 1 .null) 2 .null) 11 (.int 0)) 12 (.int 0)))), (h1, .inr (4, gs))]) [1, 0] rfl
  have hD9 := hD.sub (ws' := [(h0, .inr (4, (List.set (List.set (List.set (List.set (List.set fs 0 .null) 1 .null) 2 .null) 11 (.int 0)) 12 (.int 0)))), (h1, .inr (4, gs))]) [1, 0] (by decide) rfl
  exact W.vret hx hb hr (fun t ht hW => ⟨⟨(), rfl, trivial, by rw [ht]; exact hP9, hD9⟩, hS.F ht⟩) hS.2.2 dX4_copyFrom_11
def u_c_X8_next : List Cond := .code yX8_next cX8_next 1 none :: ([.fieldLink RX8 43 "CakePapers$Scanner" "at" "I", .fieldLink RX8 41 "CakePapers$Scanner" "length" "I", .fieldLink RX8 52 "CakePapers$Scanner" "place" "I", .fieldLink RX8 55 "CakePapers$Scanner" "kind" "I"] ++ wsX80)
set_option maxHeartbeats 1000000 in
set_option maxRecDepth 100000 in
theorem c_X8_next (l : Launch) (dC : Nat → ClassId) (dI : Nat → Nat → Nat) (sz : Nat) (h0 : Nat) (fs : List Value) (hn_fs : fs.length = 10) (e_fs_2 : fs[2]? = some (.int 0)) (e_fs_3 : fs[3]? = some (.int 0)) : Met l yX8_next u_c_X8_next ({ frames := 0, cells := 0, slots := 0, locals := 0 }) (va_Pc [.ref h0] (fun U => U.heap.size = sz ∧ va_P (dC, dI) vwCl [(h0, .inr (8, fs))] U.heap ∧ va_K (dC, dI) vwCl [] U ∧ va_D (fun _ => True) [(h0, .inr (8, fs))])) (va_Qv (fun (_ : Unit) => True) (fun _ t => va_P (dC, dI) vwCl [(h0, .inr (8, (List.set (List.set fs 5 (.int 0)) 4 (.int 1))))] t.heap ∧ va_D (va_A [(h0, .inr (8, fs))] sz) [(h0, .inr (8, (List.set (List.set fs 5 (.int 0)) 4 (.int 1))))]) (va_A [(h0, .inr (8, fs))] sz)) 0 0 (va_A [(h0, .inr (8, fs))] sz) := by
  refine Met.ofW (cc := cX8_next) (maxL := 1) (ret := none) (by decide) rfl ?_
  intro p e s m args below meth c s₁ B hml hv
  obtain ⟨rfl, hsz, hP, hK, hD0⟩ := hv
  have hx := B.exec
  have hb := B.bytes
  have hr := B.returns
  have hts := atoms_spec (ws := u_c_X8_next) B.pre
  have hown : s.vm.findClass RX8 = some m.cls := findClass_of_methodNamed B.named
  have hlocks := B.notSynchronized
  have hiX8 : ∀ w ∈ wsX80, w ∈ u_c_X8_next := fun w h => List.mem_cons_of_mem _ (List.mem_append_right _ h)
  subst hsz
  have hD := hD0.self (sz := s.heap.size)
  generalize hAe : va_A [(h0, .inr (8, fs))] s.heap.size = A at hD ⊢
  have hA : ∀ q : Nat, s.heap.size ≤ q → A q := fun q h => by rw [← hAe]; exact Or.inr h
  have hS : va_S A s.heap s.heap [] := va_S.rf
  obtain ⟨H, hH⟩ : ∃ H : Heap, H = s.heap := ⟨_, rfl⟩
  have hP : va_P (dC, dI) vwCl [(h0, .inr (8, fs))] H := by rw [hH]; exact hP
  have hS : va_S A s.heap H [] := by rw [hH]; exact hS
  have hl := lv_entry ([.ref h0]) (n := 1) (Nat.le_of_ble_eq_true rfl)
  rw [lg_entry_eq]
  generalize (lg_sl ([.ref h0]) ++ List.replicate (1 - (lg_sl ([.ref h0])).length) Slot.unset).toArray = ls at hl ⊢
  have hl : lv_has ls 1 [(0, .ref h0)] := hl
  suffices h9 : W p l e (headSpec u_c_X8_next _).room s m _ below meth c H [] 0 0 _ (F0 m 0 ls []) by rw [hH] at h9; exact h9
  refine lv_aload_n hx hb dX8_next_0 rfl (lv_at hl 0 rfl) ?_
  refine va_get (D := (dC, dI)) (ci := 8) (v := .int 0) (C := RX8) (T := TX8) (N := 10) hx hb hts hiX8 hown hK hP 0 rfl rfl 3 (by decide) (hts (.fieldLink RX8 43 "CakePapers$Scanner" "at" "I") (by decide +kernel)) (fun _ h9 => h9) e_fs_3 dX8_next_1 ?_
  refine lv_aload_n hx hb dX8_next_4 rfl (lv_at hl 0 rfl) ?_
  refine va_get (D := (dC, dI)) (ci := 8) (v := .int 0) (C := RX8) (T := TX8) (N := 10) hx hb hts hiX8 hown hK hP 0 rfl rfl 2 (by decide) (hts (.fieldLink RX8 41 "CakePapers$Scanner" "length" "I") (by decide +kernel)) (fun _ h9 => h9) e_fs_2 dX8_next_5 ?_
  refine lv_icmp_ge (tgt := 52) hx hb dX8_next_8 (by decide) (fun c_1 => ?_) (fun c_1 => absurd c_1 (by decide))
  refine lv_aload_n hx hb dX8_next_52 rfl (lv_at hl 0 rfl) ?_
  refine lv_aload_n hx hb dX8_next_53 rfl (lv_at hl 0 rfl) ?_
  refine va_get (D := (dC, dI)) (ci := 8) (v := .int 0) (C := RX8) (T := TX8) (N := 10) hx hb hts hiX8 hown hK hP 0 rfl rfl 3 (by decide) (hts (.fieldLink RX8 43 "CakePapers$Scanner" "at" "I") (by decide +kernel)) (fun _ h9 => h9) e_fs_3 dX8_next_54 ?_
  refine va_put (D := (dC, dI)) (ci := 8) (v := .int 0) (ty := .int) (C := RX8) (T := TX8) (N := 10) hx hb hts hiX8 tyX8 tyX8_ok nmX8 hown hK hP hD hS 0 rfl rfl 5 (by decide) (hts (.fieldLink RX8 52 "CakePapers$Scanner" "place" "I") (by decide +kernel)) (fun _ h9 => h9) rfl (by decide +kernel) rfl rfl (by simp [hn_fs]) dX8_next_57 (fun H locs hP hD hS => ?_)
  have hP : va_P (dC, dI) vwCl [(h0, .inr (8, (List.set fs 5 (.int 0))))] H := hP
  have hD : va_D A [(h0, .inr (8, (List.set fs 5 (.int 0))))] := hD
  refine lv_aload_n hx hb dX8_next_60 rfl (lv_at hl 0 rfl) ?_
  refine va_get (D := (dC, dI)) (ci := 8) (v := .int 0) (C := RX8) (T := TX8) (N := 10) hx hb hts hiX8 hown hK hP 0 rfl rfl 3 (by decide) (hts (.fieldLink RX8 43 "CakePapers$Scanner" "at" "I") (by decide +kernel)) (fun _ h9 => h9) (by simp [e_fs_3]) dX8_next_61 ?_
  refine lv_aload_n hx hb dX8_next_64 rfl (lv_at hl 0 rfl) ?_
  refine va_get (D := (dC, dI)) (ci := 8) (v := .int 0) (C := RX8) (T := TX8) (N := 10) hx hb hts hiX8 hown hK hP 0 rfl rfl 2 (by decide) (hts (.fieldLink RX8 41 "CakePapers$Scanner" "length" "I") (by decide +kernel)) (fun _ h9 => h9) (by simp [e_fs_2]) dX8_next_65 ?_
  refine lv_icmp_lt (tgt := 79) hx hb dX8_next_68 (by decide) (fun c_2 => absurd c_2 (by decide)) (fun c_2 => ?_)
  refine lv_aload_n hx hb dX8_next_71 rfl (lv_at hl 0 rfl) ?_
  refine lv_iconst (v := 1) hx hb dX8_next_72 (by decide) ?_
  refine va_put (D := (dC, dI)) (ci := 8) (v := .int 1) (ty := .int) (C := RX8) (T := TX8) (N := 10) hx hb hts hiX8 tyX8 tyX8_ok nmX8 hown hK hP hD hS 0 rfl rfl 4 (by decide) (hts (.fieldLink RX8 55 "CakePapers$Scanner" "kind" "I") (by decide +kernel)) (fun _ h9 => h9) rfl (by decide +kernel) rfl rfl (by simp [hn_fs]) dX8_next_73 (fun H locs hP hD hS => ?_)
  have hP : va_P (dC, dI) vwCl [(h0, .inr (8, (List.set (List.set fs 5 (.int 0)) 4 (.int 1))))] H := hP
  have hD : va_D A [(h0, .inr (8, (List.set (List.set fs 5 (.int 0)) 4 (.int 1))))] := hD
  refine lv_goto (tgt := 168) hx hb dX8_next_76 (by decide) ?_
  refine W.widen (k := 0) (n := 0) (Nat.le_of_ble_eq_true rfl) (Nat.le_of_ble_eq_true rfl) ?_
  have hP9 := hP.sub (ws' := [(h0, .inr (8, (List.set (List.set fs 5 (.int 0)) 4 (.int 1))))]) [0] rfl
  have hD9 := hD.sub (ws' := [(h0, .inr (8, (List.set (List.set fs 5 (.int 0)) 4 (.int 1))))]) [0] (by decide) rfl
  exact W.vret hx hb hr (fun t ht hW => ⟨⟨(), rfl, trivial, by rw [ht]; exact hP9, hD9⟩, hS.F ht⟩) hS.2.2 dX8_next_168
def u_c_X8_start : List Cond := .code yX8_start cX8_start 3 none :: ([.fieldLink RX8 15 "CakePapers$Scanner" "bytes" "[I", .methodLink RX8 35 Lib.Math.min.name, .static Lib.Math.min.name, .initialized "java/lang/Math", .code Lib.Math.min.name Lib.Math.min.code 2 (some .int), .fieldLink RX8 41 "CakePapers$Scanner" "length" "I", .fieldLink RX8 43 "CakePapers$Scanner" "at" "I", .fieldLink RX8 46 "CakePapers$Scanner" "fault" "I", .fieldLink RX8 19 "CakePapers$Scanner" "faultPlace" "I", .code yX8_next cX8_next 1 none, .fieldLink RX8 52 "CakePapers$Scanner" "place" "I", .fieldLink RX8 55 "CakePapers$Scanner" "kind" "I", .methodLink RX8 49 yX8_next, .instanceMethod yX8_next, .selects RX8 yX8_next yX8_next, .initialized RX8] ++ wsX80)
set_option maxRecDepth 20000 in
theorem g_c_X8_start_c_X8_next_0 : GoodIn u_c_X8_start (wsV RX8 49 RX8 yX8_next u_c_X8_next) := goodIn_of _ (by decide +kernel)
set_option maxHeartbeats 1000000 in
set_option maxRecDepth 100000 in
theorem c_X8_start (l : Launch) (dC : Nat → ClassId) (dI : Nat → Nat → Nat) (sz : Nat) (h0 h1 : Nat) (cI : ClassId) (f : Nat → Int32) (fs : List Value) (hn_fs : fs.length = 10) : Met l yX8_start u_c_X8_start ({ frames := 1, cells := 0, slots := 0, locals := 21 }) (va_Pc [.ref h0, .ref h1, .int 0] (fun U => U.heap.size = sz ∧ va_P (dC, dI) vwCl [(h0, .inr (8, fs)), (h1, .inl (cI, 1200, .inl f))] U.heap ∧ va_K (dC, dI) vwCl [(cI, .int)] U ∧ va_D (fun _ => True) [(h0, .inr (8, fs)), (h1, .inl (cI, 1200, .inl f))])) (va_Qv (fun (_ : Unit) => True) (fun _ t => va_P (dC, dI) vwCl [(h0, .inr (8, (List.set (List.set (List.set (List.set (List.set (List.set (List.set fs 1 (.ref h1)) 2 (.int 0)) 3 (.int 0)) 8 (.int 0)) 9 (.int (-1))) 5 (.int 0)) 4 (.int 1)))), (h1, .inl (cI, 1200, .inl f))] t.heap ∧ va_D (va_A [(h0, .inr (8, fs)), (h1, .inl (cI, 1200, .inl f))] sz) [(h0, .inr (8, (List.set (List.set (List.set (List.set (List.set (List.set (List.set fs 1 (.ref h1)) 2 (.int 0)) 3 (.int 0)) 8 (.int 0)) 9 (.int (-1))) 5 (.int 0)) 4 (.int 1)))), (h1, .inl (cI, 1200, .inl f))]) (va_A [(h0, .inr (8, fs)), (h1, .inl (cI, 1200, .inl f))] sz)) 0 0 (va_A [(h0, .inr (8, fs)), (h1, .inl (cI, 1200, .inl f))] sz) := by
  refine Met.ofW (cc := cX8_start) (maxL := 3) (ret := none) (by decide) rfl ?_
  intro p e s m args below meth c s₁ B hml hv
  obtain ⟨rfl, hsz, hP, hK, hD0⟩ := hv
  have hx := B.exec
  have hb := B.bytes
  have hr := B.returns
  have hts := atoms_spec (ws := u_c_X8_start) B.pre
  have hown : s.vm.findClass RX8 = some m.cls := findClass_of_methodNamed B.named
  have hlocks := B.notSynchronized
  have hiX8 : ∀ w ∈ wsX80, w ∈ u_c_X8_start := fun w h => List.mem_cons_of_mem _ (List.mem_append_right _ h)
  subst hsz
  have hD := hD0.self (sz := s.heap.size)
  generalize hAe : va_A [(h0, .inr (8, fs)), (h1, .inl (cI, 1200, .inl f))] s.heap.size = A at hD ⊢
  have hA : ∀ q : Nat, s.heap.size ≤ q → A q := fun q h => by rw [← hAe]; exact Or.inr h
  have hS : va_S A s.heap s.heap [] := va_S.rf
  obtain ⟨H, hH⟩ : ∃ H : Heap, H = s.heap := ⟨_, rfl⟩
  have hP : va_P (dC, dI) vwCl [(h0, .inr (8, fs)), (h1, .inl (cI, 1200, .inl f))] H := by rw [hH]; exact hP
  have hS : va_S A s.heap H [] := by rw [hH]; exact hS
  have hl := lv_entry ([.ref h0, .ref h1, .int 0]) (n := 3) (Nat.le_of_ble_eq_true rfl)
  rw [lg_entry_eq]
  generalize (lg_sl ([.ref h0, .ref h1, .int 0]) ++ List.replicate (3 - (lg_sl ([.ref h0, .ref h1, .int 0])).length) Slot.unset).toArray = ls at hl ⊢
  have hl : lv_has ls 3 [(0, .ref h0), (1, .ref h1), (2, .int 0)] := hl
  suffices h9 : W p l e (headSpec u_c_X8_start _).room s m _ below meth c H [] 0 0 _ (F0 m 0 ls []) by rw [hH] at h9; exact h9
  refine lv_aload_n hx hb dX8_start_0 rfl (lv_at hl 0 rfl) ?_
  refine lv_aload_n hx hb dX8_start_1 rfl (lv_at hl 1 rfl) ?_
  refine va_put (D := (dC, dI)) (ci := 8) (v := .ref h1) (ty := (.array .int)) (C := RX8) (T := TX8) (N := 10) hx hb hts hiX8 tyX8 tyX8_ok nmX8 hown hK hP hD hS 0 rfl rfl 1 (by decide) (hts (.fieldLink RX8 15 "CakePapers$Scanner" "bytes" "[I") (by decide +kernel)) (fun _ h9 => h9) rfl (by decide +kernel) rfl rfl (by simp [hn_fs]) dX8_start_2 (fun H locs hP hD hS => ?_)
  have hP : va_P (dC, dI) vwCl [(h0, .inr (8, (List.set fs 1 (.ref h1)))), (h1, .inl (cI, 1200, .inl f))] H := hP
  have hD : va_D A [(h0, .inr (8, (List.set fs 1 (.ref h1)))), (h1, .inl (cI, 1200, .inl f))] := hD
  refine lv_aload_n hx hb dX8_start_5 rfl (lv_at hl 0 rfl) ?_
  refine lv_iload_n hx hb dX8_start_6 rfl (lv_at hl 2 rfl) ?_
  refine lv_aload_n hx hb dX8_start_7 rfl (lv_at hl 1 rfl) ?_
  refine va_alen (v := 1200) hx hb hK hP 1 0 rfl rfl rfl dX8_start_8 ?_
  refine va_mmin hx hb (by rw [hml]; exact hl.1.symm) hown (hts (.methodLink RX8 35 Lib.Math.min.name) (by decide +kernel)) (hts (.static Lib.Math.min.name) (by decide +kernel)) (hts (.initialized "java/lang/Math") (by decide +kernel)) (hts (.code Lib.Math.min.name Lib.Math.min.code 2 (some .int)) (by decide +kernel)) (Nat.le_of_ble_eq_true rfl) (Nat.le_of_ble_eq_true rfl) (Nat.le_of_ble_eq_true rfl) (Nat.le_of_ble_eq_true rfl) dX8_start_9 ?_
  refine zz_ci (y := 0) (by decide) ?_
  refine va_put (D := (dC, dI)) (ci := 8) (v := .int 0) (ty := .int) (C := RX8) (T := TX8) (N := 10) hx hb hts hiX8 tyX8 tyX8_ok nmX8 hown hK hP hD hS 0 rfl rfl 2 (by decide) (hts (.fieldLink RX8 41 "CakePapers$Scanner" "length" "I") (by decide +kernel)) (fun _ h9 => h9) rfl (by decide +kernel) rfl rfl (by simp [hn_fs]) dX8_start_12 (fun H locs hP hD hS => ?_)
  have hP : va_P (dC, dI) vwCl [(h0, .inr (8, (List.set (List.set fs 1 (.ref h1)) 2 (.int 0)))), (h1, .inl (cI, 1200, .inl f))] H := hP
  have hD : va_D A [(h0, .inr (8, (List.set (List.set fs 1 (.ref h1)) 2 (.int 0)))), (h1, .inl (cI, 1200, .inl f))] := hD
  refine lv_aload_n hx hb dX8_start_15 rfl (lv_at hl 0 rfl) ?_
  refine lv_iconst (v := 0) hx hb dX8_start_16 (by decide) ?_
  refine va_put (D := (dC, dI)) (ci := 8) (v := .int 0) (ty := .int) (C := RX8) (T := TX8) (N := 10) hx hb hts hiX8 tyX8 tyX8_ok nmX8 hown hK hP hD hS 0 rfl rfl 3 (by decide) (hts (.fieldLink RX8 43 "CakePapers$Scanner" "at" "I") (by decide +kernel)) (fun _ h9 => h9) rfl (by decide +kernel) rfl rfl (by simp [hn_fs]) dX8_start_17 (fun H locs hP hD hS => ?_)
  have hP : va_P (dC, dI) vwCl [(h0, .inr (8, (List.set (List.set (List.set fs 1 (.ref h1)) 2 (.int 0)) 3 (.int 0)))), (h1, .inl (cI, 1200, .inl f))] H := hP
  have hD : va_D A [(h0, .inr (8, (List.set (List.set (List.set fs 1 (.ref h1)) 2 (.int 0)) 3 (.int 0)))), (h1, .inl (cI, 1200, .inl f))] := hD
  refine lv_aload_n hx hb dX8_start_20 rfl (lv_at hl 0 rfl) ?_
  refine lv_iconst (v := 0) hx hb dX8_start_21 (by decide) ?_
  refine va_put (D := (dC, dI)) (ci := 8) (v := .int 0) (ty := .int) (C := RX8) (T := TX8) (N := 10) hx hb hts hiX8 tyX8 tyX8_ok nmX8 hown hK hP hD hS 0 rfl rfl 8 (by decide) (hts (.fieldLink RX8 46 "CakePapers$Scanner" "fault" "I") (by decide +kernel)) (fun _ h9 => h9) rfl (by decide +kernel) rfl rfl (by simp [hn_fs]) dX8_start_22 (fun H locs hP hD hS => ?_)
  have hP : va_P (dC, dI) vwCl [(h0, .inr (8, (List.set (List.set (List.set (List.set fs 1 (.ref h1)) 2 (.int 0)) 3 (.int 0)) 8 (.int 0)))), (h1, .inl (cI, 1200, .inl f))] H := hP
  have hD : va_D A [(h0, .inr (8, (List.set (List.set (List.set (List.set fs 1 (.ref h1)) 2 (.int 0)) 3 (.int 0)) 8 (.int 0)))), (h1, .inl (cI, 1200, .inl f))] := hD
  refine lv_aload_n hx hb dX8_start_25 rfl (lv_at hl 0 rfl) ?_
  refine lv_iconst (v := (-1)) hx hb dX8_start_26 (by decide) ?_
  refine va_put (D := (dC, dI)) (ci := 8) (v := .int (-1)) (ty := .int) (C := RX8) (T := TX8) (N := 10) hx hb hts hiX8 tyX8 tyX8_ok nmX8 hown hK hP hD hS 0 rfl rfl 9 (by decide) (hts (.fieldLink RX8 19 "CakePapers$Scanner" "faultPlace" "I") (by decide +kernel)) (fun _ h9 => h9) rfl (by decide +kernel) rfl rfl (by simp [hn_fs]) dX8_start_27 (fun H locs hP hD hS => ?_)
  have hP : va_P (dC, dI) vwCl [(h0, .inr (8, (List.set (List.set (List.set (List.set (List.set fs 1 (.ref h1)) 2 (.int 0)) 3 (.int 0)) 8 (.int 0)) 9 (.int (-1))))), (h1, .inl (cI, 1200, .inl f))] H := hP
  have hD : va_D A [(h0, .inr (8, (List.set (List.set (List.set (List.set (List.set fs 1 (.ref h1)) 2 (.int 0)) 3 (.int 0)) 8 (.int 0)) 9 (.int (-1))))), (h1, .inl (cI, 1200, .inl f))] := hD
  refine lv_aload_n hx hb dX8_start_30 rfl (lv_at hl 0 rfl) ?_
  have hPc := hP.sub (ws' := [(h0, .inr (8, (List.set (List.set (List.set (List.set (List.set fs 1 (.ref h1)) 2 (.int 0)) 3 (.int 0)) 8 (.int 0)) 9 (.int (-1)))))]) [0] rfl
  have hDc := hD.sub (ws' := [(h0, .inr (8, (List.set (List.set (List.set (List.set (List.set fs 1 (.ref h1)) 2 (.int 0)) 3 (.int 0)) 8 (.int 0)) 9 (.int (-1)))))]) [0] (by decide) rfl
  have hKc := hK.sub (tys' := []) [] rfl
  have hFc := va_free (wc := [(h0, .inr (8, (List.set (List.set (List.set (List.set (List.set fs 1 (.ref h1)) 2 (.int 0)) 3 (.int 0)) 8 (.int 0)) 9 (.int (-1)))))]) hD hS hA [0] rfl
  refine va_callv (va_runV (As := []) (rest := []) ⟨hx, hb, hml, hown, hts⟩ (c_X8_next l dC dI H.size h0 (List.set (List.set (List.set (List.set (List.set fs 1 (.ref h1)) 2 (.int 0)) 3 (.int 0)) 8 (.int 0)) 9 (.int (-1))) (by simp [hn_fs]) (by simp [hn_fs]) (by simp [hn_fs])) (cwV 0 hts g_c_X8_start_c_X8_next_0 rfl rfl rfl (by decide +kernel) ⟨Nat.le_of_ble_eq_true rfl, Nat.le_of_ble_eq_true rfl⟩) ⟨fun a U g mk q => by obtain ⟨q0, q1, qP, qK, qD⟩ := q; exact ⟨q0, q1, qP, va_K.moved (u := U) (U := U.calling g mk a) (Vm.Alike.refl U.vm) qK, qD⟩, va_recv hKc hPc (ci := 8) (q0 := 0) rfl rfl, fun U hU hW => ⟨rfl, by rw [hU], by rw [hU]; exact hPc, va_K.moved hW.alike hKc, hDc.weaken (fun _ _ _ _ => trivial)⟩⟩ rfl rfl hl.1 rfl (lv_room (Nat.le_of_ble_eq_true rfl)) dX8_start_31 ⟨Nat.le_of_ble_eq_true rfl, Nat.le_of_ble_eq_true rfl⟩) hS (fun q _ h => hFc q h) hFc (fun u t H1 locs ht hvm hw hB hz1 hk1 hS => ?_)
  obtain ⟨hP1, hD1⟩ := hB
  rw [ht] at hP1
  obtain ⟨hP, hD⟩ := va_join (wr := [(h1, .inl (cI, 1200, .inl f))]) (w1 := [(h0, .inr (8, (List.set (List.set (List.set (List.set (List.set (List.set (List.set fs 1 (.ref h1)) 2 (.int 0)) 3 (.int 0)) 8 (.int 0)) 9 (.int (-1))) 5 (.int 0)) 4 (.int 1))))]) hP hD [0] [1] rfl rfl (by decide) (by decide) hk1 hFc hP1 hD1
  generalize H1 = H at hP hS ⊢
  have hP : va_P (dC, dI) vwCl [(h1, .inl (cI, 1200, .inl f)), (h0, .inr (8, (List.set (List.set (List.set (List.set (List.set (List.set (List.set fs 1 (.ref h1)) 2 (.int 0)) 3 (.int 0)) 8 (.int 0)) 9 (.int (-1))) 5 (.int 0)) 4 (.int 1))))] H := hP
  have hD : va_D A [(h1, .inl (cI, 1200, .inl f)), (h0, .inr (8, (List.set (List.set (List.set (List.set (List.set (List.set (List.set fs 1 (.ref h1)) 2 (.int 0)) 3 (.int 0)) 8 (.int 0)) 9 (.int (-1))) 5 (.int 0)) 4 (.int 1))))] := hD
  refine W.widen (k := 0) (n := 0) (Nat.le_of_ble_eq_true rfl) (Nat.le_of_ble_eq_true rfl) ?_
  refine W.widen (k := 0) (n := 0) (Nat.le_of_ble_eq_true rfl) (Nat.le_of_ble_eq_true rfl) ?_
  have hP9 := hP.sub (ws' := [(h0, .inr (8, (List.set (List.set (List.set (List.set (List.set (List.set (List.set fs 1 (.ref h1)) 2 (.int 0)) 3 (.int 0)) 8 (.int 0)) 9 (.int (-1))) 5 (.int 0)) 4 (.int 1)))), (h1, .inl (cI, 1200, .inl f))]) [1, 0] rfl
  have hD9 := hD.sub (ws' := [(h0, .inr (8, (List.set (List.set (List.set (List.set (List.set (List.set (List.set fs 1 (.ref h1)) 2 (.int 0)) 3 (.int 0)) 8 (.int 0)) 9 (.int (-1))) 5 (.int 0)) 4 (.int 1)))), (h1, .inl (cI, 1200, .inl f))]) [1, 0] (by decide) rfl
  exact W.vret hx hb hr (fun t ht hW => ⟨⟨(), rfl, trivial, by rw [ht]; exact hP9, hD9⟩, hS.F ht⟩) hS.2.2 dX8_start_34
def u_c_X8_blame : List Cond := .code yX8_blame cX8_blame 2 (some .boolean) :: ([.fieldLink RX8 46 "CakePapers$Scanner" "fault" "I", .fieldLink RX8 52 "CakePapers$Scanner" "place" "I", .fieldLink RX8 19 "CakePapers$Scanner" "faultPlace" "I"] ++ wsX80)
set_option maxHeartbeats 1000000 in
set_option maxRecDepth 100000 in
theorem c_X8_blame (l : Launch) (dC : Nat → ClassId) (dI : Nat → Nat → Nat) (sz : Nat) (h0 : Nat) (fs : List Value) (hn_fs : fs.length = 10) (e_fs_5 : fs[5]? = some (.int 0)) : Met l yX8_blame u_c_X8_blame ({ frames := 0, cells := 0, slots := 0, locals := 0 }) (va_Pc [.ref h0, .int 2] (fun U => U.heap.size = sz ∧ va_P (dC, dI) vwCl [(h0, .inr (8, fs))] U.heap ∧ va_K (dC, dI) vwCl [] U ∧ va_D (fun _ => True) [(h0, .inr (8, fs))])) (va_Qi (fun (r : Int32) (_ : Unit) => r = 0) (fun _ t => va_P (dC, dI) vwCl [(h0, .inr (8, (List.set (List.set fs 8 (.int 2)) 9 (.int 0))))] t.heap ∧ va_D (va_A [(h0, .inr (8, fs))] sz) [(h0, .inr (8, (List.set (List.set fs 8 (.int 2)) 9 (.int 0))))]) (va_A [(h0, .inr (8, fs))] sz)) 0 0 (va_A [(h0, .inr (8, fs))] sz) := by
  refine Met.ofW (cc := cX8_blame) (maxL := 2) (ret := (some .boolean)) (by decide) rfl ?_
  intro p e s m args below meth c s₁ B hml hv
  obtain ⟨rfl, hsz, hP, hK, hD0⟩ := hv
  have hx := B.exec
  have hb := B.bytes
  have hr := B.returns
  have hts := atoms_spec (ws := u_c_X8_blame) B.pre
  have hown : s.vm.findClass RX8 = some m.cls := findClass_of_methodNamed B.named
  have hlocks := B.notSynchronized
  have hiX8 : ∀ w ∈ wsX80, w ∈ u_c_X8_blame := fun w h => List.mem_cons_of_mem _ (List.mem_append_right _ h)
  subst hsz
  have hD := hD0.self (sz := s.heap.size)
  generalize hAe : va_A [(h0, .inr (8, fs))] s.heap.size = A at hD ⊢
  have hA : ∀ q : Nat, s.heap.size ≤ q → A q := fun q h => by rw [← hAe]; exact Or.inr h
  have hS : va_S A s.heap s.heap [] := va_S.rf
  obtain ⟨H, hH⟩ : ∃ H : Heap, H = s.heap := ⟨_, rfl⟩
  have hP : va_P (dC, dI) vwCl [(h0, .inr (8, fs))] H := by rw [hH]; exact hP
  have hS : va_S A s.heap H [] := by rw [hH]; exact hS
  have hl := lv_entry ([.ref h0, .int 2]) (n := 2) (Nat.le_of_ble_eq_true rfl)
  rw [lg_entry_eq]
  generalize (lg_sl ([.ref h0, .int 2]) ++ List.replicate (2 - (lg_sl ([.ref h0, .int 2])).length) Slot.unset).toArray = ls at hl ⊢
  have hl : lv_has ls 2 [(0, .ref h0), (1, .int 2)] := hl
  suffices h9 : W p l e (headSpec u_c_X8_blame _).room s m _ below meth c H [] 0 0 _ (F0 m 0 ls []) by rw [hH] at h9; exact h9
  refine lv_aload_n hx hb dX8_blame_0 rfl (lv_at hl 0 rfl) ?_
  refine lv_iload_n hx hb dX8_blame_1 rfl (lv_at hl 1 rfl) ?_
  refine va_put (D := (dC, dI)) (ci := 8) (v := .int 2) (ty := .int) (C := RX8) (T := TX8) (N := 10) hx hb hts hiX8 tyX8 tyX8_ok nmX8 hown hK hP hD hS 0 rfl rfl 8 (by decide) (hts (.fieldLink RX8 46 "CakePapers$Scanner" "fault" "I") (by decide +kernel)) (fun _ h9 => h9) rfl (by decide +kernel) rfl rfl (by simp [hn_fs]) dX8_blame_2 (fun H locs hP hD hS => ?_)
  have hP : va_P (dC, dI) vwCl [(h0, .inr (8, (List.set fs 8 (.int 2))))] H := hP
  have hD : va_D A [(h0, .inr (8, (List.set fs 8 (.int 2))))] := hD
  refine lv_aload_n hx hb dX8_blame_5 rfl (lv_at hl 0 rfl) ?_
  refine lv_aload_n hx hb dX8_blame_6 rfl (lv_at hl 0 rfl) ?_
  refine va_get (D := (dC, dI)) (ci := 8) (v := .int 0) (C := RX8) (T := TX8) (N := 10) hx hb hts hiX8 hown hK hP 0 rfl rfl 5 (by decide) (hts (.fieldLink RX8 52 "CakePapers$Scanner" "place" "I") (by decide +kernel)) (fun _ h9 => h9) (by simp [e_fs_5]) dX8_blame_7 ?_
  refine va_put (D := (dC, dI)) (ci := 8) (v := .int 0) (ty := .int) (C := RX8) (T := TX8) (N := 10) hx hb hts hiX8 tyX8 tyX8_ok nmX8 hown hK hP hD hS 0 rfl rfl 9 (by decide) (hts (.fieldLink RX8 19 "CakePapers$Scanner" "faultPlace" "I") (by decide +kernel)) (fun _ h9 => h9) rfl (by decide +kernel) rfl rfl (by simp [hn_fs]) dX8_blame_10 (fun H locs hP hD hS => ?_)
  have hP : va_P (dC, dI) vwCl [(h0, .inr (8, (List.set (List.set fs 8 (.int 2)) 9 (.int 0))))] H := hP
  have hD : va_D A [(h0, .inr (8, (List.set (List.set fs 8 (.int 2)) 9 (.int 0))))] := hD
  refine lv_iconst (v := 0) hx hb dX8_blame_13 (by decide) ?_
  refine W.widen (k := 0) (n := 0) (Nat.le_of_ble_eq_true rfl) (Nat.le_of_ble_eq_true rfl) ?_
  have hP9 := hP.sub (ws' := [(h0, .inr (8, (List.set (List.set fs 8 (.int 2)) 9 (.int 0))))]) [0] rfl
  have hD9 := hD.sub (ws' := [(h0, .inr (8, (List.set (List.set fs 8 (.int 2)) 9 (.int 0))))]) [0] (by decide) rfl
  exact W.zret (v := 0) hx hb hr (rfl) (fun t ht hW => ⟨⟨0, (), rfl, rfl, by rw [ht]; exact hP9, hD9⟩, hS.F ht⟩) hS.2.2 dX8_blame_14
def u_c_X8_refuse : List Cond := .code yX8_refuse cX8_refuse 1 (some .boolean) :: ([.fieldLink RX8 55 "CakePapers$Scanner" "kind" "I", .code yX8_blame cX8_blame 2 (some .boolean), .fieldLink RX8 46 "CakePapers$Scanner" "fault" "I", .fieldLink RX8 52 "CakePapers$Scanner" "place" "I", .fieldLink RX8 19 "CakePapers$Scanner" "faultPlace" "I", .methodLink RX8 84 yX8_blame, .instanceMethod yX8_blame, .selects RX8 yX8_blame yX8_blame, .initialized RX8] ++ wsX80)
set_option maxRecDepth 20000 in
theorem g_c_X8_refuse_c_X8_blame_0 : GoodIn u_c_X8_refuse (wsV RX8 84 RX8 yX8_blame u_c_X8_blame) := goodIn_of _ (by decide +kernel)
set_option maxHeartbeats 1000000 in
set_option maxRecDepth 100000 in
theorem c_X8_refuse (l : Launch) (dC : Nat → ClassId) (dI : Nat → Nat → Nat) (sz : Nat) (h0 : Nat) (fs : List Value) (hn_fs : fs.length = 10) (e_fs_4 : fs[4]? = some (.int 1)) (e_fs_5 : fs[5]? = some (.int 0)) : Met l yX8_refuse u_c_X8_refuse ({ frames := 1, cells := 0, slots := 0, locals := 21 }) (va_Pc [.ref h0] (fun U => U.heap.size = sz ∧ va_P (dC, dI) vwCl [(h0, .inr (8, fs))] U.heap ∧ va_K (dC, dI) vwCl [] U ∧ va_D (fun _ => True) [(h0, .inr (8, fs))])) (va_Qi (fun (r : Int32) (_ : Unit) => r = 0) (fun _ t => va_P (dC, dI) vwCl [(h0, .inr (8, (List.set (List.set fs 8 (.int 2)) 9 (.int 0))))] t.heap ∧ va_D (va_A [(h0, .inr (8, fs))] sz) [(h0, .inr (8, (List.set (List.set fs 8 (.int 2)) 9 (.int 0))))]) (va_A [(h0, .inr (8, fs))] sz)) 0 0 (va_A [(h0, .inr (8, fs))] sz) := by
  refine Met.ofW (cc := cX8_refuse) (maxL := 1) (ret := (some .boolean)) (by decide) rfl ?_
  intro p e s m args below meth c s₁ B hml hv
  obtain ⟨rfl, hsz, hP, hK, hD0⟩ := hv
  have hx := B.exec
  have hb := B.bytes
  have hr := B.returns
  have hts := atoms_spec (ws := u_c_X8_refuse) B.pre
  have hown : s.vm.findClass RX8 = some m.cls := findClass_of_methodNamed B.named
  have hlocks := B.notSynchronized
  have hiX8 : ∀ w ∈ wsX80, w ∈ u_c_X8_refuse := fun w h => List.mem_cons_of_mem _ (List.mem_append_right _ h)
  subst hsz
  have hD := hD0.self (sz := s.heap.size)
  generalize hAe : va_A [(h0, .inr (8, fs))] s.heap.size = A at hD ⊢
  have hA : ∀ q : Nat, s.heap.size ≤ q → A q := fun q h => by rw [← hAe]; exact Or.inr h
  have hS : va_S A s.heap s.heap [] := va_S.rf
  obtain ⟨H, hH⟩ : ∃ H : Heap, H = s.heap := ⟨_, rfl⟩
  have hP : va_P (dC, dI) vwCl [(h0, .inr (8, fs))] H := by rw [hH]; exact hP
  have hS : va_S A s.heap H [] := by rw [hH]; exact hS
  have hl := lv_entry ([.ref h0]) (n := 1) (Nat.le_of_ble_eq_true rfl)
  rw [lg_entry_eq]
  generalize (lg_sl ([.ref h0]) ++ List.replicate (1 - (lg_sl ([.ref h0])).length) Slot.unset).toArray = ls at hl ⊢
  have hl : lv_has ls 1 [(0, .ref h0)] := hl
  suffices h9 : W p l e (headSpec u_c_X8_refuse _).room s m _ below meth c H [] 0 0 _ (F0 m 0 ls []) by rw [hH] at h9; exact h9
  refine lv_aload_n hx hb dX8_refuse_0 rfl (lv_at hl 0 rfl) ?_
  refine lv_aload_n hx hb dX8_refuse_1 rfl (lv_at hl 0 rfl) ?_
  refine va_get (D := (dC, dI)) (ci := 8) (v := .int 1) (C := RX8) (T := TX8) (N := 10) hx hb hts hiX8 hown hK hP 0 rfl rfl 4 (by decide) (hts (.fieldLink RX8 55 "CakePapers$Scanner" "kind" "I") (by decide +kernel)) (fun _ h9 => h9) e_fs_4 dX8_refuse_2 ?_
  refine lv_if_ne (tgt := 12) hx hb dX8_refuse_5 (by decide) (fun c_1 => ?_) (fun c_1 => absurd c_1 (by decide))
  refine lv_iconst (v := 2) hx hb dX8_refuse_12 (by decide) ?_
  have hPc := hP.sub (ws' := [(h0, .inr (8, fs))]) [0] rfl
  have hDc := hD.sub (ws' := [(h0, .inr (8, fs))]) [0] (by decide) rfl
  have hKc := hK.sub (tys' := []) [] rfl
  have hFc := va_free (wc := [(h0, .inr (8, fs))]) hD hS hA [0] rfl
  refine va_calli (va_runV (As := [.int 2]) (rest := []) ⟨hx, hb, hml, hown, hts⟩ (c_X8_blame l dC dI H.size h0 fs hn_fs e_fs_5) (cwV 1 hts g_c_X8_refuse_c_X8_blame_0 rfl rfl rfl (by decide +kernel) ⟨Nat.le_of_ble_eq_true rfl, Nat.le_of_ble_eq_true rfl⟩) ⟨fun a U g mk q => by obtain ⟨q0, q1, qP, qK, qD⟩ := q; exact ⟨q0, q1, qP, va_K.moved (u := U) (U := U.calling g mk a) (Vm.Alike.refl U.vm) qK, qD⟩, va_recv hKc hPc (ci := 8) (q0 := 0) rfl rfl, fun U hU hW => ⟨rfl, by rw [hU], by rw [hU]; exact hPc, va_K.moved hW.alike hKc, hDc.weaken (fun _ _ _ _ => trivial)⟩⟩ rfl rfl hl.1 rfl (lv_room (Nat.le_of_ble_eq_true rfl)) dX8_refuse_13 ⟨Nat.le_of_ble_eq_true rfl, Nat.le_of_ble_eq_true rfl⟩) hS (fun q _ h => hFc q h) hFc (fun r_2 u t H1 locs ht hvm hw hB hz1 hk1 hS => ?_)
  obtain ⟨hP1, hD1⟩ := hB
  rw [ht] at hP1
  obtain ⟨hP, hD⟩ := va_join (wr := []) (w1 := [(h0, .inr (8, (List.set (List.set fs 8 (.int 2)) 9 (.int 0))))]) hP hD [0] [] rfl rfl (by decide) (by decide) hk1 hFc hP1 hD1
  generalize H1 = H at hP hS ⊢
  have hP : va_P (dC, dI) vwCl [(h0, .inr (8, (List.set (List.set fs 8 (.int 2)) 9 (.int 0))))] H := hP
  have hD : va_D A [(h0, .inr (8, (List.set (List.set fs 8 (.int 2)) 9 (.int 0))))] := hD
  refine W.widen (k := 0) (n := 0) (Nat.le_of_ble_eq_true rfl) (Nat.le_of_ble_eq_true rfl) ?_
  refine zz_ci (y := 0) hw ?_
  refine W.widen (k := 0) (n := 0) (Nat.le_of_ble_eq_true rfl) (Nat.le_of_ble_eq_true rfl) ?_
  have hP9 := hP.sub (ws' := [(h0, .inr (8, (List.set (List.set fs 8 (.int 2)) 9 (.int 0))))]) [0] rfl
  have hD9 := hD.sub (ws' := [(h0, .inr (8, (List.set (List.set fs 8 (.int 2)) 9 (.int 0))))]) [0] (by decide) rfl
  exact W.zret (v := 0) hx hb hr (rfl) (fun t ht hW => ⟨⟨0, (), rfl, rfl, by rw [ht]; exact hP9, hD9⟩, hS.F ht⟩) hS.2.2 dX8_refuse_16
def u_c_X8_pass : List Cond := .code yX8_pass cX8_pass 2 (some .boolean) :: ([.fieldLink RX8 55 "CakePapers$Scanner" "kind" "I", .code yX8_refuse cX8_refuse 1 (some .boolean), .code yX8_blame cX8_blame 2 (some .boolean), .fieldLink RX8 46 "CakePapers$Scanner" "fault" "I", .fieldLink RX8 52 "CakePapers$Scanner" "place" "I", .fieldLink RX8 19 "CakePapers$Scanner" "faultPlace" "I", .methodLink RX8 84 yX8_blame, .instanceMethod yX8_blame, .selects RX8 yX8_blame yX8_blame, .initialized RX8, .methodLink RX8 87 yX8_refuse, .instanceMethod yX8_refuse, .selects RX8 yX8_refuse yX8_refuse] ++ wsX80)
set_option maxRecDepth 20000 in
theorem g_c_X8_pass_c_X8_refuse_0 : GoodIn u_c_X8_pass (wsV RX8 87 RX8 yX8_refuse u_c_X8_refuse) := goodIn_of _ (by decide +kernel)
set_option maxHeartbeats 1000000 in
set_option maxRecDepth 100000 in
theorem c_X8_pass (l : Launch) (dC : Nat → ClassId) (dI : Nat → Nat → Nat) (sz : Nat) (h0 : Nat) (fs : List Value) (hn_fs : fs.length = 10) (e_fs_4 : fs[4]? = some (.int 1)) (e_fs_5 : fs[5]? = some (.int 0)) : Met l yX8_pass u_c_X8_pass ({ frames := 2, cells := 0, slots := 0, locals := 41 }) (va_Pc [.ref h0, .int 106] (fun U => U.heap.size = sz ∧ va_P (dC, dI) vwCl [(h0, .inr (8, fs))] U.heap ∧ va_K (dC, dI) vwCl [] U ∧ va_D (fun _ => True) [(h0, .inr (8, fs))])) (va_Qi (fun (r : Int32) (_ : Unit) => r = 0) (fun _ t => va_P (dC, dI) vwCl [(h0, .inr (8, (List.set (List.set fs 8 (.int 2)) 9 (.int 0))))] t.heap ∧ va_D (va_A [(h0, .inr (8, fs))] sz) [(h0, .inr (8, (List.set (List.set fs 8 (.int 2)) 9 (.int 0))))]) (va_A [(h0, .inr (8, fs))] sz)) 0 0 (va_A [(h0, .inr (8, fs))] sz) := by
  refine Met.ofW (cc := cX8_pass) (maxL := 2) (ret := (some .boolean)) (by decide) rfl ?_
  intro p e s m args below meth c s₁ B hml hv
  obtain ⟨rfl, hsz, hP, hK, hD0⟩ := hv
  have hx := B.exec
  have hb := B.bytes
  have hr := B.returns
  have hts := atoms_spec (ws := u_c_X8_pass) B.pre
  have hown : s.vm.findClass RX8 = some m.cls := findClass_of_methodNamed B.named
  have hlocks := B.notSynchronized
  have hiX8 : ∀ w ∈ wsX80, w ∈ u_c_X8_pass := fun w h => List.mem_cons_of_mem _ (List.mem_append_right _ h)
  subst hsz
  have hD := hD0.self (sz := s.heap.size)
  generalize hAe : va_A [(h0, .inr (8, fs))] s.heap.size = A at hD ⊢
  have hA : ∀ q : Nat, s.heap.size ≤ q → A q := fun q h => by rw [← hAe]; exact Or.inr h
  have hS : va_S A s.heap s.heap [] := va_S.rf
  obtain ⟨H, hH⟩ : ∃ H : Heap, H = s.heap := ⟨_, rfl⟩
  have hP : va_P (dC, dI) vwCl [(h0, .inr (8, fs))] H := by rw [hH]; exact hP
  have hS : va_S A s.heap H [] := by rw [hH]; exact hS
  have hl := lv_entry ([.ref h0, .int 106]) (n := 2) (Nat.le_of_ble_eq_true rfl)
  rw [lg_entry_eq]
  generalize (lg_sl ([.ref h0, .int 106]) ++ List.replicate (2 - (lg_sl ([.ref h0, .int 106])).length) Slot.unset).toArray = ls at hl ⊢
  have hl : lv_has ls 2 [(0, .ref h0), (1, .int 106)] := hl
  suffices h9 : W p l e (headSpec u_c_X8_pass _).room s m _ below meth c H [] 0 0 _ (F0 m 0 ls []) by rw [hH] at h9; exact h9
  refine lv_aload_n hx hb dX8_pass_0 rfl (lv_at hl 0 rfl) ?_
  refine va_get (D := (dC, dI)) (ci := 8) (v := .int 1) (C := RX8) (T := TX8) (N := 10) hx hb hts hiX8 hown hK hP 0 rfl rfl 4 (by decide) (hts (.fieldLink RX8 55 "CakePapers$Scanner" "kind" "I") (by decide +kernel)) (fun _ h9 => h9) e_fs_4 dX8_pass_1 ?_
  refine lv_iload_n hx hb dX8_pass_4 rfl (lv_at hl 1 rfl) ?_
  refine lv_icmp_eq (tgt := 13) hx hb dX8_pass_5 (by decide) (fun c_1 => absurd c_1 (by decide)) (fun c_1 => ?_)
  refine lv_aload_n hx hb dX8_pass_8 rfl (lv_at hl 0 rfl) ?_
  have hPc := hP.sub (ws' := [(h0, .inr (8, fs))]) [0] rfl
  have hDc := hD.sub (ws' := [(h0, .inr (8, fs))]) [0] (by decide) rfl
  have hKc := hK.sub (tys' := []) [] rfl
  have hFc := va_free (wc := [(h0, .inr (8, fs))]) hD hS hA [0] rfl
  refine va_calli (va_runV (As := []) (rest := []) ⟨hx, hb, hml, hown, hts⟩ (c_X8_refuse l dC dI H.size h0 fs hn_fs e_fs_4 e_fs_5) (cwV 0 hts g_c_X8_pass_c_X8_refuse_0 rfl rfl rfl (by decide +kernel) ⟨Nat.le_of_ble_eq_true rfl, Nat.le_of_ble_eq_true rfl⟩) ⟨fun a U g mk q => by obtain ⟨q0, q1, qP, qK, qD⟩ := q; exact ⟨q0, q1, qP, va_K.moved (u := U) (U := U.calling g mk a) (Vm.Alike.refl U.vm) qK, qD⟩, va_recv hKc hPc (ci := 8) (q0 := 0) rfl rfl, fun U hU hW => ⟨rfl, by rw [hU], by rw [hU]; exact hPc, va_K.moved hW.alike hKc, hDc.weaken (fun _ _ _ _ => trivial)⟩⟩ rfl rfl hl.1 rfl (lv_room (Nat.le_of_ble_eq_true rfl)) dX8_pass_9 ⟨Nat.le_of_ble_eq_true rfl, Nat.le_of_ble_eq_true rfl⟩) hS (fun q _ h => hFc q h) hFc (fun r_2 u t H1 locs ht hvm hw hB hz1 hk1 hS => ?_)
  obtain ⟨hP1, hD1⟩ := hB
  rw [ht] at hP1
  obtain ⟨hP, hD⟩ := va_join (wr := []) (w1 := [(h0, .inr (8, (List.set (List.set fs 8 (.int 2)) 9 (.int 0))))]) hP hD [0] [] rfl rfl (by decide) (by decide) hk1 hFc hP1 hD1
  generalize H1 = H at hP hS ⊢
  have hP : va_P (dC, dI) vwCl [(h0, .inr (8, (List.set (List.set fs 8 (.int 2)) 9 (.int 0))))] H := hP
  have hD : va_D A [(h0, .inr (8, (List.set (List.set fs 8 (.int 2)) 9 (.int 0))))] := hD
  refine W.widen (k := 0) (n := 0) (Nat.le_of_ble_eq_true rfl) (Nat.le_of_ble_eq_true rfl) ?_
  refine zz_ci (y := 0) hw ?_
  refine W.widen (k := 0) (n := 0) (Nat.le_of_ble_eq_true rfl) (Nat.le_of_ble_eq_true rfl) ?_
  have hP9 := hP.sub (ws' := [(h0, .inr (8, (List.set (List.set fs 8 (.int 2)) 9 (.int 0))))]) [0] rfl
  have hD9 := hD.sub (ws' := [(h0, .inr (8, (List.set (List.set fs 8 (.int 2)) 9 (.int 0))))]) [0] (by decide) rfl
  exact W.zret (v := 0) hx hb hr (rfl) (fun t ht hW => ⟨⟨0, (), rfl, rfl, by rw [ht]; exact hP9, hD9⟩, hS.F ht⟩) hS.2.2 dX8_pass_12
def u_c_X6_workOut : List Cond := .code yX6_workOut cX6_workOut 2 none :: ([.fieldLink RX6 65 "CakePapers$Paper" "ends" "I", .fieldLink RX6 68 "CakePapers$Paper" "path" "I", .fieldLink RX6 71 "CakePapers$Paper" "allMuch" "I", .fieldLink RX6 74 "CakePapers$Paper" "allLong" "I", .fieldLink RX6 47 "CakePapers$Paper" "steps" "I"] ++ wsX60)
set_option maxHeartbeats 1000000 in
set_option maxRecDepth 100000 in
theorem c_X6_workOut (l : Launch) (dC : Nat → ClassId) (dI : Nat → Nat → Nat) (sz : Nat) (h0 : Nat) (fs : List Value) (hn_fs : fs.length = 14) (e_fs_9 : fs[9]? = some (.int 0)) : Met l yX6_workOut u_c_X6_workOut ({ frames := 0, cells := 0, slots := 0, locals := 0 }) (va_Pc [.ref h0] (fun U => U.heap.size = sz ∧ va_P (dC, dI) vwCl [(h0, .inr (6, fs))] U.heap ∧ va_K (dC, dI) vwCl [] U ∧ va_D (fun _ => True) [(h0, .inr (6, fs))])) (va_Qv (fun (_ : Unit) => True) (fun _ t => va_P (dC, dI) vwCl [(h0, .inr (6, (List.set (List.set (List.set (List.set fs 10 (.int 0)) 11 (.int 0)) 12 (.int 0)) 13 (.int 0))))] t.heap ∧ va_D (va_A [(h0, .inr (6, fs))] sz) [(h0, .inr (6, (List.set (List.set (List.set (List.set fs 10 (.int 0)) 11 (.int 0)) 12 (.int 0)) 13 (.int 0))))]) (va_A [(h0, .inr (6, fs))] sz)) 0 0 (va_A [(h0, .inr (6, fs))] sz) := by
  refine Met.ofW (cc := cX6_workOut) (maxL := 2) (ret := none) (by decide) rfl ?_
  intro p e s m args below meth c s₁ B hml hv
  obtain ⟨rfl, hsz, hP, hK, hD0⟩ := hv
  have hx := B.exec
  have hb := B.bytes
  have hr := B.returns
  have hts := atoms_spec (ws := u_c_X6_workOut) B.pre
  have hown : s.vm.findClass RX6 = some m.cls := findClass_of_methodNamed B.named
  have hlocks := B.notSynchronized
  have hiX6 : ∀ w ∈ wsX60, w ∈ u_c_X6_workOut := fun w h => List.mem_cons_of_mem _ (List.mem_append_right _ h)
  subst hsz
  have hD := hD0.self (sz := s.heap.size)
  generalize hAe : va_A [(h0, .inr (6, fs))] s.heap.size = A at hD ⊢
  have hA : ∀ q : Nat, s.heap.size ≤ q → A q := fun q h => by rw [← hAe]; exact Or.inr h
  have hS : va_S A s.heap s.heap [] := va_S.rf
  obtain ⟨H, hH⟩ : ∃ H : Heap, H = s.heap := ⟨_, rfl⟩
  have hP : va_P (dC, dI) vwCl [(h0, .inr (6, fs))] H := by rw [hH]; exact hP
  have hS : va_S A s.heap H [] := by rw [hH]; exact hS
  have hl := lv_entry ([.ref h0]) (n := 2) (Nat.le_of_ble_eq_true rfl)
  rw [lg_entry_eq]
  generalize (lg_sl ([.ref h0]) ++ List.replicate (2 - (lg_sl ([.ref h0])).length) Slot.unset).toArray = ls at hl ⊢
  have hl : lv_has ls 2 [(0, .ref h0)] := hl
  suffices h9 : W p l e (headSpec u_c_X6_workOut _).room s m _ below meth c H [] 0 0 _ (F0 m 0 ls []) by rw [hH] at h9; exact h9
  refine lv_aload_n hx hb dX6_workOut_0 rfl (lv_at hl 0 rfl) ?_
  refine lv_iconst (v := 0) hx hb dX6_workOut_1 (by decide) ?_
  refine va_put (D := (dC, dI)) (ci := 6) (v := .int 0) (ty := .int) (C := RX6) (T := TX6) (N := 14) hx hb hts hiX6 tyX6 tyX6_ok nmX6 hown hK hP hD hS 0 rfl rfl 10 (by decide) (hts (.fieldLink RX6 65 "CakePapers$Paper" "ends" "I") (by decide +kernel)) (fun _ h9 => h9) rfl (by decide +kernel) rfl rfl (by simp [hn_fs]) dX6_workOut_2 (fun H locs hP hD hS => ?_)
  have hP : va_P (dC, dI) vwCl [(h0, .inr (6, (List.set fs 10 (.int 0))))] H := hP
  have hD : va_D A [(h0, .inr (6, (List.set fs 10 (.int 0))))] := hD
  refine lv_aload_n hx hb dX6_workOut_5 rfl (lv_at hl 0 rfl) ?_
  refine lv_iconst (v := 0) hx hb dX6_workOut_6 (by decide) ?_
  refine va_put (D := (dC, dI)) (ci := 6) (v := .int 0) (ty := .int) (C := RX6) (T := TX6) (N := 14) hx hb hts hiX6 tyX6 tyX6_ok nmX6 hown hK hP hD hS 0 rfl rfl 11 (by decide) (hts (.fieldLink RX6 68 "CakePapers$Paper" "path" "I") (by decide +kernel)) (fun _ h9 => h9) rfl (by decide +kernel) rfl rfl (by simp [hn_fs]) dX6_workOut_7 (fun H locs hP hD hS => ?_)
  have hP : va_P (dC, dI) vwCl [(h0, .inr (6, (List.set (List.set fs 10 (.int 0)) 11 (.int 0))))] H := hP
  have hD : va_D A [(h0, .inr (6, (List.set (List.set fs 10 (.int 0)) 11 (.int 0))))] := hD
  refine lv_aload_n hx hb dX6_workOut_10 rfl (lv_at hl 0 rfl) ?_
  refine lv_iconst (v := 0) hx hb dX6_workOut_11 (by decide) ?_
  refine va_put (D := (dC, dI)) (ci := 6) (v := .int 0) (ty := .int) (C := RX6) (T := TX6) (N := 14) hx hb hts hiX6 tyX6 tyX6_ok nmX6 hown hK hP hD hS 0 rfl rfl 12 (by decide) (hts (.fieldLink RX6 71 "CakePapers$Paper" "allMuch" "I") (by decide +kernel)) (fun _ h9 => h9) rfl (by decide +kernel) rfl rfl (by simp [hn_fs]) dX6_workOut_12 (fun H locs hP hD hS => ?_)
  have hP : va_P (dC, dI) vwCl [(h0, .inr (6, (List.set (List.set (List.set fs 10 (.int 0)) 11 (.int 0)) 12 (.int 0))))] H := hP
  have hD : va_D A [(h0, .inr (6, (List.set (List.set (List.set fs 10 (.int 0)) 11 (.int 0)) 12 (.int 0))))] := hD
  refine lv_aload_n hx hb dX6_workOut_15 rfl (lv_at hl 0 rfl) ?_
  refine lv_iconst (v := 0) hx hb dX6_workOut_16 (by decide) ?_
  refine va_put (D := (dC, dI)) (ci := 6) (v := .int 0) (ty := .int) (C := RX6) (T := TX6) (N := 14) hx hb hts hiX6 tyX6 tyX6_ok nmX6 hown hK hP hD hS 0 rfl rfl 13 (by decide) (hts (.fieldLink RX6 74 "CakePapers$Paper" "allLong" "I") (by decide +kernel)) (fun _ h9 => h9) rfl (by decide +kernel) rfl rfl (by simp [hn_fs]) dX6_workOut_17 (fun H locs hP hD hS => ?_)
  have hP : va_P (dC, dI) vwCl [(h0, .inr (6, (List.set (List.set (List.set (List.set fs 10 (.int 0)) 11 (.int 0)) 12 (.int 0)) 13 (.int 0))))] H := hP
  have hD : va_D A [(h0, .inr (6, (List.set (List.set (List.set (List.set fs 10 (.int 0)) 11 (.int 0)) 12 (.int 0)) 13 (.int 0))))] := hD
  refine lv_iconst (v := 0) hx hb dX6_workOut_20 (by decide) ?_
  refine lv_istore_n (lv' := [(1, .int 0), (0, .ref h0)]) hx hb dX6_workOut_21 rfl hl (by decide) rfl (fun ls hl => ?_)
  refine lv_iload_n hx hb dX6_workOut_22 rfl (lv_at hl 0 rfl) ?_
  refine lv_aload_n hx hb dX6_workOut_23 rfl (lv_at hl 1 rfl) ?_
  refine va_get (D := (dC, dI)) (ci := 6) (v := .int 0) (C := RX6) (T := TX6) (N := 14) hx hb hts hiX6 hown hK hP 0 rfl rfl 9 (by decide) (hts (.fieldLink RX6 47 "CakePapers$Paper" "steps" "I") (by decide +kernel)) (fun _ h9 => h9) (by simp [e_fs_9]) dX6_workOut_24 ?_
  refine lv_icmp_ge (tgt := 95) hx hb dX6_workOut_27 (by decide) (fun c_1 => ?_) (fun c_1 => absurd c_1 (by decide))
  refine lv_iconst (v := 0) hx hb dX6_workOut_95 (by decide) ?_
  refine lv_istore_n (lv' := [(1, .int 0), (0, .ref h0)]) hx hb dX6_workOut_96 rfl hl (by decide) rfl (fun ls hl => ?_)
  refine lv_iload_n hx hb dX6_workOut_97 rfl (lv_at hl 0 rfl) ?_
  refine lv_aload_n hx hb dX6_workOut_98 rfl (lv_at hl 1 rfl) ?_
  refine va_get (D := (dC, dI)) (ci := 6) (v := .int 0) (C := RX6) (T := TX6) (N := 14) hx hb hts hiX6 hown hK hP 0 rfl rfl 9 (by decide) (hts (.fieldLink RX6 47 "CakePapers$Paper" "steps" "I") (by decide +kernel)) (fun _ h9 => h9) (by simp [e_fs_9]) dX6_workOut_99 ?_
  refine lv_icmp_ge (tgt := 134) hx hb dX6_workOut_102 (by decide) (fun c_2 => ?_) (fun c_2 => absurd c_2 (by decide))
  refine W.widen (k := 0) (n := 0) (Nat.le_of_ble_eq_true rfl) (Nat.le_of_ble_eq_true rfl) ?_
  have hP9 := hP.sub (ws' := [(h0, .inr (6, (List.set (List.set (List.set (List.set fs 10 (.int 0)) 11 (.int 0)) 12 (.int 0)) 13 (.int 0))))]) [0] rfl
  have hD9 := hD.sub (ws' := [(h0, .inr (6, (List.set (List.set (List.set (List.set fs 10 (.int 0)) 11 (.int 0)) 12 (.int 0)) 13 (.int 0))))]) [0] (by decide) rfl
  exact W.vret hx hb hr (fun t ht hW => ⟨⟨(), rfl, trivial, by rw [ht]; exact hP9, hD9⟩, hS.F ht⟩) hS.2.2 dX6_workOut_134
def u_c_X7_read : List Cond := .code yX7_read cX7_read 3 (some .boolean) :: ([.fieldLink RX7 22 "CakePapers$PaperReader" "calls" "I", .fieldLink RX7 26 "CakePapers$Paper" "steps" "I", .fieldLink RX7 9 "CakePapers$PaperReader" "scanner" "LCakePapers$Scanner;", .fieldLink RX7 31 "CakePapers$Scanner" "kind" "I", .code yX6_workOut cX6_workOut 2 none, .fieldLink RX6 65 "CakePapers$Paper" "ends" "I", .fieldLink RX6 68 "CakePapers$Paper" "path" "I", .fieldLink RX6 71 "CakePapers$Paper" "allMuch" "I", .fieldLink RX6 74 "CakePapers$Paper" "allLong" "I", .fieldLink RX6 47 "CakePapers$Paper" "steps" "I", .methodLink RX7 47 yX6_workOut, .instanceMethod yX6_workOut, .selects RX6 yX6_workOut yX6_workOut, .initialized RX6] ++ wsX70 ++ wsX60 ++ wsX80)
set_option maxRecDepth 20000 in
theorem g_c_X7_read_c_X6_workOut_0 : GoodIn u_c_X7_read (wsV RX7 47 RX6 yX6_workOut u_c_X6_workOut) := goodIn_of _ (by decide +kernel)
set_option maxHeartbeats 1000000 in
set_option maxRecDepth 100000 in
theorem c_X7_read (l : Launch) (dC : Nat → ClassId) (dI : Nat → Nat → Nat) (sz : Nat) (h0 h1 h2 : Nat) (fs : List Value) (hn_fs : fs.length = 4) (e_fs_0 : fs[0]? = some (.ref h2)) (gs : List Value) (hn_gs : gs.length = 14) (ss : List Value) (hn_ss : ss.length = 10) (e_ss_4 : ss[4]? = some (.int 1)) : Met l yX7_read u_c_X7_read ({ frames := 1, cells := 0, slots := 0, locals := 21 }) (va_Pc [.ref h0, .ref h1] (fun U => U.heap.size = sz ∧ va_P (dC, dI) vwCl [(h0, .inr (7, fs)), (h1, .inr (6, gs)), (h2, .inr (8, ss))] U.heap ∧ va_K (dC, dI) vwCl [] U ∧ va_D (fun _ => True) [(h0, .inr (7, fs)), (h1, .inr (6, gs)), (h2, .inr (8, ss))])) (va_Qi (fun (r : Int32) (_ : Unit) => r = 1) (fun _ t => va_P (dC, dI) vwCl [(h0, .inr (7, (List.set fs 3 (.int 0)))), (h1, .inr (6, (List.set (List.set (List.set (List.set (List.set gs 9 (.int 0)) 10 (.int 0)) 11 (.int 0)) 12 (.int 0)) 13 (.int 0)))), (h2, .inr (8, ss))] t.heap ∧ va_D (va_A [(h0, .inr (7, fs)), (h1, .inr (6, gs)), (h2, .inr (8, ss))] sz) [(h0, .inr (7, (List.set fs 3 (.int 0)))), (h1, .inr (6, (List.set (List.set (List.set (List.set (List.set gs 9 (.int 0)) 10 (.int 0)) 11 (.int 0)) 12 (.int 0)) 13 (.int 0)))), (h2, .inr (8, ss))]) (va_A [(h0, .inr (7, fs)), (h1, .inr (6, gs)), (h2, .inr (8, ss))] sz)) 0 0 (va_A [(h0, .inr (7, fs)), (h1, .inr (6, gs)), (h2, .inr (8, ss))] sz) := by
  refine Met.ofW (cc := cX7_read) (maxL := 3) (ret := (some .boolean)) (by decide) rfl ?_
  intro p e s m args below meth c s₁ B hml hv
  obtain ⟨rfl, hsz, hP, hK, hD0⟩ := hv
  have hx := B.exec
  have hb := B.bytes
  have hr := B.returns
  have hts := atoms_spec (ws := u_c_X7_read) B.pre
  have hown : s.vm.findClass RX7 = some m.cls := findClass_of_methodNamed B.named
  have hlocks := B.notSynchronized
  have hiX7 : ∀ w ∈ wsX70, w ∈ u_c_X7_read := fun w h => List.mem_cons_of_mem _ (List.mem_append_left _ (List.mem_append_left _ (List.mem_append_right _ h)))
  have hiX6 : ∀ w ∈ wsX60, w ∈ u_c_X7_read := fun w h => List.mem_cons_of_mem _ (List.mem_append_left _ (List.mem_append_right _ h))
  have hiX8 : ∀ w ∈ wsX80, w ∈ u_c_X7_read := fun w h => List.mem_cons_of_mem _ (List.mem_append_right _ h)
  subst hsz
  have hD := hD0.self (sz := s.heap.size)
  generalize hAe : va_A [(h0, .inr (7, fs)), (h1, .inr (6, gs)), (h2, .inr (8, ss))] s.heap.size = A at hD ⊢
  have hA : ∀ q : Nat, s.heap.size ≤ q → A q := fun q h => by rw [← hAe]; exact Or.inr h
  have hS : va_S A s.heap s.heap [] := va_S.rf
  obtain ⟨H, hH⟩ : ∃ H : Heap, H = s.heap := ⟨_, rfl⟩
  have hP : va_P (dC, dI) vwCl [(h0, .inr (7, fs)), (h1, .inr (6, gs)), (h2, .inr (8, ss))] H := by rw [hH]; exact hP
  have hS : va_S A s.heap H [] := by rw [hH]; exact hS
  have hl := lv_entry ([.ref h0, .ref h1]) (n := 3) (Nat.le_of_ble_eq_true rfl)
  rw [lg_entry_eq]
  generalize (lg_sl ([.ref h0, .ref h1]) ++ List.replicate (3 - (lg_sl ([.ref h0, .ref h1])).length) Slot.unset).toArray = ls at hl ⊢
  have hl : lv_has ls 3 [(0, .ref h0), (1, .ref h1)] := hl
  suffices h9 : W p l e (headSpec u_c_X7_read _).room s m _ below meth c H [] 0 0 _ (F0 m 0 ls []) by rw [hH] at h9; exact h9
  refine lv_aload_n hx hb dX7_read_0 rfl (lv_at hl 0 rfl) ?_
  refine lv_iconst (v := 0) hx hb dX7_read_1 (by decide) ?_
  refine va_put (D := (dC, dI)) (ci := 7) (v := .int 0) (ty := .int) (C := RX7) (T := TX7) (N := 4) hx hb hts hiX7 tyX7 tyX7_ok nmX7 hown hK hP hD hS 0 rfl rfl 3 (by decide) (hts (.fieldLink RX7 22 "CakePapers$PaperReader" "calls" "I") (by decide +kernel)) (fun _ h9 => h9) rfl (by decide +kernel) rfl rfl (by simp [hn_fs]) dX7_read_2 (fun H locs hP hD hS => ?_)
  have hP : va_P (dC, dI) vwCl [(h0, .inr (7, (List.set fs 3 (.int 0)))), (h1, .inr (6, gs)), (h2, .inr (8, ss))] H := hP
  have hD : va_D A [(h0, .inr (7, (List.set fs 3 (.int 0)))), (h1, .inr (6, gs)), (h2, .inr (8, ss))] := hD
  refine lv_aload_n hx hb dX7_read_5 rfl (lv_at hl 1 rfl) ?_
  refine lv_iconst (v := 0) hx hb dX7_read_6 (by decide) ?_
  refine va_put (D := (dC, dI)) (ci := 6) (v := .int 0) (ty := .int) (C := RX6) (T := TX6) (N := 14) hx hb hts hiX6 tyX6 tyX6_ok nmX6 hown hK hP hD hS 1 rfl rfl 9 (by decide) (hts (.fieldLink RX7 26 "CakePapers$Paper" "steps" "I") (by decide +kernel)) (fun _ h9 => h9) rfl (by decide +kernel) rfl rfl (by simp [hn_gs]) dX7_read_7 (fun H locs hP hD hS => ?_)
  have hP : va_P (dC, dI) vwCl [(h0, .inr (7, (List.set fs 3 (.int 0)))), (h1, .inr (6, (List.set gs 9 (.int 0)))), (h2, .inr (8, ss))] H := hP
  have hD : va_D A [(h0, .inr (7, (List.set fs 3 (.int 0)))), (h1, .inr (6, (List.set gs 9 (.int 0)))), (h2, .inr (8, ss))] := hD
  refine lv_iconst (v := 0) hx hb dX7_read_10 (by decide) ?_
  refine lv_istore_n (lv' := [(2, .int 0), (0, .ref h0), (1, .ref h1)]) hx hb dX7_read_11 rfl hl (by decide) rfl (fun ls hl => ?_)
  refine lv_iload_n hx hb dX7_read_12 rfl (lv_at hl 0 rfl) ?_
  refine lv_bipush (v := 6) hx hb dX7_read_13 (by decide) ?_
  refine lv_icmp_gt (tgt := 45) hx hb dX7_read_15 (by decide) (fun c_1 => absurd c_1 (by decide)) (fun c_1 => ?_)
  refine lv_aload_n hx hb dX7_read_18 rfl (lv_at hl 1 rfl) ?_
  refine va_get (D := (dC, dI)) (ci := 7) (v := .ref h2) (C := RX7) (T := TX7) (N := 4) hx hb hts hiX7 hown hK hP 0 rfl rfl 0 (by decide) (hts (.fieldLink RX7 9 "CakePapers$PaperReader" "scanner" "LCakePapers$Scanner;") (by decide +kernel)) (fun _ h9 => h9) (by simp [e_fs_0]) dX7_read_19 ?_
  refine va_get (D := (dC, dI)) (ci := 8) (v := .int 1) (C := RX8) (T := TX8) (N := 10) hx hb hts hiX8 hown hK hP 2 rfl rfl 4 (by decide) (hts (.fieldLink RX7 31 "CakePapers$Scanner" "kind" "I") (by decide +kernel)) (fun _ h9 => h9) e_ss_4 dX7_read_22 ?_
  refine lv_bipush (v := 100) hx hb dX7_read_25 (by decide) ?_
  refine lv_icmp_ne (tgt := 45) hx hb dX7_read_27 (by decide) (fun c_2 => ?_) (fun c_2 => absurd c_2 (by decide))
  refine lv_iconst (v := 0) hx hb dX7_read_45 (by decide) ?_
  refine lv_istore_n (lv' := [(2, .int 0), (0, .ref h0), (1, .ref h1)]) hx hb dX7_read_46 rfl hl (by decide) rfl (fun ls hl => ?_)
  refine lv_iload_n hx hb dX7_read_47 rfl (lv_at hl 0 rfl) ?_
  refine lv_bipush (v := 12) hx hb dX7_read_48 (by decide) ?_
  refine lv_icmp_gt (tgt := 81) hx hb dX7_read_50 (by decide) (fun c_3 => absurd c_3 (by decide)) (fun c_3 => ?_)
  refine lv_aload_n hx hb dX7_read_53 rfl (lv_at hl 1 rfl) ?_
  refine va_get (D := (dC, dI)) (ci := 7) (v := .ref h2) (C := RX7) (T := TX7) (N := 4) hx hb hts hiX7 hown hK hP 0 rfl rfl 0 (by decide) (hts (.fieldLink RX7 9 "CakePapers$PaperReader" "scanner" "LCakePapers$Scanner;") (by decide +kernel)) (fun _ h9 => h9) (by simp [e_fs_0]) dX7_read_54 ?_
  refine va_get (D := (dC, dI)) (ci := 8) (v := .int 1) (C := RX8) (T := TX8) (N := 10) hx hb hts hiX8 hown hK hP 2 rfl rfl 4 (by decide) (hts (.fieldLink RX7 31 "CakePapers$Scanner" "kind" "I") (by decide +kernel)) (fun _ h9 => h9) e_ss_4 dX7_read_57 ?_
  refine lv_bipush (v := 101) hx hb dX7_read_60 (by decide) ?_
  refine lv_icmp_ne (tgt := 81) hx hb dX7_read_62 (by decide) (fun c_4 => ?_) (fun c_4 => absurd c_4 (by decide))
  refine lv_aload_n hx hb dX7_read_81 rfl (lv_at hl 1 rfl) ?_
  refine va_get (D := (dC, dI)) (ci := 7) (v := .ref h2) (C := RX7) (T := TX7) (N := 4) hx hb hts hiX7 hown hK hP 0 rfl rfl 0 (by decide) (hts (.fieldLink RX7 9 "CakePapers$PaperReader" "scanner" "LCakePapers$Scanner;") (by decide +kernel)) (fun _ h9 => h9) (by simp [e_fs_0]) dX7_read_82 ?_
  refine va_get (D := (dC, dI)) (ci := 8) (v := .int 1) (C := RX8) (T := TX8) (N := 10) hx hb hts hiX8 hown hK hP 2 rfl rfl 4 (by decide) (hts (.fieldLink RX7 31 "CakePapers$Scanner" "kind" "I") (by decide +kernel)) (fun _ h9 => h9) e_ss_4 dX7_read_85 ?_
  refine lv_iconst (v := 1) hx hb dX7_read_88 (by decide) ?_
  refine lv_icmp_eq (tgt := 100) hx hb dX7_read_89 (by decide) (fun c_5 => ?_) (fun c_5 => absurd c_5 (by decide))
  refine lv_aload_n hx hb dX7_read_100 rfl (lv_at hl 2 rfl) ?_
  have hPc := hP.sub (ws' := [(h1, .inr (6, (List.set gs 9 (.int 0))))]) [1] rfl
  have hDc := hD.sub (ws' := [(h1, .inr (6, (List.set gs 9 (.int 0))))]) [1] (by decide) rfl
  have hKc := hK.sub (tys' := []) [] rfl
  have hFc := va_free (wc := [(h1, .inr (6, (List.set gs 9 (.int 0))))]) hD hS hA [1] rfl
  refine va_callv (va_runV (As := []) (rest := []) ⟨hx, hb, hml, hown, hts⟩ (c_X6_workOut l dC dI H.size h1 (List.set gs 9 (.int 0)) (by simp [hn_gs]) (by simp [hn_gs])) (cwV 0 hts g_c_X7_read_c_X6_workOut_0 rfl rfl rfl (by decide +kernel) ⟨Nat.le_of_ble_eq_true rfl, Nat.le_of_ble_eq_true rfl⟩) ⟨fun a U g mk q => by obtain ⟨q0, q1, qP, qK, qD⟩ := q; exact ⟨q0, q1, qP, va_K.moved (u := U) (U := U.calling g mk a) (Vm.Alike.refl U.vm) qK, qD⟩, va_recv hKc hPc (ci := 6) (q0 := 0) rfl rfl, fun U hU hW => ⟨rfl, by rw [hU], by rw [hU]; exact hPc, va_K.moved hW.alike hKc, hDc.weaken (fun _ _ _ _ => trivial)⟩⟩ rfl rfl hl.1 rfl (lv_room (Nat.le_of_ble_eq_true rfl)) dX7_read_101 ⟨Nat.le_of_ble_eq_true rfl, Nat.le_of_ble_eq_true rfl⟩) hS (fun q _ h => hFc q h) hFc (fun u t H1 locs ht hvm hw hB hz1 hk1 hS => ?_)
  obtain ⟨hP1, hD1⟩ := hB
  rw [ht] at hP1
  obtain ⟨hP, hD⟩ := va_join (wr := [(h0, .inr (7, (List.set fs 3 (.int 0)))), (h2, .inr (8, ss))]) (w1 := [(h1, .inr (6, (List.set (List.set (List.set (List.set (List.set gs 9 (.int 0)) 10 (.int 0)) 11 (.int 0)) 12 (.int 0)) 13 (.int 0))))]) hP hD [1] [0, 2] rfl rfl (by decide) (by decide) hk1 hFc hP1 hD1
  generalize H1 = H at hP hS ⊢
  have hP : va_P (dC, dI) vwCl [(h0, .inr (7, (List.set fs 3 (.int 0)))), (h2, .inr (8, ss)), (h1, .inr (6, (List.set (List.set (List.set (List.set (List.set gs 9 (.int 0)) 10 (.int 0)) 11 (.int 0)) 12 (.int 0)) 13 (.int 0))))] H := hP
  have hD : va_D A [(h0, .inr (7, (List.set fs 3 (.int 0)))), (h2, .inr (8, ss)), (h1, .inr (6, (List.set (List.set (List.set (List.set (List.set gs 9 (.int 0)) 10 (.int 0)) 11 (.int 0)) 12 (.int 0)) 13 (.int 0))))] := hD
  refine W.widen (k := 0) (n := 0) (Nat.le_of_ble_eq_true rfl) (Nat.le_of_ble_eq_true rfl) ?_
  refine lv_iconst (v := 1) hx hb dX7_read_104 (by decide) ?_
  refine W.widen (k := 0) (n := 0) (Nat.le_of_ble_eq_true rfl) (Nat.le_of_ble_eq_true rfl) ?_
  have hP9 := hP.sub (ws' := [(h0, .inr (7, (List.set fs 3 (.int 0)))), (h1, .inr (6, (List.set (List.set (List.set (List.set (List.set gs 9 (.int 0)) 10 (.int 0)) 11 (.int 0)) 12 (.int 0)) 13 (.int 0)))), (h2, .inr (8, ss))]) [0, 2, 1] rfl
  have hD9 := hD.sub (ws' := [(h0, .inr (7, (List.set fs 3 (.int 0)))), (h1, .inr (6, (List.set (List.set (List.set (List.set (List.set gs 9 (.int 0)) 10 (.int 0)) 11 (.int 0)) 12 (.int 0)) 13 (.int 0)))), (h2, .inr (8, ss))]) [0, 2, 1] (by decide) rfl
  exact W.zret (v := 1) hx hb hr (rfl) (fun t ht hW => ⟨⟨1, (), rfl, rfl, by rw [ht]; exact hP9, hD9⟩, hS.F ht⟩) hS.2.2 dX7_read_105
def u_c_X10_read : List Cond := .code yX10_read cX10_read 2 (some .boolean) :: ([.fieldLink RX10 15 "CakePapers$WantReader" "into" "LCakePapers$Want;", .fieldLink RX10 19 "CakePapers$Want" "length" "I", .fieldLink RX10 25 "CakePapers$Want" "units" "I", .fieldLink RX10 9 "CakePapers$WantReader" "scanner" "LCakePapers$Scanner;", .code yX8_pass cX8_pass 2 (some .boolean), .fieldLink RX8 55 "CakePapers$Scanner" "kind" "I", .code yX8_refuse cX8_refuse 1 (some .boolean), .code yX8_blame cX8_blame 2 (some .boolean), .fieldLink RX8 46 "CakePapers$Scanner" "fault" "I", .fieldLink RX8 52 "CakePapers$Scanner" "place" "I", .fieldLink RX8 19 "CakePapers$Scanner" "faultPlace" "I", .methodLink RX8 84 yX8_blame, .instanceMethod yX8_blame, .selects RX8 yX8_blame yX8_blame, .initialized RX8, .methodLink RX8 87 yX8_refuse, .instanceMethod yX8_refuse, .selects RX8 yX8_refuse yX8_refuse, .methodLink RX10 30 yX8_pass, .instanceMethod yX8_pass, .selects RX8 yX8_pass yX8_pass] ++ wsX100 ++ wsX90 ++ wsX80)
set_option maxRecDepth 20000 in
theorem g_c_X10_read_c_X8_pass_0 : GoodIn u_c_X10_read (wsV RX10 30 RX8 yX8_pass u_c_X8_pass) := goodIn_of _ (by decide +kernel)
set_option maxHeartbeats 1000000 in
set_option maxRecDepth 100000 in
theorem c_X10_read (l : Launch) (dC : Nat → ClassId) (dI : Nat → Nat → Nat) (sz : Nat) (h0 h1 h2 : Nat) (fs : List Value) (hn_fs : fs.length = 2) (e_fs_0 : fs[0]? = some (.ref h2)) (gs : List Value) (hn_gs : gs.length = 5) (ss : List Value) (hn_ss : ss.length = 10) (e_ss_4 : ss[4]? = some (.int 1)) (e_ss_5 : ss[5]? = some (.int 0)) : Met l yX10_read u_c_X10_read ({ frames := 3, cells := 0, slots := 0, locals := 62 }) (va_Pc [.ref h0, .ref h1] (fun U => U.heap.size = sz ∧ va_P (dC, dI) vwCl [(h0, .inr (10, fs)), (h1, .inr (9, gs)), (h2, .inr (8, ss))] U.heap ∧ va_K (dC, dI) vwCl [] U ∧ va_D (fun _ => True) [(h0, .inr (10, fs)), (h1, .inr (9, gs)), (h2, .inr (8, ss))])) (va_Qi (fun (r : Int32) (_ : Unit) => r = 0) (fun _ _ => True) (va_A [(h0, .inr (10, fs)), (h1, .inr (9, gs)), (h2, .inr (8, ss))] sz)) 0 0 (va_A [(h0, .inr (10, fs)), (h1, .inr (9, gs)), (h2, .inr (8, ss))] sz) := by
  refine Met.ofW (cc := cX10_read) (maxL := 2) (ret := (some .boolean)) (by decide) rfl ?_
  intro p e s m args below meth c s₁ B hml hv
  obtain ⟨rfl, hsz, hP, hK, hD0⟩ := hv
  have hx := B.exec
  have hb := B.bytes
  have hr := B.returns
  have hts := atoms_spec (ws := u_c_X10_read) B.pre
  have hown : s.vm.findClass RX10 = some m.cls := findClass_of_methodNamed B.named
  have hlocks := B.notSynchronized
  have hiX10 : ∀ w ∈ wsX100, w ∈ u_c_X10_read := fun w h => List.mem_cons_of_mem _ (List.mem_append_left _ (List.mem_append_left _ (List.mem_append_right _ h)))
  have hiX9 : ∀ w ∈ wsX90, w ∈ u_c_X10_read := fun w h => List.mem_cons_of_mem _ (List.mem_append_left _ (List.mem_append_right _ h))
  have hiX8 : ∀ w ∈ wsX80, w ∈ u_c_X10_read := fun w h => List.mem_cons_of_mem _ (List.mem_append_right _ h)
  subst hsz
  have hD := hD0.self (sz := s.heap.size)
  generalize hAe : va_A [(h0, .inr (10, fs)), (h1, .inr (9, gs)), (h2, .inr (8, ss))] s.heap.size = A at hD ⊢
  have hA : ∀ q : Nat, s.heap.size ≤ q → A q := fun q h => by rw [← hAe]; exact Or.inr h
  have hS : va_S A s.heap s.heap [] := va_S.rf
  obtain ⟨H, hH⟩ : ∃ H : Heap, H = s.heap := ⟨_, rfl⟩
  have hP : va_P (dC, dI) vwCl [(h0, .inr (10, fs)), (h1, .inr (9, gs)), (h2, .inr (8, ss))] H := by rw [hH]; exact hP
  have hS : va_S A s.heap H [] := by rw [hH]; exact hS
  have hl := lv_entry ([.ref h0, .ref h1]) (n := 2) (Nat.le_of_ble_eq_true rfl)
  rw [lg_entry_eq]
  generalize (lg_sl ([.ref h0, .ref h1]) ++ List.replicate (2 - (lg_sl ([.ref h0, .ref h1])).length) Slot.unset).toArray = ls at hl ⊢
  have hl : lv_has ls 2 [(0, .ref h0), (1, .ref h1)] := hl
  suffices h9 : W p l e (headSpec u_c_X10_read _).room s m _ below meth c H [] 0 0 _ (F0 m 0 ls []) by rw [hH] at h9; exact h9
  refine lv_aload_n hx hb dX10_read_0 rfl (lv_at hl 0 rfl) ?_
  refine lv_aload_n hx hb dX10_read_1 rfl (lv_at hl 1 rfl) ?_
  refine va_put (D := (dC, dI)) (ci := 10) (v := .ref h1) (ty := (.object "CakePapers$Want")) (C := RX10) (T := TX10) (N := 2) hx hb hts hiX10 tyX10 tyX10_ok nmX10 hown hK hP hD hS 0 rfl rfl 1 (by decide) (hts (.fieldLink RX10 15 "CakePapers$WantReader" "into" "LCakePapers$Want;") (by decide +kernel)) (fun _ h9 => h9) rfl (by decide +kernel) rfl rfl (by simp [hn_fs]) dX10_read_2 (fun H locs hP hD hS => ?_)
  have hP : va_P (dC, dI) vwCl [(h0, .inr (10, (List.set fs 1 (.ref h1)))), (h1, .inr (9, gs)), (h2, .inr (8, ss))] H := hP
  have hD : va_D A [(h0, .inr (10, (List.set fs 1 (.ref h1)))), (h1, .inr (9, gs)), (h2, .inr (8, ss))] := hD
  refine lv_aload_n hx hb dX10_read_5 rfl (lv_at hl 0 rfl) ?_
  refine va_get (D := (dC, dI)) (ci := 10) (v := .ref h1) (C := RX10) (T := TX10) (N := 2) hx hb hts hiX10 hown hK hP 0 rfl rfl 1 (by decide) (hts (.fieldLink RX10 15 "CakePapers$WantReader" "into" "LCakePapers$Want;") (by decide +kernel)) (fun _ h9 => h9) (by simp [hn_fs]) dX10_read_6 ?_
  refine lv_iconst (v := 0) hx hb dX10_read_9 (by decide) ?_
  refine va_put (D := (dC, dI)) (ci := 9) (v := .int 0) (ty := .int) (C := RX9) (T := TX9) (N := 5) hx hb hts hiX9 tyX9 tyX9_ok nmX9 hown hK hP hD hS 1 rfl rfl 3 (by decide) (hts (.fieldLink RX10 19 "CakePapers$Want" "length" "I") (by decide +kernel)) (fun _ h9 => h9) rfl (by decide +kernel) rfl rfl (by simp [hn_gs]) dX10_read_10 (fun H locs hP hD hS => ?_)
  have hP : va_P (dC, dI) vwCl [(h0, .inr (10, (List.set fs 1 (.ref h1)))), (h1, .inr (9, (List.set gs 3 (.int 0)))), (h2, .inr (8, ss))] H := hP
  have hD : va_D A [(h0, .inr (10, (List.set fs 1 (.ref h1)))), (h1, .inr (9, (List.set gs 3 (.int 0)))), (h2, .inr (8, ss))] := hD
  refine lv_aload_n hx hb dX10_read_13 rfl (lv_at hl 0 rfl) ?_
  refine va_get (D := (dC, dI)) (ci := 10) (v := .ref h1) (C := RX10) (T := TX10) (N := 2) hx hb hts hiX10 hown hK hP 0 rfl rfl 1 (by decide) (hts (.fieldLink RX10 15 "CakePapers$WantReader" "into" "LCakePapers$Want;") (by decide +kernel)) (fun _ h9 => h9) (by simp [hn_fs]) dX10_read_14 ?_
  refine lv_iconst (v := 0) hx hb dX10_read_17 (by decide) ?_
  refine va_put (D := (dC, dI)) (ci := 9) (v := .int 0) (ty := .int) (C := RX9) (T := TX9) (N := 5) hx hb hts hiX9 tyX9 tyX9_ok nmX9 hown hK hP hD hS 1 rfl rfl 4 (by decide) (hts (.fieldLink RX10 25 "CakePapers$Want" "units" "I") (by decide +kernel)) (fun _ h9 => h9) rfl (by decide +kernel) rfl rfl (by simp [hn_gs]) dX10_read_18 (fun H locs hP hD hS => ?_)
  have hP : va_P (dC, dI) vwCl [(h0, .inr (10, (List.set fs 1 (.ref h1)))), (h1, .inr (9, (List.set (List.set gs 3 (.int 0)) 4 (.int 0)))), (h2, .inr (8, ss))] H := hP
  have hD : va_D A [(h0, .inr (10, (List.set fs 1 (.ref h1)))), (h1, .inr (9, (List.set (List.set gs 3 (.int 0)) 4 (.int 0)))), (h2, .inr (8, ss))] := hD
  refine lv_aload_n hx hb dX10_read_21 rfl (lv_at hl 0 rfl) ?_
  refine va_get (D := (dC, dI)) (ci := 10) (v := .ref h2) (C := RX10) (T := TX10) (N := 2) hx hb hts hiX10 hown hK hP 0 rfl rfl 0 (by decide) (hts (.fieldLink RX10 9 "CakePapers$WantReader" "scanner" "LCakePapers$Scanner;") (by decide +kernel)) (fun _ h9 => h9) (by simp [e_fs_0]) dX10_read_22 ?_
  refine lv_bipush (v := 106) hx hb dX10_read_25 (by decide) ?_
  have hPc := hP.sub (ws' := [(h2, .inr (8, ss))]) [2] rfl
  have hDc := hD.sub (ws' := [(h2, .inr (8, ss))]) [2] (by decide) rfl
  have hKc := hK.sub (tys' := []) [] rfl
  have hFc := va_free (wc := [(h2, .inr (8, ss))]) hD hS hA [2] rfl
  refine va_calli (va_runV (As := [.int 106]) (rest := []) ⟨hx, hb, hml, hown, hts⟩ (c_X8_pass l dC dI H.size h2 ss hn_ss e_ss_4 e_ss_5) (cwV 1 hts g_c_X10_read_c_X8_pass_0 rfl rfl rfl (by decide +kernel) ⟨Nat.le_of_ble_eq_true rfl, Nat.le_of_ble_eq_true rfl⟩) ⟨fun a U g mk q => by obtain ⟨q0, q1, qP, qK, qD⟩ := q; exact ⟨q0, q1, qP, va_K.moved (u := U) (U := U.calling g mk a) (Vm.Alike.refl U.vm) qK, qD⟩, va_recv hKc hPc (ci := 8) (q0 := 0) rfl rfl, fun U hU hW => ⟨rfl, by rw [hU], by rw [hU]; exact hPc, va_K.moved hW.alike hKc, hDc.weaken (fun _ _ _ _ => trivial)⟩⟩ rfl rfl hl.1 rfl (lv_room (Nat.le_of_ble_eq_true rfl)) dX10_read_27 ⟨Nat.le_of_ble_eq_true rfl, Nat.le_of_ble_eq_true rfl⟩) hS (fun q _ h => hFc q h) hFc (fun r_1 u t H1 locs ht hvm hw hB hz1 hk1 hS => ?_)
  obtain ⟨hP1, hD1⟩ := hB
  rw [ht] at hP1
  obtain ⟨hP, hD⟩ := va_join (wr := [(h0, .inr (10, (List.set fs 1 (.ref h1)))), (h1, .inr (9, (List.set (List.set gs 3 (.int 0)) 4 (.int 0))))]) (w1 := [(h2, .inr (8, (List.set (List.set ss 8 (.int 2)) 9 (.int 0))))]) hP hD [2] [0, 1] rfl rfl (by decide) (by decide) hk1 hFc hP1 hD1
  generalize H1 = H at hP hS ⊢
  have hP : va_P (dC, dI) vwCl [(h0, .inr (10, (List.set fs 1 (.ref h1)))), (h1, .inr (9, (List.set (List.set gs 3 (.int 0)) 4 (.int 0)))), (h2, .inr (8, (List.set (List.set ss 8 (.int 2)) 9 (.int 0))))] H := hP
  have hD : va_D A [(h0, .inr (10, (List.set fs 1 (.ref h1)))), (h1, .inr (9, (List.set (List.set gs 3 (.int 0)) 4 (.int 0)))), (h2, .inr (8, (List.set (List.set ss 8 (.int 2)) 9 (.int 0))))] := hD
  refine W.widen (k := 0) (n := 0) (Nat.le_of_ble_eq_true rfl) (Nat.le_of_ble_eq_true rfl) ?_
  refine zz_ci (y := 0) hw ?_
  refine lv_if_eq (tgt := 53) hx hb dX10_read_30 (by decide) (fun c_2 => ?_) (fun c_2 => absurd c_2 (by decide))
  refine lv_iconst (v := 0) hx hb dX10_read_53 (by decide) ?_
  refine W.widen (k := 0) (n := 0) (Nat.le_of_ble_eq_true rfl) (Nat.le_of_ble_eq_true rfl) ?_
  exact W.zret (v := 0) hx hb hr (rfl) (fun t ht hW => ⟨⟨0, (), rfl, rfl, trivial⟩, hS.F ht⟩) hS.2.2 dX10_read_54
end
section
def u_c_X6_init : List Cond := .code yX6_init cX6_init 3 none :: ([.methodLink RX6 3 objectInit, .instanceMethod objectInit, .code objectInit ⟨#[0xb1]⟩ 1 none, .methodLink RX6 9 Lib.Math.max.name, .static Lib.Math.max.name, .initialized "java/lang/Math", .code Lib.Math.max.name Lib.Math.max.code 2 (some .int), .arrayClass .long, .fieldLink RX6 15 "CakePapers$Paper" "makes" "[J", .fieldLink RX6 21 "CakePapers$Paper" "verbs" "[J", .arrayClass .int, .fieldLink RX6 24 "CakePapers$Paper" "much" "[I", .fieldLink RX6 28 "CakePapers$Paper" "lasts" "[I", .fieldLink RX6 31 "CakePapers$Paper" "needCount" "[I", .fieldLink RX6 34 "CakePapers$Paper" "needs" "[J", .fieldLink RX6 37 "CakePapers$Paper" "makers" "[I", .arrayClass .boolean, .fieldLink RX6 40 "CakePapers$Paper" "isEnd" "[Z", .fieldLink RX6 44 "CakePapers$Paper" "reach" "[I"] ++ wsX60)
set_option maxHeartbeats 1000000 in
set_option maxRecDepth 100000 in
theorem c_X6_init (l : Launch) (dC : Nat → ClassId) (dI : Nat → Nat → Nat) (sz : Nat) (h0 : Nat) : Met l yX6_init u_c_X6_init ({ frames := 1, cells := 9, slots := 180, locals := 21 }) (va_Pc [.ref h0, .int 12] (fun U => U.heap.size = sz ∧ va_P (dC, dI) vwCl [(h0, .inr (6, [.null, .null, .null, .null, .null, .null, .null, .null, .null, .int 0, .int 0, .int 0, .int 0, .int 0]))] U.heap ∧ va_K (dC, dI) vwCl [] U ∧ va_D (fun _ => True) [(h0, .inr (6, [.null, .null, .null, .null, .null, .null, .null, .null, .null, .int 0, .int 0, .int 0, .int 0, .int 0]))])) (va_Qv (fun (_ : Unit) => True) (fun _ t => ∃ (q_1 : Nat), ∃ (q_2 : Nat), ∃ (q_3 : Nat), ∃ (q_4 : Nat), ∃ (q_5 : Nat), ∃ (q_6 : Nat), ∃ (q_7 : Nat), ∃ (q_8 : Nat), ∃ (q_9 : Nat), va_P (dC, dI) vwCl [(h0, .inr (6, [.ref q_1, .ref q_2, .ref q_3, .ref q_4, .ref q_5, .ref q_6, .ref q_7, .ref q_8, .ref q_9, .int 0, .int 0, .int 0, .int 0, .int 0]))] t.heap ∧ va_D (va_A [(h0, .inr (6, [.null, .null, .null, .null, .null, .null, .null, .null, .null, .int 0, .int 0, .int 0, .int 0, .int 0]))] sz) [(h0, .inr (6, [.ref q_1, .ref q_2, .ref q_3, .ref q_4, .ref q_5, .ref q_6, .ref q_7, .ref q_8, .ref q_9, .int 0, .int 0, .int 0, .int 0, .int 0]))]) (va_A [(h0, .inr (6, [.null, .null, .null, .null, .null, .null, .null, .null, .null, .int 0, .int 0, .int 0, .int 0, .int 0]))] sz)) 9 180 (va_A [(h0, .inr (6, [.null, .null, .null, .null, .null, .null, .null, .null, .null, .int 0, .int 0, .int 0, .int 0, .int 0]))] sz) := by
  refine Met.ofW (cc := cX6_init) (maxL := 3) (ret := none) (by decide) rfl ?_
  intro p e s m args below meth c s₁ B hml hv
  obtain ⟨rfl, hsz, hP, hK, hD0⟩ := hv
  have hx := B.exec
  have hb := B.bytes
  have hr := B.returns
  have hts := atoms_spec (ws := u_c_X6_init) B.pre
  have hown : s.vm.findClass RX6 = some m.cls := findClass_of_methodNamed B.named
  have hlocks := B.notSynchronized
  have hin : meth.name = "<init>" := (name_of_methodNamed B.named B.method).1
  have hiX6 : ∀ w ∈ wsX60, w ∈ u_c_X6_init := fun w h => List.mem_cons_of_mem _ (List.mem_append_right _ h)
  subst hsz
  have hD := hD0.self (sz := s.heap.size)
  generalize hAe : va_A [(h0, .inr (6, [.null, .null, .null, .null, .null, .null, .null, .null, .null, .int 0, .int 0, .int 0, .int 0, .int 0]))] s.heap.size = A at hD ⊢
  have hA : ∀ q : Nat, s.heap.size ≤ q → A q := fun q h => by rw [← hAe]; exact Or.inr h
  have hS : va_S A s.heap s.heap [] := va_S.rf
  obtain ⟨H, hH⟩ : ∃ H : Heap, H = s.heap := ⟨_, rfl⟩
  have hP : va_P (dC, dI) vwCl [(h0, .inr (6, [.null, .null, .null, .null, .null, .null, .null, .null, .null, .int 0, .int 0, .int 0, .int 0, .int 0]))] H := by rw [hH]; exact hP
  have hS : va_S A s.heap H [] := by rw [hH]; exact hS
  have hl := lv_entry ([.ref h0, .int 12]) (n := 3) (Nat.le_of_ble_eq_true rfl)
  rw [lg_entry_eq]
  generalize (lg_sl ([.ref h0, .int 12]) ++ List.replicate (3 - (lg_sl ([.ref h0, .int 12])).length) Slot.unset).toArray = ls at hl ⊢
  have hl : lv_has ls 3 [(0, .ref h0), (1, .int 12)] := hl
  suffices h9 : W p l e (headSpec u_c_X6_init _).room s m _ below meth c H [] 0 0 _ (F0 m 0 ls []) by rw [hH] at h9; exact h9
  refine lv_aload_n hx hb dX6_init_0 rfl (lv_at hl 0 rfl) ?_
  refine W.objInit hx hb hown (hts (.methodLink RX6 3 objectInit) (by decide +kernel)) (hts (.instanceMethod objectInit) (by decide +kernel)) (hts (.code objectInit ⟨#[0xb1]⟩ 1 none) (by decide +kernel)) rfl (by rw [hml]; exact hl.1) rfl dX6_init_1 (Nat.le_of_ble_eq_true rfl) (Nat.le_of_ble_eq_true rfl) ?_
  refine W.eq (g2 := F0 m 4 ls []) rfl ?_
  refine lv_iload_n hx hb dX6_init_4 rfl (lv_at hl 1 rfl) ?_
  refine lv_iconst (v := 0) hx hb dX6_init_5 (by decide) ?_
  refine va_mmax hx hb (by rw [hml]; exact hl.1.symm) hown (hts (.methodLink RX6 9 Lib.Math.max.name) (by decide +kernel)) (hts (.static Lib.Math.max.name) (by decide +kernel)) (hts (.initialized "java/lang/Math") (by decide +kernel)) (hts (.code Lib.Math.max.name Lib.Math.max.code 2 (some .int)) (by decide +kernel)) (Nat.le_of_ble_eq_true rfl) (Nat.le_of_ble_eq_true rfl) (Nat.le_of_ble_eq_true rfl) (Nat.le_of_ble_eq_true rfl) dX6_init_6 ?_
  refine zz_ci (y := 12) (by decide) ?_
  refine lv_istore_n (lv' := [(2, .int 12), (0, .ref h0), (1, .int 12)]) hx hb dX6_init_9 rfl hl (by decide) rfl (fun ls hl => ?_)
  refine lv_aload_n hx hb dX6_init_10 rfl (lv_at hl 1 rfl) ?_
  refine lv_iload_n hx hb dX6_init_11 rfl (lv_at hl 0 rfl) ?_
  refine va_newa (atype := .long) (ty := .long) (n := 12) (N' := 12) (a0 := (12, .inr (.inl (fun _ => 0)))) hx hb (hts (.arrayClass .long) (by decide +kernel)) rfl hK hP hD hS hA (fun _ => rfl) (by decide) (by decide) (by decide) (Nat.le_of_ble_eq_true rfl) (Nat.le_of_ble_eq_true rfl) dX6_init_12 (fun q_1 cA_1 H hK hP hD hS => ?_)
  have hK : va_K (dC, dI) vwCl [(cA_1, .long)] s := hK
  have hP : va_P (dC, dI) vwCl [(h0, .inr (6, [.null, .null, .null, .null, .null, .null, .null, .null, .null, .int 0, .int 0, .int 0, .int 0, .int 0])), (q_1, .inl (cA_1, 12, .inr (.inl (fun _ => 0))))] H := hP
  have hD : va_D A [(h0, .inr (6, [.null, .null, .null, .null, .null, .null, .null, .null, .null, .int 0, .int 0, .int 0, .int 0, .int 0])), (q_1, .inl (cA_1, 12, .inr (.inl (fun _ => 0))))] := hD
  refine W.widen (k := 1) (n := 12) (Nat.le_of_ble_eq_true rfl) (Nat.le_of_ble_eq_true rfl) ?_
  have hP := hP.sub (ws' := [(h0, .inr (6, [.null, .null, .null, .null, .null, .null, .null, .null, .null, .int 0, .int 0, .int 0, .int 0, .int 0]))]) [0] rfl
  have hD := hD.sub (ws' := [(h0, .inr (6, [.null, .null, .null, .null, .null, .null, .null, .null, .null, .int 0, .int 0, .int 0, .int 0, .int 0]))]) [0] (by decide) rfl
  have hK := hK.sub (tys' := []) [] rfl
  refine va_putF (D := (dC, dI)) (ci := 6) (v := .ref q_1) (ty := (.array .long)) (C := RX6) (T := TX6) (N := 14) hx hb hts hiX6 tyX6 tyX6_ok nmX6 hown hK hP hD hS 0 rfl rfl 0 (by decide) (hts (.fieldLink RX6 15 "CakePapers$Paper" "makes" "[J") (by decide +kernel)) (fun _ h9 => h9) rfl hin rfl (by decide +kernel) rfl rfl (Nat.le_of_ble_eq_true rfl) dX6_init_14 (fun H locs hP hD hS => ?_)
  have hP : va_P (dC, dI) vwCl [(h0, .inr (6, [.ref q_1, .null, .null, .null, .null, .null, .null, .null, .null, .int 0, .int 0, .int 0, .int 0, .int 0]))] H := hP
  have hD : va_D A [(h0, .inr (6, [.ref q_1, .null, .null, .null, .null, .null, .null, .null, .null, .int 0, .int 0, .int 0, .int 0, .int 0]))] := hD
  refine lv_aload_n hx hb dX6_init_17 rfl (lv_at hl 1 rfl) ?_
  refine lv_iload_n hx hb dX6_init_18 rfl (lv_at hl 0 rfl) ?_
  refine va_newa (atype := .long) (ty := .long) (n := 12) (N' := 12) (a0 := (12, .inr (.inl (fun _ => 0)))) hx hb (hts (.arrayClass .long) (by decide +kernel)) rfl hK hP hD hS hA (fun _ => rfl) (by decide) (by decide) (by decide) (Nat.le_of_ble_eq_true rfl) (Nat.le_of_ble_eq_true rfl) dX6_init_19 (fun q_2 cA_2 H hK hP hD hS => ?_)
  have hK : va_K (dC, dI) vwCl [(cA_2, .long)] s := hK
  have hP : va_P (dC, dI) vwCl [(h0, .inr (6, [.ref q_1, .null, .null, .null, .null, .null, .null, .null, .null, .int 0, .int 0, .int 0, .int 0, .int 0])), (q_2, .inl (cA_2, 12, .inr (.inl (fun _ => 0))))] H := hP
  have hD : va_D A [(h0, .inr (6, [.ref q_1, .null, .null, .null, .null, .null, .null, .null, .null, .int 0, .int 0, .int 0, .int 0, .int 0])), (q_2, .inl (cA_2, 12, .inr (.inl (fun _ => 0))))] := hD
  refine W.widen (k := 2) (n := 24) (Nat.le_of_ble_eq_true rfl) (Nat.le_of_ble_eq_true rfl) ?_
  have hP := hP.sub (ws' := [(h0, .inr (6, [.ref q_1, .null, .null, .null, .null, .null, .null, .null, .null, .int 0, .int 0, .int 0, .int 0, .int 0]))]) [0] rfl
  have hD := hD.sub (ws' := [(h0, .inr (6, [.ref q_1, .null, .null, .null, .null, .null, .null, .null, .null, .int 0, .int 0, .int 0, .int 0, .int 0]))]) [0] (by decide) rfl
  have hK := hK.sub (tys' := []) [] rfl
  refine va_putF (D := (dC, dI)) (ci := 6) (v := .ref q_2) (ty := (.array .long)) (C := RX6) (T := TX6) (N := 14) hx hb hts hiX6 tyX6 tyX6_ok nmX6 hown hK hP hD hS 0 rfl rfl 1 (by decide) (hts (.fieldLink RX6 21 "CakePapers$Paper" "verbs" "[J") (by decide +kernel)) (fun _ h9 => h9) rfl hin rfl (by decide +kernel) rfl rfl (Nat.le_of_ble_eq_true rfl) dX6_init_21 (fun H locs hP hD hS => ?_)
  have hP : va_P (dC, dI) vwCl [(h0, .inr (6, [.ref q_1, .ref q_2, .null, .null, .null, .null, .null, .null, .null, .int 0, .int 0, .int 0, .int 0, .int 0]))] H := hP
  have hD : va_D A [(h0, .inr (6, [.ref q_1, .ref q_2, .null, .null, .null, .null, .null, .null, .null, .int 0, .int 0, .int 0, .int 0, .int 0]))] := hD
  refine lv_aload_n hx hb dX6_init_24 rfl (lv_at hl 1 rfl) ?_
  refine lv_iload_n hx hb dX6_init_25 rfl (lv_at hl 0 rfl) ?_
  refine va_newa (atype := .int) (ty := .int) (n := 12) (N' := 12) (a0 := (12, .inl (fun _ => 0))) hx hb (hts (.arrayClass .int) (by decide +kernel)) rfl hK hP hD hS hA (fun _ => rfl) (by decide) (by decide) (by decide) (Nat.le_of_ble_eq_true rfl) (Nat.le_of_ble_eq_true rfl) dX6_init_26 (fun q_3 cA_3 H hK hP hD hS => ?_)
  have hK : va_K (dC, dI) vwCl [(cA_3, .int)] s := hK
  have hP : va_P (dC, dI) vwCl [(h0, .inr (6, [.ref q_1, .ref q_2, .null, .null, .null, .null, .null, .null, .null, .int 0, .int 0, .int 0, .int 0, .int 0])), (q_3, .inl (cA_3, 12, .inl (fun _ => 0)))] H := hP
  have hD : va_D A [(h0, .inr (6, [.ref q_1, .ref q_2, .null, .null, .null, .null, .null, .null, .null, .int 0, .int 0, .int 0, .int 0, .int 0])), (q_3, .inl (cA_3, 12, .inl (fun _ => 0)))] := hD
  refine W.widen (k := 3) (n := 36) (Nat.le_of_ble_eq_true rfl) (Nat.le_of_ble_eq_true rfl) ?_
  have hP := hP.sub (ws' := [(h0, .inr (6, [.ref q_1, .ref q_2, .null, .null, .null, .null, .null, .null, .null, .int 0, .int 0, .int 0, .int 0, .int 0]))]) [0] rfl
  have hD := hD.sub (ws' := [(h0, .inr (6, [.ref q_1, .ref q_2, .null, .null, .null, .null, .null, .null, .null, .int 0, .int 0, .int 0, .int 0, .int 0]))]) [0] (by decide) rfl
  have hK := hK.sub (tys' := []) [] rfl
  refine va_putF (D := (dC, dI)) (ci := 6) (v := .ref q_3) (ty := (.array .int)) (C := RX6) (T := TX6) (N := 14) hx hb hts hiX6 tyX6 tyX6_ok nmX6 hown hK hP hD hS 0 rfl rfl 2 (by decide) (hts (.fieldLink RX6 24 "CakePapers$Paper" "much" "[I") (by decide +kernel)) (fun _ h9 => h9) rfl hin rfl (by decide +kernel) rfl rfl (Nat.le_of_ble_eq_true rfl) dX6_init_28 (fun H locs hP hD hS => ?_)
  have hP : va_P (dC, dI) vwCl [(h0, .inr (6, [.ref q_1, .ref q_2, .ref q_3, .null, .null, .null, .null, .null, .null, .int 0, .int 0, .int 0, .int 0, .int 0]))] H := hP
  have hD : va_D A [(h0, .inr (6, [.ref q_1, .ref q_2, .ref q_3, .null, .null, .null, .null, .null, .null, .int 0, .int 0, .int 0, .int 0, .int 0]))] := hD
  refine lv_aload_n hx hb dX6_init_31 rfl (lv_at hl 1 rfl) ?_
  refine lv_iload_n hx hb dX6_init_32 rfl (lv_at hl 0 rfl) ?_
  refine va_newa (atype := .int) (ty := .int) (n := 12) (N' := 12) (a0 := (12, .inl (fun _ => 0))) hx hb (hts (.arrayClass .int) (by decide +kernel)) rfl hK hP hD hS hA (fun _ => rfl) (by decide) (by decide) (by decide) (Nat.le_of_ble_eq_true rfl) (Nat.le_of_ble_eq_true rfl) dX6_init_33 (fun q_4 cA_4 H hK hP hD hS => ?_)
  have hK : va_K (dC, dI) vwCl [(cA_4, .int)] s := hK
  have hP : va_P (dC, dI) vwCl [(h0, .inr (6, [.ref q_1, .ref q_2, .ref q_3, .null, .null, .null, .null, .null, .null, .int 0, .int 0, .int 0, .int 0, .int 0])), (q_4, .inl (cA_4, 12, .inl (fun _ => 0)))] H := hP
  have hD : va_D A [(h0, .inr (6, [.ref q_1, .ref q_2, .ref q_3, .null, .null, .null, .null, .null, .null, .int 0, .int 0, .int 0, .int 0, .int 0])), (q_4, .inl (cA_4, 12, .inl (fun _ => 0)))] := hD
  refine W.widen (k := 4) (n := 48) (Nat.le_of_ble_eq_true rfl) (Nat.le_of_ble_eq_true rfl) ?_
  have hP := hP.sub (ws' := [(h0, .inr (6, [.ref q_1, .ref q_2, .ref q_3, .null, .null, .null, .null, .null, .null, .int 0, .int 0, .int 0, .int 0, .int 0]))]) [0] rfl
  have hD := hD.sub (ws' := [(h0, .inr (6, [.ref q_1, .ref q_2, .ref q_3, .null, .null, .null, .null, .null, .null, .int 0, .int 0, .int 0, .int 0, .int 0]))]) [0] (by decide) rfl
  have hK := hK.sub (tys' := []) [] rfl
  refine va_putF (D := (dC, dI)) (ci := 6) (v := .ref q_4) (ty := (.array .int)) (C := RX6) (T := TX6) (N := 14) hx hb hts hiX6 tyX6 tyX6_ok nmX6 hown hK hP hD hS 0 rfl rfl 3 (by decide) (hts (.fieldLink RX6 28 "CakePapers$Paper" "lasts" "[I") (by decide +kernel)) (fun _ h9 => h9) rfl hin rfl (by decide +kernel) rfl rfl (Nat.le_of_ble_eq_true rfl) dX6_init_35 (fun H locs hP hD hS => ?_)
  have hP : va_P (dC, dI) vwCl [(h0, .inr (6, [.ref q_1, .ref q_2, .ref q_3, .ref q_4, .null, .null, .null, .null, .null, .int 0, .int 0, .int 0, .int 0, .int 0]))] H := hP
  have hD : va_D A [(h0, .inr (6, [.ref q_1, .ref q_2, .ref q_3, .ref q_4, .null, .null, .null, .null, .null, .int 0, .int 0, .int 0, .int 0, .int 0]))] := hD
  refine lv_aload_n hx hb dX6_init_38 rfl (lv_at hl 1 rfl) ?_
  refine lv_iload_n hx hb dX6_init_39 rfl (lv_at hl 0 rfl) ?_
  refine va_newa (atype := .int) (ty := .int) (n := 12) (N' := 12) (a0 := (12, .inl (fun _ => 0))) hx hb (hts (.arrayClass .int) (by decide +kernel)) rfl hK hP hD hS hA (fun _ => rfl) (by decide) (by decide) (by decide) (Nat.le_of_ble_eq_true rfl) (Nat.le_of_ble_eq_true rfl) dX6_init_40 (fun q_5 cA_5 H hK hP hD hS => ?_)
  have hK : va_K (dC, dI) vwCl [(cA_5, .int)] s := hK
  have hP : va_P (dC, dI) vwCl [(h0, .inr (6, [.ref q_1, .ref q_2, .ref q_3, .ref q_4, .null, .null, .null, .null, .null, .int 0, .int 0, .int 0, .int 0, .int 0])), (q_5, .inl (cA_5, 12, .inl (fun _ => 0)))] H := hP
  have hD : va_D A [(h0, .inr (6, [.ref q_1, .ref q_2, .ref q_3, .ref q_4, .null, .null, .null, .null, .null, .int 0, .int 0, .int 0, .int 0, .int 0])), (q_5, .inl (cA_5, 12, .inl (fun _ => 0)))] := hD
  refine W.widen (k := 5) (n := 60) (Nat.le_of_ble_eq_true rfl) (Nat.le_of_ble_eq_true rfl) ?_
  have hP := hP.sub (ws' := [(h0, .inr (6, [.ref q_1, .ref q_2, .ref q_3, .ref q_4, .null, .null, .null, .null, .null, .int 0, .int 0, .int 0, .int 0, .int 0]))]) [0] rfl
  have hD := hD.sub (ws' := [(h0, .inr (6, [.ref q_1, .ref q_2, .ref q_3, .ref q_4, .null, .null, .null, .null, .null, .int 0, .int 0, .int 0, .int 0, .int 0]))]) [0] (by decide) rfl
  have hK := hK.sub (tys' := []) [] rfl
  refine va_putF (D := (dC, dI)) (ci := 6) (v := .ref q_5) (ty := (.array .int)) (C := RX6) (T := TX6) (N := 14) hx hb hts hiX6 tyX6 tyX6_ok nmX6 hown hK hP hD hS 0 rfl rfl 4 (by decide) (hts (.fieldLink RX6 31 "CakePapers$Paper" "needCount" "[I") (by decide +kernel)) (fun _ h9 => h9) rfl hin rfl (by decide +kernel) rfl rfl (Nat.le_of_ble_eq_true rfl) dX6_init_42 (fun H locs hP hD hS => ?_)
  have hP : va_P (dC, dI) vwCl [(h0, .inr (6, [.ref q_1, .ref q_2, .ref q_3, .ref q_4, .ref q_5, .null, .null, .null, .null, .int 0, .int 0, .int 0, .int 0, .int 0]))] H := hP
  have hD : va_D A [(h0, .inr (6, [.ref q_1, .ref q_2, .ref q_3, .ref q_4, .ref q_5, .null, .null, .null, .null, .int 0, .int 0, .int 0, .int 0, .int 0]))] := hD
  refine lv_aload_n hx hb dX6_init_45 rfl (lv_at hl 1 rfl) ?_
  refine lv_iload_n hx hb dX6_init_46 rfl (lv_at hl 0 rfl) ?_
  refine lv_iconst (v := 4) hx hb dX6_init_47 (by decide) ?_
  refine lv_imul hx hb dX6_init_48 ?_
  refine zz_ci (y := 48) (by decide) ?_
  refine va_newa (atype := .long) (ty := .long) (n := 48) (N' := 48) (a0 := (48, .inr (.inl (fun _ => 0)))) hx hb (hts (.arrayClass .long) (by decide +kernel)) rfl hK hP hD hS hA (fun _ => rfl) (by decide) (by decide) (by decide) (Nat.le_of_ble_eq_true rfl) (Nat.le_of_ble_eq_true rfl) dX6_init_49 (fun q_6 cA_6 H hK hP hD hS => ?_)
  have hK : va_K (dC, dI) vwCl [(cA_6, .long)] s := hK
  have hP : va_P (dC, dI) vwCl [(h0, .inr (6, [.ref q_1, .ref q_2, .ref q_3, .ref q_4, .ref q_5, .null, .null, .null, .null, .int 0, .int 0, .int 0, .int 0, .int 0])), (q_6, .inl (cA_6, 48, .inr (.inl (fun _ => 0))))] H := hP
  have hD : va_D A [(h0, .inr (6, [.ref q_1, .ref q_2, .ref q_3, .ref q_4, .ref q_5, .null, .null, .null, .null, .int 0, .int 0, .int 0, .int 0, .int 0])), (q_6, .inl (cA_6, 48, .inr (.inl (fun _ => 0))))] := hD
  refine W.widen (k := 6) (n := 108) (Nat.le_of_ble_eq_true rfl) (Nat.le_of_ble_eq_true rfl) ?_
  have hP := hP.sub (ws' := [(h0, .inr (6, [.ref q_1, .ref q_2, .ref q_3, .ref q_4, .ref q_5, .null, .null, .null, .null, .int 0, .int 0, .int 0, .int 0, .int 0]))]) [0] rfl
  have hD := hD.sub (ws' := [(h0, .inr (6, [.ref q_1, .ref q_2, .ref q_3, .ref q_4, .ref q_5, .null, .null, .null, .null, .int 0, .int 0, .int 0, .int 0, .int 0]))]) [0] (by decide) rfl
  have hK := hK.sub (tys' := []) [] rfl
  refine va_putF (D := (dC, dI)) (ci := 6) (v := .ref q_6) (ty := (.array .long)) (C := RX6) (T := TX6) (N := 14) hx hb hts hiX6 tyX6 tyX6_ok nmX6 hown hK hP hD hS 0 rfl rfl 5 (by decide) (hts (.fieldLink RX6 34 "CakePapers$Paper" "needs" "[J") (by decide +kernel)) (fun _ h9 => h9) rfl hin rfl (by decide +kernel) rfl rfl (Nat.le_of_ble_eq_true rfl) dX6_init_51 (fun H locs hP hD hS => ?_)
  have hP : va_P (dC, dI) vwCl [(h0, .inr (6, [.ref q_1, .ref q_2, .ref q_3, .ref q_4, .ref q_5, .ref q_6, .null, .null, .null, .int 0, .int 0, .int 0, .int 0, .int 0]))] H := hP
  have hD : va_D A [(h0, .inr (6, [.ref q_1, .ref q_2, .ref q_3, .ref q_4, .ref q_5, .ref q_6, .null, .null, .null, .int 0, .int 0, .int 0, .int 0, .int 0]))] := hD
  refine lv_aload_n hx hb dX6_init_54 rfl (lv_at hl 1 rfl) ?_
  refine lv_iload_n hx hb dX6_init_55 rfl (lv_at hl 0 rfl) ?_
  refine lv_iconst (v := 4) hx hb dX6_init_56 (by decide) ?_
  refine lv_imul hx hb dX6_init_57 ?_
  refine zz_ci (y := 48) (by decide) ?_
  refine va_newa (atype := .int) (ty := .int) (n := 48) (N' := 48) (a0 := (48, .inl (fun _ => 0))) hx hb (hts (.arrayClass .int) (by decide +kernel)) rfl hK hP hD hS hA (fun _ => rfl) (by decide) (by decide) (by decide) (Nat.le_of_ble_eq_true rfl) (Nat.le_of_ble_eq_true rfl) dX6_init_58 (fun q_7 cA_7 H hK hP hD hS => ?_)
  have hK : va_K (dC, dI) vwCl [(cA_7, .int)] s := hK
  have hP : va_P (dC, dI) vwCl [(h0, .inr (6, [.ref q_1, .ref q_2, .ref q_3, .ref q_4, .ref q_5, .ref q_6, .null, .null, .null, .int 0, .int 0, .int 0, .int 0, .int 0])), (q_7, .inl (cA_7, 48, .inl (fun _ => 0)))] H := hP
  have hD : va_D A [(h0, .inr (6, [.ref q_1, .ref q_2, .ref q_3, .ref q_4, .ref q_5, .ref q_6, .null, .null, .null, .int 0, .int 0, .int 0, .int 0, .int 0])), (q_7, .inl (cA_7, 48, .inl (fun _ => 0)))] := hD
  refine W.widen (k := 7) (n := 156) (Nat.le_of_ble_eq_true rfl) (Nat.le_of_ble_eq_true rfl) ?_
  have hP := hP.sub (ws' := [(h0, .inr (6, [.ref q_1, .ref q_2, .ref q_3, .ref q_4, .ref q_5, .ref q_6, .null, .null, .null, .int 0, .int 0, .int 0, .int 0, .int 0]))]) [0] rfl
  have hD := hD.sub (ws' := [(h0, .inr (6, [.ref q_1, .ref q_2, .ref q_3, .ref q_4, .ref q_5, .ref q_6, .null, .null, .null, .int 0, .int 0, .int 0, .int 0, .int 0]))]) [0] (by decide) rfl
  have hK := hK.sub (tys' := []) [] rfl
  refine va_putF (D := (dC, dI)) (ci := 6) (v := .ref q_7) (ty := (.array .int)) (C := RX6) (T := TX6) (N := 14) hx hb hts hiX6 tyX6 tyX6_ok nmX6 hown hK hP hD hS 0 rfl rfl 6 (by decide) (hts (.fieldLink RX6 37 "CakePapers$Paper" "makers" "[I") (by decide +kernel)) (fun _ h9 => h9) rfl hin rfl (by decide +kernel) rfl rfl (Nat.le_of_ble_eq_true rfl) dX6_init_60 (fun H locs hP hD hS => ?_)
  have hP : va_P (dC, dI) vwCl [(h0, .inr (6, [.ref q_1, .ref q_2, .ref q_3, .ref q_4, .ref q_5, .ref q_6, .ref q_7, .null, .null, .int 0, .int 0, .int 0, .int 0, .int 0]))] H := hP
  have hD : va_D A [(h0, .inr (6, [.ref q_1, .ref q_2, .ref q_3, .ref q_4, .ref q_5, .ref q_6, .ref q_7, .null, .null, .int 0, .int 0, .int 0, .int 0, .int 0]))] := hD
  refine lv_aload_n hx hb dX6_init_63 rfl (lv_at hl 1 rfl) ?_
  refine lv_iload_n hx hb dX6_init_64 rfl (lv_at hl 0 rfl) ?_
  refine va_newa (atype := .boolean) (ty := .boolean) (n := 12) (N' := 12) (a0 := (12, .inl (fun _ => 0))) hx hb (hts (.arrayClass .boolean) (by decide +kernel)) rfl hK hP hD hS hA (fun _ => rfl) (by decide) (by decide) (by decide) (Nat.le_of_ble_eq_true rfl) (Nat.le_of_ble_eq_true rfl) dX6_init_65 (fun q_8 cA_8 H hK hP hD hS => ?_)
  have hK : va_K (dC, dI) vwCl [(cA_8, .boolean)] s := hK
  have hP : va_P (dC, dI) vwCl [(h0, .inr (6, [.ref q_1, .ref q_2, .ref q_3, .ref q_4, .ref q_5, .ref q_6, .ref q_7, .null, .null, .int 0, .int 0, .int 0, .int 0, .int 0])), (q_8, .inl (cA_8, 12, .inl (fun _ => 0)))] H := hP
  have hD : va_D A [(h0, .inr (6, [.ref q_1, .ref q_2, .ref q_3, .ref q_4, .ref q_5, .ref q_6, .ref q_7, .null, .null, .int 0, .int 0, .int 0, .int 0, .int 0])), (q_8, .inl (cA_8, 12, .inl (fun _ => 0)))] := hD
  refine W.widen (k := 8) (n := 168) (Nat.le_of_ble_eq_true rfl) (Nat.le_of_ble_eq_true rfl) ?_
  have hP := hP.sub (ws' := [(h0, .inr (6, [.ref q_1, .ref q_2, .ref q_3, .ref q_4, .ref q_5, .ref q_6, .ref q_7, .null, .null, .int 0, .int 0, .int 0, .int 0, .int 0]))]) [0] rfl
  have hD := hD.sub (ws' := [(h0, .inr (6, [.ref q_1, .ref q_2, .ref q_3, .ref q_4, .ref q_5, .ref q_6, .ref q_7, .null, .null, .int 0, .int 0, .int 0, .int 0, .int 0]))]) [0] (by decide) rfl
  have hK := hK.sub (tys' := []) [] rfl
  refine va_putF (D := (dC, dI)) (ci := 6) (v := .ref q_8) (ty := (.array .boolean)) (C := RX6) (T := TX6) (N := 14) hx hb hts hiX6 tyX6 tyX6_ok nmX6 hown hK hP hD hS 0 rfl rfl 7 (by decide) (hts (.fieldLink RX6 40 "CakePapers$Paper" "isEnd" "[Z") (by decide +kernel)) (fun _ h9 => h9) rfl hin rfl (by decide +kernel) rfl rfl (Nat.le_of_ble_eq_true rfl) dX6_init_67 (fun H locs hP hD hS => ?_)
  have hP : va_P (dC, dI) vwCl [(h0, .inr (6, [.ref q_1, .ref q_2, .ref q_3, .ref q_4, .ref q_5, .ref q_6, .ref q_7, .ref q_8, .null, .int 0, .int 0, .int 0, .int 0, .int 0]))] H := hP
  have hD : va_D A [(h0, .inr (6, [.ref q_1, .ref q_2, .ref q_3, .ref q_4, .ref q_5, .ref q_6, .ref q_7, .ref q_8, .null, .int 0, .int 0, .int 0, .int 0, .int 0]))] := hD
  refine lv_aload_n hx hb dX6_init_70 rfl (lv_at hl 1 rfl) ?_
  refine lv_iload_n hx hb dX6_init_71 rfl (lv_at hl 0 rfl) ?_
  refine va_newa (atype := .int) (ty := .int) (n := 12) (N' := 12) (a0 := (12, .inl (fun _ => 0))) hx hb (hts (.arrayClass .int) (by decide +kernel)) rfl hK hP hD hS hA (fun _ => rfl) (by decide) (by decide) (by decide) (Nat.le_of_ble_eq_true rfl) (Nat.le_of_ble_eq_true rfl) dX6_init_72 (fun q_9 cA_9 H hK hP hD hS => ?_)
  have hK : va_K (dC, dI) vwCl [(cA_9, .int)] s := hK
  have hP : va_P (dC, dI) vwCl [(h0, .inr (6, [.ref q_1, .ref q_2, .ref q_3, .ref q_4, .ref q_5, .ref q_6, .ref q_7, .ref q_8, .null, .int 0, .int 0, .int 0, .int 0, .int 0])), (q_9, .inl (cA_9, 12, .inl (fun _ => 0)))] H := hP
  have hD : va_D A [(h0, .inr (6, [.ref q_1, .ref q_2, .ref q_3, .ref q_4, .ref q_5, .ref q_6, .ref q_7, .ref q_8, .null, .int 0, .int 0, .int 0, .int 0, .int 0])), (q_9, .inl (cA_9, 12, .inl (fun _ => 0)))] := hD
  refine W.widen (k := 9) (n := 180) (Nat.le_of_ble_eq_true rfl) (Nat.le_of_ble_eq_true rfl) ?_
  have hP := hP.sub (ws' := [(h0, .inr (6, [.ref q_1, .ref q_2, .ref q_3, .ref q_4, .ref q_5, .ref q_6, .ref q_7, .ref q_8, .null, .int 0, .int 0, .int 0, .int 0, .int 0]))]) [0] rfl
  have hD := hD.sub (ws' := [(h0, .inr (6, [.ref q_1, .ref q_2, .ref q_3, .ref q_4, .ref q_5, .ref q_6, .ref q_7, .ref q_8, .null, .int 0, .int 0, .int 0, .int 0, .int 0]))]) [0] (by decide) rfl
  have hK := hK.sub (tys' := []) [] rfl
  refine va_putF (D := (dC, dI)) (ci := 6) (v := .ref q_9) (ty := (.array .int)) (C := RX6) (T := TX6) (N := 14) hx hb hts hiX6 tyX6 tyX6_ok nmX6 hown hK hP hD hS 0 rfl rfl 8 (by decide) (hts (.fieldLink RX6 44 "CakePapers$Paper" "reach" "[I") (by decide +kernel)) (fun _ h9 => h9) rfl hin rfl (by decide +kernel) rfl rfl (Nat.le_of_ble_eq_true rfl) dX6_init_74 (fun H locs hP hD hS => ?_)
  have hP : va_P (dC, dI) vwCl [(h0, .inr (6, [.ref q_1, .ref q_2, .ref q_3, .ref q_4, .ref q_5, .ref q_6, .ref q_7, .ref q_8, .ref q_9, .int 0, .int 0, .int 0, .int 0, .int 0]))] H := hP
  have hD : va_D A [(h0, .inr (6, [.ref q_1, .ref q_2, .ref q_3, .ref q_4, .ref q_5, .ref q_6, .ref q_7, .ref q_8, .ref q_9, .int 0, .int 0, .int 0, .int 0, .int 0]))] := hD
  refine W.widen (k := 9) (n := 180) (Nat.le_of_ble_eq_true rfl) (Nat.le_of_ble_eq_true rfl) ?_
  have hP9 := hP.sub (ws' := [(h0, .inr (6, [.ref q_1, .ref q_2, .ref q_3, .ref q_4, .ref q_5, .ref q_6, .ref q_7, .ref q_8, .ref q_9, .int 0, .int 0, .int 0, .int 0, .int 0]))]) [0] rfl
  have hD9 := hD.sub (ws' := [(h0, .inr (6, [.ref q_1, .ref q_2, .ref q_3, .ref q_4, .ref q_5, .ref q_6, .ref q_7, .ref q_8, .ref q_9, .int 0, .int 0, .int 0, .int 0, .int 0]))]) [0] (by decide) rfl
  exact W.vret hx hb hr (fun t ht hW => ⟨⟨(), rfl, trivial, q_1, q_2, q_3, q_4, q_5, q_6, q_7, q_8, q_9, by rw [ht]; exact hP9, hD9⟩, hS.F ht⟩) hS.2.2 dX6_init_77
def u_c_X6_init_36 : List Cond := .code yX6_init cX6_init 3 none :: ([.methodLink RX6 3 objectInit, .instanceMethod objectInit, .code objectInit ⟨#[0xb1]⟩ 1 none, .methodLink RX6 9 Lib.Math.max.name, .static Lib.Math.max.name, .initialized "java/lang/Math", .code Lib.Math.max.name Lib.Math.max.code 2 (some .int), .arrayClass .long, .fieldLink RX6 15 "CakePapers$Paper" "makes" "[J", .fieldLink RX6 21 "CakePapers$Paper" "verbs" "[J", .arrayClass .int, .fieldLink RX6 24 "CakePapers$Paper" "much" "[I", .fieldLink RX6 28 "CakePapers$Paper" "lasts" "[I", .fieldLink RX6 31 "CakePapers$Paper" "needCount" "[I", .fieldLink RX6 34 "CakePapers$Paper" "needs" "[J", .fieldLink RX6 37 "CakePapers$Paper" "makers" "[I", .arrayClass .boolean, .fieldLink RX6 40 "CakePapers$Paper" "isEnd" "[Z", .fieldLink RX6 44 "CakePapers$Paper" "reach" "[I"] ++ wsX60)
set_option maxHeartbeats 1000000 in
set_option maxRecDepth 100000 in
theorem c_X6_init_36 (l : Launch) (dC : Nat → ClassId) (dI : Nat → Nat → Nat) (sz : Nat) (h0 : Nat) : Met l yX6_init u_c_X6_init_36 ({ frames := 1, cells := 9, slots := 540, locals := 21 }) (va_Pc [.ref h0, .int 36] (fun U => U.heap.size = sz ∧ va_P (dC, dI) vwCl [(h0, .inr (6, [.null, .null, .null, .null, .null, .null, .null, .null, .null, .int 0, .int 0, .int 0, .int 0, .int 0]))] U.heap ∧ va_K (dC, dI) vwCl [] U ∧ va_D (fun _ => True) [(h0, .inr (6, [.null, .null, .null, .null, .null, .null, .null, .null, .null, .int 0, .int 0, .int 0, .int 0, .int 0]))])) (va_Qv (fun (_ : Unit) => True) (fun _ t => ∃ (q_1 : Nat), ∃ (q_2 : Nat), ∃ (q_3 : Nat), ∃ (q_4 : Nat), ∃ (q_5 : Nat), ∃ (q_6 : Nat), ∃ (q_7 : Nat), ∃ (q_8 : Nat), ∃ (q_9 : Nat), va_P (dC, dI) vwCl [(h0, .inr (6, [.ref q_1, .ref q_2, .ref q_3, .ref q_4, .ref q_5, .ref q_6, .ref q_7, .ref q_8, .ref q_9, .int 0, .int 0, .int 0, .int 0, .int 0]))] t.heap ∧ va_D (va_A [(h0, .inr (6, [.null, .null, .null, .null, .null, .null, .null, .null, .null, .int 0, .int 0, .int 0, .int 0, .int 0]))] sz) [(h0, .inr (6, [.ref q_1, .ref q_2, .ref q_3, .ref q_4, .ref q_5, .ref q_6, .ref q_7, .ref q_8, .ref q_9, .int 0, .int 0, .int 0, .int 0, .int 0]))]) (va_A [(h0, .inr (6, [.null, .null, .null, .null, .null, .null, .null, .null, .null, .int 0, .int 0, .int 0, .int 0, .int 0]))] sz)) 9 540 (va_A [(h0, .inr (6, [.null, .null, .null, .null, .null, .null, .null, .null, .null, .int 0, .int 0, .int 0, .int 0, .int 0]))] sz) := by
  refine Met.ofW (cc := cX6_init) (maxL := 3) (ret := none) (by decide) rfl ?_
  intro p e s m args below meth c s₁ B hml hv
  obtain ⟨rfl, hsz, hP, hK, hD0⟩ := hv
  have hx := B.exec
  have hb := B.bytes
  have hr := B.returns
  have hts := atoms_spec (ws := u_c_X6_init_36) B.pre
  have hown : s.vm.findClass RX6 = some m.cls := findClass_of_methodNamed B.named
  have hlocks := B.notSynchronized
  have hin : meth.name = "<init>" := (name_of_methodNamed B.named B.method).1
  have hiX6 : ∀ w ∈ wsX60, w ∈ u_c_X6_init_36 := fun w h => List.mem_cons_of_mem _ (List.mem_append_right _ h)
  subst hsz
  have hD := hD0.self (sz := s.heap.size)
  generalize hAe : va_A [(h0, .inr (6, [.null, .null, .null, .null, .null, .null, .null, .null, .null, .int 0, .int 0, .int 0, .int 0, .int 0]))] s.heap.size = A at hD ⊢
  have hA : ∀ q : Nat, s.heap.size ≤ q → A q := fun q h => by rw [← hAe]; exact Or.inr h
  have hS : va_S A s.heap s.heap [] := va_S.rf
  obtain ⟨H, hH⟩ : ∃ H : Heap, H = s.heap := ⟨_, rfl⟩
  have hP : va_P (dC, dI) vwCl [(h0, .inr (6, [.null, .null, .null, .null, .null, .null, .null, .null, .null, .int 0, .int 0, .int 0, .int 0, .int 0]))] H := by rw [hH]; exact hP
  have hS : va_S A s.heap H [] := by rw [hH]; exact hS
  have hl := lv_entry ([.ref h0, .int 36]) (n := 3) (Nat.le_of_ble_eq_true rfl)
  rw [lg_entry_eq]
  generalize (lg_sl ([.ref h0, .int 36]) ++ List.replicate (3 - (lg_sl ([.ref h0, .int 36])).length) Slot.unset).toArray = ls at hl ⊢
  have hl : lv_has ls 3 [(0, .ref h0), (1, .int 36)] := hl
  suffices h9 : W p l e (headSpec u_c_X6_init_36 _).room s m _ below meth c H [] 0 0 _ (F0 m 0 ls []) by rw [hH] at h9; exact h9
  refine lv_aload_n hx hb dX6_init_0 rfl (lv_at hl 0 rfl) ?_
  refine W.objInit hx hb hown (hts (.methodLink RX6 3 objectInit) (by decide +kernel)) (hts (.instanceMethod objectInit) (by decide +kernel)) (hts (.code objectInit ⟨#[0xb1]⟩ 1 none) (by decide +kernel)) rfl (by rw [hml]; exact hl.1) rfl dX6_init_1 (Nat.le_of_ble_eq_true rfl) (Nat.le_of_ble_eq_true rfl) ?_
  refine W.eq (g2 := F0 m 4 ls []) rfl ?_
  refine lv_iload_n hx hb dX6_init_4 rfl (lv_at hl 1 rfl) ?_
  refine lv_iconst (v := 0) hx hb dX6_init_5 (by decide) ?_
  refine va_mmax hx hb (by rw [hml]; exact hl.1.symm) hown (hts (.methodLink RX6 9 Lib.Math.max.name) (by decide +kernel)) (hts (.static Lib.Math.max.name) (by decide +kernel)) (hts (.initialized "java/lang/Math") (by decide +kernel)) (hts (.code Lib.Math.max.name Lib.Math.max.code 2 (some .int)) (by decide +kernel)) (Nat.le_of_ble_eq_true rfl) (Nat.le_of_ble_eq_true rfl) (Nat.le_of_ble_eq_true rfl) (Nat.le_of_ble_eq_true rfl) dX6_init_6 ?_
  refine zz_ci (y := 36) (by decide) ?_
  refine lv_istore_n (lv' := [(2, .int 36), (0, .ref h0), (1, .int 36)]) hx hb dX6_init_9 rfl hl (by decide) rfl (fun ls hl => ?_)
  refine lv_aload_n hx hb dX6_init_10 rfl (lv_at hl 1 rfl) ?_
  refine lv_iload_n hx hb dX6_init_11 rfl (lv_at hl 0 rfl) ?_
  refine va_newa (atype := .long) (ty := .long) (n := 36) (N' := 36) (a0 := (36, .inr (.inl (fun _ => 0)))) hx hb (hts (.arrayClass .long) (by decide +kernel)) rfl hK hP hD hS hA (fun _ => rfl) (by decide) (by decide) (by decide) (Nat.le_of_ble_eq_true rfl) (Nat.le_of_ble_eq_true rfl) dX6_init_12 (fun q_1 cA_1 H hK hP hD hS => ?_)
  have hK : va_K (dC, dI) vwCl [(cA_1, .long)] s := hK
  have hP : va_P (dC, dI) vwCl [(h0, .inr (6, [.null, .null, .null, .null, .null, .null, .null, .null, .null, .int 0, .int 0, .int 0, .int 0, .int 0])), (q_1, .inl (cA_1, 36, .inr (.inl (fun _ => 0))))] H := hP
  have hD : va_D A [(h0, .inr (6, [.null, .null, .null, .null, .null, .null, .null, .null, .null, .int 0, .int 0, .int 0, .int 0, .int 0])), (q_1, .inl (cA_1, 36, .inr (.inl (fun _ => 0))))] := hD
  refine W.widen (k := 1) (n := 36) (Nat.le_of_ble_eq_true rfl) (Nat.le_of_ble_eq_true rfl) ?_
  have hP := hP.sub (ws' := [(h0, .inr (6, [.null, .null, .null, .null, .null, .null, .null, .null, .null, .int 0, .int 0, .int 0, .int 0, .int 0]))]) [0] rfl
  have hD := hD.sub (ws' := [(h0, .inr (6, [.null, .null, .null, .null, .null, .null, .null, .null, .null, .int 0, .int 0, .int 0, .int 0, .int 0]))]) [0] (by decide) rfl
  have hK := hK.sub (tys' := []) [] rfl
  refine va_putF (D := (dC, dI)) (ci := 6) (v := .ref q_1) (ty := (.array .long)) (C := RX6) (T := TX6) (N := 14) hx hb hts hiX6 tyX6 tyX6_ok nmX6 hown hK hP hD hS 0 rfl rfl 0 (by decide) (hts (.fieldLink RX6 15 "CakePapers$Paper" "makes" "[J") (by decide +kernel)) (fun _ h9 => h9) rfl hin rfl (by decide +kernel) rfl rfl (Nat.le_of_ble_eq_true rfl) dX6_init_14 (fun H locs hP hD hS => ?_)
  have hP : va_P (dC, dI) vwCl [(h0, .inr (6, [.ref q_1, .null, .null, .null, .null, .null, .null, .null, .null, .int 0, .int 0, .int 0, .int 0, .int 0]))] H := hP
  have hD : va_D A [(h0, .inr (6, [.ref q_1, .null, .null, .null, .null, .null, .null, .null, .null, .int 0, .int 0, .int 0, .int 0, .int 0]))] := hD
  refine lv_aload_n hx hb dX6_init_17 rfl (lv_at hl 1 rfl) ?_
  refine lv_iload_n hx hb dX6_init_18 rfl (lv_at hl 0 rfl) ?_
  refine va_newa (atype := .long) (ty := .long) (n := 36) (N' := 36) (a0 := (36, .inr (.inl (fun _ => 0)))) hx hb (hts (.arrayClass .long) (by decide +kernel)) rfl hK hP hD hS hA (fun _ => rfl) (by decide) (by decide) (by decide) (Nat.le_of_ble_eq_true rfl) (Nat.le_of_ble_eq_true rfl) dX6_init_19 (fun q_2 cA_2 H hK hP hD hS => ?_)
  have hK : va_K (dC, dI) vwCl [(cA_2, .long)] s := hK
  have hP : va_P (dC, dI) vwCl [(h0, .inr (6, [.ref q_1, .null, .null, .null, .null, .null, .null, .null, .null, .int 0, .int 0, .int 0, .int 0, .int 0])), (q_2, .inl (cA_2, 36, .inr (.inl (fun _ => 0))))] H := hP
  have hD : va_D A [(h0, .inr (6, [.ref q_1, .null, .null, .null, .null, .null, .null, .null, .null, .int 0, .int 0, .int 0, .int 0, .int 0])), (q_2, .inl (cA_2, 36, .inr (.inl (fun _ => 0))))] := hD
  refine W.widen (k := 2) (n := 72) (Nat.le_of_ble_eq_true rfl) (Nat.le_of_ble_eq_true rfl) ?_
  have hP := hP.sub (ws' := [(h0, .inr (6, [.ref q_1, .null, .null, .null, .null, .null, .null, .null, .null, .int 0, .int 0, .int 0, .int 0, .int 0]))]) [0] rfl
  have hD := hD.sub (ws' := [(h0, .inr (6, [.ref q_1, .null, .null, .null, .null, .null, .null, .null, .null, .int 0, .int 0, .int 0, .int 0, .int 0]))]) [0] (by decide) rfl
  have hK := hK.sub (tys' := []) [] rfl
  refine va_putF (D := (dC, dI)) (ci := 6) (v := .ref q_2) (ty := (.array .long)) (C := RX6) (T := TX6) (N := 14) hx hb hts hiX6 tyX6 tyX6_ok nmX6 hown hK hP hD hS 0 rfl rfl 1 (by decide) (hts (.fieldLink RX6 21 "CakePapers$Paper" "verbs" "[J") (by decide +kernel)) (fun _ h9 => h9) rfl hin rfl (by decide +kernel) rfl rfl (Nat.le_of_ble_eq_true rfl) dX6_init_21 (fun H locs hP hD hS => ?_)
  have hP : va_P (dC, dI) vwCl [(h0, .inr (6, [.ref q_1, .ref q_2, .null, .null, .null, .null, .null, .null, .null, .int 0, .int 0, .int 0, .int 0, .int 0]))] H := hP
  have hD : va_D A [(h0, .inr (6, [.ref q_1, .ref q_2, .null, .null, .null, .null, .null, .null, .null, .int 0, .int 0, .int 0, .int 0, .int 0]))] := hD
  refine lv_aload_n hx hb dX6_init_24 rfl (lv_at hl 1 rfl) ?_
  refine lv_iload_n hx hb dX6_init_25 rfl (lv_at hl 0 rfl) ?_
  refine va_newa (atype := .int) (ty := .int) (n := 36) (N' := 36) (a0 := (36, .inl (fun _ => 0))) hx hb (hts (.arrayClass .int) (by decide +kernel)) rfl hK hP hD hS hA (fun _ => rfl) (by decide) (by decide) (by decide) (Nat.le_of_ble_eq_true rfl) (Nat.le_of_ble_eq_true rfl) dX6_init_26 (fun q_3 cA_3 H hK hP hD hS => ?_)
  have hK : va_K (dC, dI) vwCl [(cA_3, .int)] s := hK
  have hP : va_P (dC, dI) vwCl [(h0, .inr (6, [.ref q_1, .ref q_2, .null, .null, .null, .null, .null, .null, .null, .int 0, .int 0, .int 0, .int 0, .int 0])), (q_3, .inl (cA_3, 36, .inl (fun _ => 0)))] H := hP
  have hD : va_D A [(h0, .inr (6, [.ref q_1, .ref q_2, .null, .null, .null, .null, .null, .null, .null, .int 0, .int 0, .int 0, .int 0, .int 0])), (q_3, .inl (cA_3, 36, .inl (fun _ => 0)))] := hD
  refine W.widen (k := 3) (n := 108) (Nat.le_of_ble_eq_true rfl) (Nat.le_of_ble_eq_true rfl) ?_
  have hP := hP.sub (ws' := [(h0, .inr (6, [.ref q_1, .ref q_2, .null, .null, .null, .null, .null, .null, .null, .int 0, .int 0, .int 0, .int 0, .int 0]))]) [0] rfl
  have hD := hD.sub (ws' := [(h0, .inr (6, [.ref q_1, .ref q_2, .null, .null, .null, .null, .null, .null, .null, .int 0, .int 0, .int 0, .int 0, .int 0]))]) [0] (by decide) rfl
  have hK := hK.sub (tys' := []) [] rfl
  refine va_putF (D := (dC, dI)) (ci := 6) (v := .ref q_3) (ty := (.array .int)) (C := RX6) (T := TX6) (N := 14) hx hb hts hiX6 tyX6 tyX6_ok nmX6 hown hK hP hD hS 0 rfl rfl 2 (by decide) (hts (.fieldLink RX6 24 "CakePapers$Paper" "much" "[I") (by decide +kernel)) (fun _ h9 => h9) rfl hin rfl (by decide +kernel) rfl rfl (Nat.le_of_ble_eq_true rfl) dX6_init_28 (fun H locs hP hD hS => ?_)
  have hP : va_P (dC, dI) vwCl [(h0, .inr (6, [.ref q_1, .ref q_2, .ref q_3, .null, .null, .null, .null, .null, .null, .int 0, .int 0, .int 0, .int 0, .int 0]))] H := hP
  have hD : va_D A [(h0, .inr (6, [.ref q_1, .ref q_2, .ref q_3, .null, .null, .null, .null, .null, .null, .int 0, .int 0, .int 0, .int 0, .int 0]))] := hD
  refine lv_aload_n hx hb dX6_init_31 rfl (lv_at hl 1 rfl) ?_
  refine lv_iload_n hx hb dX6_init_32 rfl (lv_at hl 0 rfl) ?_
  refine va_newa (atype := .int) (ty := .int) (n := 36) (N' := 36) (a0 := (36, .inl (fun _ => 0))) hx hb (hts (.arrayClass .int) (by decide +kernel)) rfl hK hP hD hS hA (fun _ => rfl) (by decide) (by decide) (by decide) (Nat.le_of_ble_eq_true rfl) (Nat.le_of_ble_eq_true rfl) dX6_init_33 (fun q_4 cA_4 H hK hP hD hS => ?_)
  have hK : va_K (dC, dI) vwCl [(cA_4, .int)] s := hK
  have hP : va_P (dC, dI) vwCl [(h0, .inr (6, [.ref q_1, .ref q_2, .ref q_3, .null, .null, .null, .null, .null, .null, .int 0, .int 0, .int 0, .int 0, .int 0])), (q_4, .inl (cA_4, 36, .inl (fun _ => 0)))] H := hP
  have hD : va_D A [(h0, .inr (6, [.ref q_1, .ref q_2, .ref q_3, .null, .null, .null, .null, .null, .null, .int 0, .int 0, .int 0, .int 0, .int 0])), (q_4, .inl (cA_4, 36, .inl (fun _ => 0)))] := hD
  refine W.widen (k := 4) (n := 144) (Nat.le_of_ble_eq_true rfl) (Nat.le_of_ble_eq_true rfl) ?_
  have hP := hP.sub (ws' := [(h0, .inr (6, [.ref q_1, .ref q_2, .ref q_3, .null, .null, .null, .null, .null, .null, .int 0, .int 0, .int 0, .int 0, .int 0]))]) [0] rfl
  have hD := hD.sub (ws' := [(h0, .inr (6, [.ref q_1, .ref q_2, .ref q_3, .null, .null, .null, .null, .null, .null, .int 0, .int 0, .int 0, .int 0, .int 0]))]) [0] (by decide) rfl
  have hK := hK.sub (tys' := []) [] rfl
  refine va_putF (D := (dC, dI)) (ci := 6) (v := .ref q_4) (ty := (.array .int)) (C := RX6) (T := TX6) (N := 14) hx hb hts hiX6 tyX6 tyX6_ok nmX6 hown hK hP hD hS 0 rfl rfl 3 (by decide) (hts (.fieldLink RX6 28 "CakePapers$Paper" "lasts" "[I") (by decide +kernel)) (fun _ h9 => h9) rfl hin rfl (by decide +kernel) rfl rfl (Nat.le_of_ble_eq_true rfl) dX6_init_35 (fun H locs hP hD hS => ?_)
  have hP : va_P (dC, dI) vwCl [(h0, .inr (6, [.ref q_1, .ref q_2, .ref q_3, .ref q_4, .null, .null, .null, .null, .null, .int 0, .int 0, .int 0, .int 0, .int 0]))] H := hP
  have hD : va_D A [(h0, .inr (6, [.ref q_1, .ref q_2, .ref q_3, .ref q_4, .null, .null, .null, .null, .null, .int 0, .int 0, .int 0, .int 0, .int 0]))] := hD
  refine lv_aload_n hx hb dX6_init_38 rfl (lv_at hl 1 rfl) ?_
  refine lv_iload_n hx hb dX6_init_39 rfl (lv_at hl 0 rfl) ?_
  refine va_newa (atype := .int) (ty := .int) (n := 36) (N' := 36) (a0 := (36, .inl (fun _ => 0))) hx hb (hts (.arrayClass .int) (by decide +kernel)) rfl hK hP hD hS hA (fun _ => rfl) (by decide) (by decide) (by decide) (Nat.le_of_ble_eq_true rfl) (Nat.le_of_ble_eq_true rfl) dX6_init_40 (fun q_5 cA_5 H hK hP hD hS => ?_)
  have hK : va_K (dC, dI) vwCl [(cA_5, .int)] s := hK
  have hP : va_P (dC, dI) vwCl [(h0, .inr (6, [.ref q_1, .ref q_2, .ref q_3, .ref q_4, .null, .null, .null, .null, .null, .int 0, .int 0, .int 0, .int 0, .int 0])), (q_5, .inl (cA_5, 36, .inl (fun _ => 0)))] H := hP
  have hD : va_D A [(h0, .inr (6, [.ref q_1, .ref q_2, .ref q_3, .ref q_4, .null, .null, .null, .null, .null, .int 0, .int 0, .int 0, .int 0, .int 0])), (q_5, .inl (cA_5, 36, .inl (fun _ => 0)))] := hD
  refine W.widen (k := 5) (n := 180) (Nat.le_of_ble_eq_true rfl) (Nat.le_of_ble_eq_true rfl) ?_
  have hP := hP.sub (ws' := [(h0, .inr (6, [.ref q_1, .ref q_2, .ref q_3, .ref q_4, .null, .null, .null, .null, .null, .int 0, .int 0, .int 0, .int 0, .int 0]))]) [0] rfl
  have hD := hD.sub (ws' := [(h0, .inr (6, [.ref q_1, .ref q_2, .ref q_3, .ref q_4, .null, .null, .null, .null, .null, .int 0, .int 0, .int 0, .int 0, .int 0]))]) [0] (by decide) rfl
  have hK := hK.sub (tys' := []) [] rfl
  refine va_putF (D := (dC, dI)) (ci := 6) (v := .ref q_5) (ty := (.array .int)) (C := RX6) (T := TX6) (N := 14) hx hb hts hiX6 tyX6 tyX6_ok nmX6 hown hK hP hD hS 0 rfl rfl 4 (by decide) (hts (.fieldLink RX6 31 "CakePapers$Paper" "needCount" "[I") (by decide +kernel)) (fun _ h9 => h9) rfl hin rfl (by decide +kernel) rfl rfl (Nat.le_of_ble_eq_true rfl) dX6_init_42 (fun H locs hP hD hS => ?_)
  have hP : va_P (dC, dI) vwCl [(h0, .inr (6, [.ref q_1, .ref q_2, .ref q_3, .ref q_4, .ref q_5, .null, .null, .null, .null, .int 0, .int 0, .int 0, .int 0, .int 0]))] H := hP
  have hD : va_D A [(h0, .inr (6, [.ref q_1, .ref q_2, .ref q_3, .ref q_4, .ref q_5, .null, .null, .null, .null, .int 0, .int 0, .int 0, .int 0, .int 0]))] := hD
  refine lv_aload_n hx hb dX6_init_45 rfl (lv_at hl 1 rfl) ?_
  refine lv_iload_n hx hb dX6_init_46 rfl (lv_at hl 0 rfl) ?_
  refine lv_iconst (v := 4) hx hb dX6_init_47 (by decide) ?_
  refine lv_imul hx hb dX6_init_48 ?_
  refine zz_ci (y := 144) (by decide) ?_
  refine va_newa (atype := .long) (ty := .long) (n := 144) (N' := 144) (a0 := (144, .inr (.inl (fun _ => 0)))) hx hb (hts (.arrayClass .long) (by decide +kernel)) rfl hK hP hD hS hA (fun _ => rfl) (by decide) (by decide) (by decide) (Nat.le_of_ble_eq_true rfl) (Nat.le_of_ble_eq_true rfl) dX6_init_49 (fun q_6 cA_6 H hK hP hD hS => ?_)
  have hK : va_K (dC, dI) vwCl [(cA_6, .long)] s := hK
  have hP : va_P (dC, dI) vwCl [(h0, .inr (6, [.ref q_1, .ref q_2, .ref q_3, .ref q_4, .ref q_5, .null, .null, .null, .null, .int 0, .int 0, .int 0, .int 0, .int 0])), (q_6, .inl (cA_6, 144, .inr (.inl (fun _ => 0))))] H := hP
  have hD : va_D A [(h0, .inr (6, [.ref q_1, .ref q_2, .ref q_3, .ref q_4, .ref q_5, .null, .null, .null, .null, .int 0, .int 0, .int 0, .int 0, .int 0])), (q_6, .inl (cA_6, 144, .inr (.inl (fun _ => 0))))] := hD
  refine W.widen (k := 6) (n := 324) (Nat.le_of_ble_eq_true rfl) (Nat.le_of_ble_eq_true rfl) ?_
  have hP := hP.sub (ws' := [(h0, .inr (6, [.ref q_1, .ref q_2, .ref q_3, .ref q_4, .ref q_5, .null, .null, .null, .null, .int 0, .int 0, .int 0, .int 0, .int 0]))]) [0] rfl
  have hD := hD.sub (ws' := [(h0, .inr (6, [.ref q_1, .ref q_2, .ref q_3, .ref q_4, .ref q_5, .null, .null, .null, .null, .int 0, .int 0, .int 0, .int 0, .int 0]))]) [0] (by decide) rfl
  have hK := hK.sub (tys' := []) [] rfl
  refine va_putF (D := (dC, dI)) (ci := 6) (v := .ref q_6) (ty := (.array .long)) (C := RX6) (T := TX6) (N := 14) hx hb hts hiX6 tyX6 tyX6_ok nmX6 hown hK hP hD hS 0 rfl rfl 5 (by decide) (hts (.fieldLink RX6 34 "CakePapers$Paper" "needs" "[J") (by decide +kernel)) (fun _ h9 => h9) rfl hin rfl (by decide +kernel) rfl rfl (Nat.le_of_ble_eq_true rfl) dX6_init_51 (fun H locs hP hD hS => ?_)
  have hP : va_P (dC, dI) vwCl [(h0, .inr (6, [.ref q_1, .ref q_2, .ref q_3, .ref q_4, .ref q_5, .ref q_6, .null, .null, .null, .int 0, .int 0, .int 0, .int 0, .int 0]))] H := hP
  have hD : va_D A [(h0, .inr (6, [.ref q_1, .ref q_2, .ref q_3, .ref q_4, .ref q_5, .ref q_6, .null, .null, .null, .int 0, .int 0, .int 0, .int 0, .int 0]))] := hD
  refine lv_aload_n hx hb dX6_init_54 rfl (lv_at hl 1 rfl) ?_
  refine lv_iload_n hx hb dX6_init_55 rfl (lv_at hl 0 rfl) ?_
  refine lv_iconst (v := 4) hx hb dX6_init_56 (by decide) ?_
  refine lv_imul hx hb dX6_init_57 ?_
  refine zz_ci (y := 144) (by decide) ?_
  refine va_newa (atype := .int) (ty := .int) (n := 144) (N' := 144) (a0 := (144, .inl (fun _ => 0))) hx hb (hts (.arrayClass .int) (by decide +kernel)) rfl hK hP hD hS hA (fun _ => rfl) (by decide) (by decide) (by decide) (Nat.le_of_ble_eq_true rfl) (Nat.le_of_ble_eq_true rfl) dX6_init_58 (fun q_7 cA_7 H hK hP hD hS => ?_)
  have hK : va_K (dC, dI) vwCl [(cA_7, .int)] s := hK
  have hP : va_P (dC, dI) vwCl [(h0, .inr (6, [.ref q_1, .ref q_2, .ref q_3, .ref q_4, .ref q_5, .ref q_6, .null, .null, .null, .int 0, .int 0, .int 0, .int 0, .int 0])), (q_7, .inl (cA_7, 144, .inl (fun _ => 0)))] H := hP
  have hD : va_D A [(h0, .inr (6, [.ref q_1, .ref q_2, .ref q_3, .ref q_4, .ref q_5, .ref q_6, .null, .null, .null, .int 0, .int 0, .int 0, .int 0, .int 0])), (q_7, .inl (cA_7, 144, .inl (fun _ => 0)))] := hD
  refine W.widen (k := 7) (n := 468) (Nat.le_of_ble_eq_true rfl) (Nat.le_of_ble_eq_true rfl) ?_
  have hP := hP.sub (ws' := [(h0, .inr (6, [.ref q_1, .ref q_2, .ref q_3, .ref q_4, .ref q_5, .ref q_6, .null, .null, .null, .int 0, .int 0, .int 0, .int 0, .int 0]))]) [0] rfl
  have hD := hD.sub (ws' := [(h0, .inr (6, [.ref q_1, .ref q_2, .ref q_3, .ref q_4, .ref q_5, .ref q_6, .null, .null, .null, .int 0, .int 0, .int 0, .int 0, .int 0]))]) [0] (by decide) rfl
  have hK := hK.sub (tys' := []) [] rfl
  refine va_putF (D := (dC, dI)) (ci := 6) (v := .ref q_7) (ty := (.array .int)) (C := RX6) (T := TX6) (N := 14) hx hb hts hiX6 tyX6 tyX6_ok nmX6 hown hK hP hD hS 0 rfl rfl 6 (by decide) (hts (.fieldLink RX6 37 "CakePapers$Paper" "makers" "[I") (by decide +kernel)) (fun _ h9 => h9) rfl hin rfl (by decide +kernel) rfl rfl (Nat.le_of_ble_eq_true rfl) dX6_init_60 (fun H locs hP hD hS => ?_)
  have hP : va_P (dC, dI) vwCl [(h0, .inr (6, [.ref q_1, .ref q_2, .ref q_3, .ref q_4, .ref q_5, .ref q_6, .ref q_7, .null, .null, .int 0, .int 0, .int 0, .int 0, .int 0]))] H := hP
  have hD : va_D A [(h0, .inr (6, [.ref q_1, .ref q_2, .ref q_3, .ref q_4, .ref q_5, .ref q_6, .ref q_7, .null, .null, .int 0, .int 0, .int 0, .int 0, .int 0]))] := hD
  refine lv_aload_n hx hb dX6_init_63 rfl (lv_at hl 1 rfl) ?_
  refine lv_iload_n hx hb dX6_init_64 rfl (lv_at hl 0 rfl) ?_
  refine va_newa (atype := .boolean) (ty := .boolean) (n := 36) (N' := 36) (a0 := (36, .inl (fun _ => 0))) hx hb (hts (.arrayClass .boolean) (by decide +kernel)) rfl hK hP hD hS hA (fun _ => rfl) (by decide) (by decide) (by decide) (Nat.le_of_ble_eq_true rfl) (Nat.le_of_ble_eq_true rfl) dX6_init_65 (fun q_8 cA_8 H hK hP hD hS => ?_)
  have hK : va_K (dC, dI) vwCl [(cA_8, .boolean)] s := hK
  have hP : va_P (dC, dI) vwCl [(h0, .inr (6, [.ref q_1, .ref q_2, .ref q_3, .ref q_4, .ref q_5, .ref q_6, .ref q_7, .null, .null, .int 0, .int 0, .int 0, .int 0, .int 0])), (q_8, .inl (cA_8, 36, .inl (fun _ => 0)))] H := hP
  have hD : va_D A [(h0, .inr (6, [.ref q_1, .ref q_2, .ref q_3, .ref q_4, .ref q_5, .ref q_6, .ref q_7, .null, .null, .int 0, .int 0, .int 0, .int 0, .int 0])), (q_8, .inl (cA_8, 36, .inl (fun _ => 0)))] := hD
  refine W.widen (k := 8) (n := 504) (Nat.le_of_ble_eq_true rfl) (Nat.le_of_ble_eq_true rfl) ?_
  have hP := hP.sub (ws' := [(h0, .inr (6, [.ref q_1, .ref q_2, .ref q_3, .ref q_4, .ref q_5, .ref q_6, .ref q_7, .null, .null, .int 0, .int 0, .int 0, .int 0, .int 0]))]) [0] rfl
  have hD := hD.sub (ws' := [(h0, .inr (6, [.ref q_1, .ref q_2, .ref q_3, .ref q_4, .ref q_5, .ref q_6, .ref q_7, .null, .null, .int 0, .int 0, .int 0, .int 0, .int 0]))]) [0] (by decide) rfl
  have hK := hK.sub (tys' := []) [] rfl
  refine va_putF (D := (dC, dI)) (ci := 6) (v := .ref q_8) (ty := (.array .boolean)) (C := RX6) (T := TX6) (N := 14) hx hb hts hiX6 tyX6 tyX6_ok nmX6 hown hK hP hD hS 0 rfl rfl 7 (by decide) (hts (.fieldLink RX6 40 "CakePapers$Paper" "isEnd" "[Z") (by decide +kernel)) (fun _ h9 => h9) rfl hin rfl (by decide +kernel) rfl rfl (Nat.le_of_ble_eq_true rfl) dX6_init_67 (fun H locs hP hD hS => ?_)
  have hP : va_P (dC, dI) vwCl [(h0, .inr (6, [.ref q_1, .ref q_2, .ref q_3, .ref q_4, .ref q_5, .ref q_6, .ref q_7, .ref q_8, .null, .int 0, .int 0, .int 0, .int 0, .int 0]))] H := hP
  have hD : va_D A [(h0, .inr (6, [.ref q_1, .ref q_2, .ref q_3, .ref q_4, .ref q_5, .ref q_6, .ref q_7, .ref q_8, .null, .int 0, .int 0, .int 0, .int 0, .int 0]))] := hD
  refine lv_aload_n hx hb dX6_init_70 rfl (lv_at hl 1 rfl) ?_
  refine lv_iload_n hx hb dX6_init_71 rfl (lv_at hl 0 rfl) ?_
  refine va_newa (atype := .int) (ty := .int) (n := 36) (N' := 36) (a0 := (36, .inl (fun _ => 0))) hx hb (hts (.arrayClass .int) (by decide +kernel)) rfl hK hP hD hS hA (fun _ => rfl) (by decide) (by decide) (by decide) (Nat.le_of_ble_eq_true rfl) (Nat.le_of_ble_eq_true rfl) dX6_init_72 (fun q_9 cA_9 H hK hP hD hS => ?_)
  have hK : va_K (dC, dI) vwCl [(cA_9, .int)] s := hK
  have hP : va_P (dC, dI) vwCl [(h0, .inr (6, [.ref q_1, .ref q_2, .ref q_3, .ref q_4, .ref q_5, .ref q_6, .ref q_7, .ref q_8, .null, .int 0, .int 0, .int 0, .int 0, .int 0])), (q_9, .inl (cA_9, 36, .inl (fun _ => 0)))] H := hP
  have hD : va_D A [(h0, .inr (6, [.ref q_1, .ref q_2, .ref q_3, .ref q_4, .ref q_5, .ref q_6, .ref q_7, .ref q_8, .null, .int 0, .int 0, .int 0, .int 0, .int 0])), (q_9, .inl (cA_9, 36, .inl (fun _ => 0)))] := hD
  refine W.widen (k := 9) (n := 540) (Nat.le_of_ble_eq_true rfl) (Nat.le_of_ble_eq_true rfl) ?_
  have hP := hP.sub (ws' := [(h0, .inr (6, [.ref q_1, .ref q_2, .ref q_3, .ref q_4, .ref q_5, .ref q_6, .ref q_7, .ref q_8, .null, .int 0, .int 0, .int 0, .int 0, .int 0]))]) [0] rfl
  have hD := hD.sub (ws' := [(h0, .inr (6, [.ref q_1, .ref q_2, .ref q_3, .ref q_4, .ref q_5, .ref q_6, .ref q_7, .ref q_8, .null, .int 0, .int 0, .int 0, .int 0, .int 0]))]) [0] (by decide) rfl
  have hK := hK.sub (tys' := []) [] rfl
  refine va_putF (D := (dC, dI)) (ci := 6) (v := .ref q_9) (ty := (.array .int)) (C := RX6) (T := TX6) (N := 14) hx hb hts hiX6 tyX6 tyX6_ok nmX6 hown hK hP hD hS 0 rfl rfl 8 (by decide) (hts (.fieldLink RX6 44 "CakePapers$Paper" "reach" "[I") (by decide +kernel)) (fun _ h9 => h9) rfl hin rfl (by decide +kernel) rfl rfl (Nat.le_of_ble_eq_true rfl) dX6_init_74 (fun H locs hP hD hS => ?_)
  have hP : va_P (dC, dI) vwCl [(h0, .inr (6, [.ref q_1, .ref q_2, .ref q_3, .ref q_4, .ref q_5, .ref q_6, .ref q_7, .ref q_8, .ref q_9, .int 0, .int 0, .int 0, .int 0, .int 0]))] H := hP
  have hD : va_D A [(h0, .inr (6, [.ref q_1, .ref q_2, .ref q_3, .ref q_4, .ref q_5, .ref q_6, .ref q_7, .ref q_8, .ref q_9, .int 0, .int 0, .int 0, .int 0, .int 0]))] := hD
  refine W.widen (k := 9) (n := 540) (Nat.le_of_ble_eq_true rfl) (Nat.le_of_ble_eq_true rfl) ?_
  have hP9 := hP.sub (ws' := [(h0, .inr (6, [.ref q_1, .ref q_2, .ref q_3, .ref q_4, .ref q_5, .ref q_6, .ref q_7, .ref q_8, .ref q_9, .int 0, .int 0, .int 0, .int 0, .int 0]))]) [0] rfl
  have hD9 := hD.sub (ws' := [(h0, .inr (6, [.ref q_1, .ref q_2, .ref q_3, .ref q_4, .ref q_5, .ref q_6, .ref q_7, .ref q_8, .ref q_9, .int 0, .int 0, .int 0, .int 0, .int 0]))]) [0] (by decide) rfl
  exact W.vret hx hb hr (fun t ht hW => ⟨⟨(), rfl, trivial, q_1, q_2, q_3, q_4, q_5, q_6, q_7, q_8, q_9, by rw [ht]; exact hP9, hD9⟩, hS.F ht⟩) hS.2.2 dX6_init_77
def u_c_X4_init : List Cond := .code yX4_init cX4_init 1 none :: ([.methodLink RX4 5 objectInit, .instanceMethod objectInit, .code objectInit ⟨#[0xb1]⟩ 1 none, .arrayClass .int, .fieldLink RX4 13 "CakePapers$Joining" "inBase" "[I", .fieldLink RX4 17 "CakePapers$Joining" "inOne" "[I", .fieldLink RX4 20 "CakePapers$Joining" "inOther" "[I", .fieldLink RX4 23 "CakePapers$Joining" "oneChanged" "[I", .fieldLink RX4 26 "CakePapers$Joining" "otherChanged" "[I", .fieldLink RX4 29 "CakePapers$Joining" "quarrelStep" "[I", .fieldLink RX4 32 "CakePapers$Joining" "quarrelField" "[I", .fieldLink RX4 35 "CakePapers$Joining" "sides" "[I"] ++ wsX40)
set_option maxHeartbeats 1000000 in
set_option maxRecDepth 100000 in
theorem c_X4_init (l : Launch) (dC : Nat → ClassId) (dI : Nat → Nat → Nat) (sz : Nat) (h0 : Nat) : Met l yX4_init u_c_X4_init ({ frames := 1, cells := 8, slots := 372, locals := 20 }) (va_Pc [.ref h0] (fun U => U.heap.size = sz ∧ va_P (dC, dI) vwCl [(h0, .inr (4, [.null, .null, .null, .null, .null, .null, .null, .null, .null, .null, .null, .int 0, .int 0]))] U.heap ∧ va_K (dC, dI) vwCl [] U ∧ va_D (fun _ => True) [(h0, .inr (4, [.null, .null, .null, .null, .null, .null, .null, .null, .null, .null, .null, .int 0, .int 0]))])) (va_Qv (fun (_ : Unit) => True) (fun _ t => ∃ (q_1 : Nat), ∃ (q_2 : Nat), ∃ (q_3 : Nat), ∃ (q_4 : Nat), ∃ (q_5 : Nat), ∃ (q_6 : Nat), ∃ (q_7 : Nat), ∃ (q_8 : Nat), va_P (dC, dI) vwCl [(h0, .inr (4, [.null, .null, .null, .ref q_1, .ref q_2, .ref q_3, .ref q_4, .ref q_5, .ref q_6, .ref q_7, .ref q_8, .int 0, .int 0]))] t.heap ∧ va_D (va_A [(h0, .inr (4, [.null, .null, .null, .null, .null, .null, .null, .null, .null, .null, .null, .int 0, .int 0]))] sz) [(h0, .inr (4, [.null, .null, .null, .ref q_1, .ref q_2, .ref q_3, .ref q_4, .ref q_5, .ref q_6, .ref q_7, .ref q_8, .int 0, .int 0]))]) (va_A [(h0, .inr (4, [.null, .null, .null, .null, .null, .null, .null, .null, .null, .null, .null, .int 0, .int 0]))] sz)) 8 372 (va_A [(h0, .inr (4, [.null, .null, .null, .null, .null, .null, .null, .null, .null, .null, .null, .int 0, .int 0]))] sz) := by
  refine Met.ofW (cc := cX4_init) (maxL := 1) (ret := none) (by decide) rfl ?_
  intro p e s m args below meth c s₁ B hml hv
  obtain ⟨rfl, hsz, hP, hK, hD0⟩ := hv
  have hx := B.exec
  have hb := B.bytes
  have hr := B.returns
  have hts := atoms_spec (ws := u_c_X4_init) B.pre
  have hown : s.vm.findClass RX4 = some m.cls := findClass_of_methodNamed B.named
  have hlocks := B.notSynchronized
  have hin : meth.name = "<init>" := (name_of_methodNamed B.named B.method).1
  have hiX4 : ∀ w ∈ wsX40, w ∈ u_c_X4_init := fun w h => List.mem_cons_of_mem _ (List.mem_append_right _ h)
  subst hsz
  have hD := hD0.self (sz := s.heap.size)
  generalize hAe : va_A [(h0, .inr (4, [.null, .null, .null, .null, .null, .null, .null, .null, .null, .null, .null, .int 0, .int 0]))] s.heap.size = A at hD ⊢
  have hA : ∀ q : Nat, s.heap.size ≤ q → A q := fun q h => by rw [← hAe]; exact Or.inr h
  have hS : va_S A s.heap s.heap [] := va_S.rf
  obtain ⟨H, hH⟩ : ∃ H : Heap, H = s.heap := ⟨_, rfl⟩
  have hP : va_P (dC, dI) vwCl [(h0, .inr (4, [.null, .null, .null, .null, .null, .null, .null, .null, .null, .null, .null, .int 0, .int 0]))] H := by rw [hH]; exact hP
  have hS : va_S A s.heap H [] := by rw [hH]; exact hS
  have hl := lv_entry ([.ref h0]) (n := 1) (Nat.le_of_ble_eq_true rfl)
  rw [lg_entry_eq]
  generalize (lg_sl ([.ref h0]) ++ List.replicate (1 - (lg_sl ([.ref h0])).length) Slot.unset).toArray = ls at hl ⊢
  have hl : lv_has ls 1 [(0, .ref h0)] := hl
  suffices h9 : W p l e (headSpec u_c_X4_init _).room s m _ below meth c H [] 0 0 _ (F0 m 0 ls []) by rw [hH] at h9; exact h9
  refine lv_aload_n hx hb dX4_init_0 rfl (lv_at hl 0 rfl) ?_
  refine W.objInit hx hb hown (hts (.methodLink RX4 5 objectInit) (by decide +kernel)) (hts (.instanceMethod objectInit) (by decide +kernel)) (hts (.code objectInit ⟨#[0xb1]⟩ 1 none) (by decide +kernel)) rfl (by rw [hml]; exact hl.1) rfl dX4_init_1 (Nat.le_of_ble_eq_true rfl) (Nat.le_of_ble_eq_true rfl) ?_
  refine W.eq (g2 := F0 m 4 ls []) rfl ?_
  refine lv_aload_n hx hb dX4_init_4 rfl (lv_at hl 0 rfl) ?_
  refine lv_bipush (v := 36) hx hb dX4_init_5 (by decide) ?_
  refine va_newa (atype := .int) (ty := .int) (n := 36) (N' := 36) (a0 := (36, .inl (fun _ => 0))) hx hb (hts (.arrayClass .int) (by decide +kernel)) rfl hK hP hD hS hA (fun _ => rfl) (by decide) (by decide) (by decide) (Nat.le_of_ble_eq_true rfl) (Nat.le_of_ble_eq_true rfl) dX4_init_7 (fun q_1 cA_1 H hK hP hD hS => ?_)
  have hK : va_K (dC, dI) vwCl [(cA_1, .int)] s := hK
  have hP : va_P (dC, dI) vwCl [(h0, .inr (4, [.null, .null, .null, .null, .null, .null, .null, .null, .null, .null, .null, .int 0, .int 0])), (q_1, .inl (cA_1, 36, .inl (fun _ => 0)))] H := hP
  have hD : va_D A [(h0, .inr (4, [.null, .null, .null, .null, .null, .null, .null, .null, .null, .null, .null, .int 0, .int 0])), (q_1, .inl (cA_1, 36, .inl (fun _ => 0)))] := hD
  refine W.widen (k := 1) (n := 36) (Nat.le_of_ble_eq_true rfl) (Nat.le_of_ble_eq_true rfl) ?_
  have hP := hP.sub (ws' := [(h0, .inr (4, [.null, .null, .null, .null, .null, .null, .null, .null, .null, .null, .null, .int 0, .int 0]))]) [0] rfl
  have hD := hD.sub (ws' := [(h0, .inr (4, [.null, .null, .null, .null, .null, .null, .null, .null, .null, .null, .null, .int 0, .int 0]))]) [0] (by decide) rfl
  have hK := hK.sub (tys' := []) [] rfl
  refine va_putF (D := (dC, dI)) (ci := 4) (v := .ref q_1) (ty := (.array .int)) (C := RX4) (T := TX4) (N := 13) hx hb hts hiX4 tyX4 tyX4_ok nmX4 hown hK hP hD hS 0 rfl rfl 3 (by decide) (hts (.fieldLink RX4 13 "CakePapers$Joining" "inBase" "[I") (by decide +kernel)) (fun _ h9 => h9) rfl hin rfl (by decide +kernel) rfl rfl (Nat.le_of_ble_eq_true rfl) dX4_init_9 (fun H locs hP hD hS => ?_)
  have hP : va_P (dC, dI) vwCl [(h0, .inr (4, [.null, .null, .null, .ref q_1, .null, .null, .null, .null, .null, .null, .null, .int 0, .int 0]))] H := hP
  have hD : va_D A [(h0, .inr (4, [.null, .null, .null, .ref q_1, .null, .null, .null, .null, .null, .null, .null, .int 0, .int 0]))] := hD
  refine lv_aload_n hx hb dX4_init_12 rfl (lv_at hl 0 rfl) ?_
  refine lv_bipush (v := 36) hx hb dX4_init_13 (by decide) ?_
  refine va_newa (atype := .int) (ty := .int) (n := 36) (N' := 36) (a0 := (36, .inl (fun _ => 0))) hx hb (hts (.arrayClass .int) (by decide +kernel)) rfl hK hP hD hS hA (fun _ => rfl) (by decide) (by decide) (by decide) (Nat.le_of_ble_eq_true rfl) (Nat.le_of_ble_eq_true rfl) dX4_init_15 (fun q_2 cA_2 H hK hP hD hS => ?_)
  have hK : va_K (dC, dI) vwCl [(cA_2, .int)] s := hK
  have hP : va_P (dC, dI) vwCl [(h0, .inr (4, [.null, .null, .null, .ref q_1, .null, .null, .null, .null, .null, .null, .null, .int 0, .int 0])), (q_2, .inl (cA_2, 36, .inl (fun _ => 0)))] H := hP
  have hD : va_D A [(h0, .inr (4, [.null, .null, .null, .ref q_1, .null, .null, .null, .null, .null, .null, .null, .int 0, .int 0])), (q_2, .inl (cA_2, 36, .inl (fun _ => 0)))] := hD
  refine W.widen (k := 2) (n := 72) (Nat.le_of_ble_eq_true rfl) (Nat.le_of_ble_eq_true rfl) ?_
  have hP := hP.sub (ws' := [(h0, .inr (4, [.null, .null, .null, .ref q_1, .null, .null, .null, .null, .null, .null, .null, .int 0, .int 0]))]) [0] rfl
  have hD := hD.sub (ws' := [(h0, .inr (4, [.null, .null, .null, .ref q_1, .null, .null, .null, .null, .null, .null, .null, .int 0, .int 0]))]) [0] (by decide) rfl
  have hK := hK.sub (tys' := []) [] rfl
  refine va_putF (D := (dC, dI)) (ci := 4) (v := .ref q_2) (ty := (.array .int)) (C := RX4) (T := TX4) (N := 13) hx hb hts hiX4 tyX4 tyX4_ok nmX4 hown hK hP hD hS 0 rfl rfl 4 (by decide) (hts (.fieldLink RX4 17 "CakePapers$Joining" "inOne" "[I") (by decide +kernel)) (fun _ h9 => h9) rfl hin rfl (by decide +kernel) rfl rfl (Nat.le_of_ble_eq_true rfl) dX4_init_17 (fun H locs hP hD hS => ?_)
  have hP : va_P (dC, dI) vwCl [(h0, .inr (4, [.null, .null, .null, .ref q_1, .ref q_2, .null, .null, .null, .null, .null, .null, .int 0, .int 0]))] H := hP
  have hD : va_D A [(h0, .inr (4, [.null, .null, .null, .ref q_1, .ref q_2, .null, .null, .null, .null, .null, .null, .int 0, .int 0]))] := hD
  refine lv_aload_n hx hb dX4_init_20 rfl (lv_at hl 0 rfl) ?_
  refine lv_bipush (v := 36) hx hb dX4_init_21 (by decide) ?_
  refine va_newa (atype := .int) (ty := .int) (n := 36) (N' := 36) (a0 := (36, .inl (fun _ => 0))) hx hb (hts (.arrayClass .int) (by decide +kernel)) rfl hK hP hD hS hA (fun _ => rfl) (by decide) (by decide) (by decide) (Nat.le_of_ble_eq_true rfl) (Nat.le_of_ble_eq_true rfl) dX4_init_23 (fun q_3 cA_3 H hK hP hD hS => ?_)
  have hK : va_K (dC, dI) vwCl [(cA_3, .int)] s := hK
  have hP : va_P (dC, dI) vwCl [(h0, .inr (4, [.null, .null, .null, .ref q_1, .ref q_2, .null, .null, .null, .null, .null, .null, .int 0, .int 0])), (q_3, .inl (cA_3, 36, .inl (fun _ => 0)))] H := hP
  have hD : va_D A [(h0, .inr (4, [.null, .null, .null, .ref q_1, .ref q_2, .null, .null, .null, .null, .null, .null, .int 0, .int 0])), (q_3, .inl (cA_3, 36, .inl (fun _ => 0)))] := hD
  refine W.widen (k := 3) (n := 108) (Nat.le_of_ble_eq_true rfl) (Nat.le_of_ble_eq_true rfl) ?_
  have hP := hP.sub (ws' := [(h0, .inr (4, [.null, .null, .null, .ref q_1, .ref q_2, .null, .null, .null, .null, .null, .null, .int 0, .int 0]))]) [0] rfl
  have hD := hD.sub (ws' := [(h0, .inr (4, [.null, .null, .null, .ref q_1, .ref q_2, .null, .null, .null, .null, .null, .null, .int 0, .int 0]))]) [0] (by decide) rfl
  have hK := hK.sub (tys' := []) [] rfl
  refine va_putF (D := (dC, dI)) (ci := 4) (v := .ref q_3) (ty := (.array .int)) (C := RX4) (T := TX4) (N := 13) hx hb hts hiX4 tyX4 tyX4_ok nmX4 hown hK hP hD hS 0 rfl rfl 5 (by decide) (hts (.fieldLink RX4 20 "CakePapers$Joining" "inOther" "[I") (by decide +kernel)) (fun _ h9 => h9) rfl hin rfl (by decide +kernel) rfl rfl (Nat.le_of_ble_eq_true rfl) dX4_init_25 (fun H locs hP hD hS => ?_)
  have hP : va_P (dC, dI) vwCl [(h0, .inr (4, [.null, .null, .null, .ref q_1, .ref q_2, .ref q_3, .null, .null, .null, .null, .null, .int 0, .int 0]))] H := hP
  have hD : va_D A [(h0, .inr (4, [.null, .null, .null, .ref q_1, .ref q_2, .ref q_3, .null, .null, .null, .null, .null, .int 0, .int 0]))] := hD
  refine lv_aload_n hx hb dX4_init_28 rfl (lv_at hl 0 rfl) ?_
  refine lv_bipush (v := 36) hx hb dX4_init_29 (by decide) ?_
  refine va_newa (atype := .int) (ty := .int) (n := 36) (N' := 36) (a0 := (36, .inl (fun _ => 0))) hx hb (hts (.arrayClass .int) (by decide +kernel)) rfl hK hP hD hS hA (fun _ => rfl) (by decide) (by decide) (by decide) (Nat.le_of_ble_eq_true rfl) (Nat.le_of_ble_eq_true rfl) dX4_init_31 (fun q_4 cA_4 H hK hP hD hS => ?_)
  have hK : va_K (dC, dI) vwCl [(cA_4, .int)] s := hK
  have hP : va_P (dC, dI) vwCl [(h0, .inr (4, [.null, .null, .null, .ref q_1, .ref q_2, .ref q_3, .null, .null, .null, .null, .null, .int 0, .int 0])), (q_4, .inl (cA_4, 36, .inl (fun _ => 0)))] H := hP
  have hD : va_D A [(h0, .inr (4, [.null, .null, .null, .ref q_1, .ref q_2, .ref q_3, .null, .null, .null, .null, .null, .int 0, .int 0])), (q_4, .inl (cA_4, 36, .inl (fun _ => 0)))] := hD
  refine W.widen (k := 4) (n := 144) (Nat.le_of_ble_eq_true rfl) (Nat.le_of_ble_eq_true rfl) ?_
  have hP := hP.sub (ws' := [(h0, .inr (4, [.null, .null, .null, .ref q_1, .ref q_2, .ref q_3, .null, .null, .null, .null, .null, .int 0, .int 0]))]) [0] rfl
  have hD := hD.sub (ws' := [(h0, .inr (4, [.null, .null, .null, .ref q_1, .ref q_2, .ref q_3, .null, .null, .null, .null, .null, .int 0, .int 0]))]) [0] (by decide) rfl
  have hK := hK.sub (tys' := []) [] rfl
  refine va_putF (D := (dC, dI)) (ci := 4) (v := .ref q_4) (ty := (.array .int)) (C := RX4) (T := TX4) (N := 13) hx hb hts hiX4 tyX4 tyX4_ok nmX4 hown hK hP hD hS 0 rfl rfl 6 (by decide) (hts (.fieldLink RX4 23 "CakePapers$Joining" "oneChanged" "[I") (by decide +kernel)) (fun _ h9 => h9) rfl hin rfl (by decide +kernel) rfl rfl (Nat.le_of_ble_eq_true rfl) dX4_init_33 (fun H locs hP hD hS => ?_)
  have hP : va_P (dC, dI) vwCl [(h0, .inr (4, [.null, .null, .null, .ref q_1, .ref q_2, .ref q_3, .ref q_4, .null, .null, .null, .null, .int 0, .int 0]))] H := hP
  have hD : va_D A [(h0, .inr (4, [.null, .null, .null, .ref q_1, .ref q_2, .ref q_3, .ref q_4, .null, .null, .null, .null, .int 0, .int 0]))] := hD
  refine lv_aload_n hx hb dX4_init_36 rfl (lv_at hl 0 rfl) ?_
  refine lv_bipush (v := 36) hx hb dX4_init_37 (by decide) ?_
  refine va_newa (atype := .int) (ty := .int) (n := 36) (N' := 36) (a0 := (36, .inl (fun _ => 0))) hx hb (hts (.arrayClass .int) (by decide +kernel)) rfl hK hP hD hS hA (fun _ => rfl) (by decide) (by decide) (by decide) (Nat.le_of_ble_eq_true rfl) (Nat.le_of_ble_eq_true rfl) dX4_init_39 (fun q_5 cA_5 H hK hP hD hS => ?_)
  have hK : va_K (dC, dI) vwCl [(cA_5, .int)] s := hK
  have hP : va_P (dC, dI) vwCl [(h0, .inr (4, [.null, .null, .null, .ref q_1, .ref q_2, .ref q_3, .ref q_4, .null, .null, .null, .null, .int 0, .int 0])), (q_5, .inl (cA_5, 36, .inl (fun _ => 0)))] H := hP
  have hD : va_D A [(h0, .inr (4, [.null, .null, .null, .ref q_1, .ref q_2, .ref q_3, .ref q_4, .null, .null, .null, .null, .int 0, .int 0])), (q_5, .inl (cA_5, 36, .inl (fun _ => 0)))] := hD
  refine W.widen (k := 5) (n := 180) (Nat.le_of_ble_eq_true rfl) (Nat.le_of_ble_eq_true rfl) ?_
  have hP := hP.sub (ws' := [(h0, .inr (4, [.null, .null, .null, .ref q_1, .ref q_2, .ref q_3, .ref q_4, .null, .null, .null, .null, .int 0, .int 0]))]) [0] rfl
  have hD := hD.sub (ws' := [(h0, .inr (4, [.null, .null, .null, .ref q_1, .ref q_2, .ref q_3, .ref q_4, .null, .null, .null, .null, .int 0, .int 0]))]) [0] (by decide) rfl
  have hK := hK.sub (tys' := []) [] rfl
  refine va_putF (D := (dC, dI)) (ci := 4) (v := .ref q_5) (ty := (.array .int)) (C := RX4) (T := TX4) (N := 13) hx hb hts hiX4 tyX4 tyX4_ok nmX4 hown hK hP hD hS 0 rfl rfl 7 (by decide) (hts (.fieldLink RX4 26 "CakePapers$Joining" "otherChanged" "[I") (by decide +kernel)) (fun _ h9 => h9) rfl hin rfl (by decide +kernel) rfl rfl (Nat.le_of_ble_eq_true rfl) dX4_init_41 (fun H locs hP hD hS => ?_)
  have hP : va_P (dC, dI) vwCl [(h0, .inr (4, [.null, .null, .null, .ref q_1, .ref q_2, .ref q_3, .ref q_4, .ref q_5, .null, .null, .null, .int 0, .int 0]))] H := hP
  have hD : va_D A [(h0, .inr (4, [.null, .null, .null, .ref q_1, .ref q_2, .ref q_3, .ref q_4, .ref q_5, .null, .null, .null, .int 0, .int 0]))] := hD
  refine lv_aload_n hx hb dX4_init_44 rfl (lv_at hl 0 rfl) ?_
  refine lv_bipush (v := 64) hx hb dX4_init_45 (by decide) ?_
  refine va_newa (atype := .int) (ty := .int) (n := 64) (N' := 64) (a0 := (64, .inl (fun _ => 0))) hx hb (hts (.arrayClass .int) (by decide +kernel)) rfl hK hP hD hS hA (fun _ => rfl) (by decide) (by decide) (by decide) (Nat.le_of_ble_eq_true rfl) (Nat.le_of_ble_eq_true rfl) dX4_init_47 (fun q_6 cA_6 H hK hP hD hS => ?_)
  have hK : va_K (dC, dI) vwCl [(cA_6, .int)] s := hK
  have hP : va_P (dC, dI) vwCl [(h0, .inr (4, [.null, .null, .null, .ref q_1, .ref q_2, .ref q_3, .ref q_4, .ref q_5, .null, .null, .null, .int 0, .int 0])), (q_6, .inl (cA_6, 64, .inl (fun _ => 0)))] H := hP
  have hD : va_D A [(h0, .inr (4, [.null, .null, .null, .ref q_1, .ref q_2, .ref q_3, .ref q_4, .ref q_5, .null, .null, .null, .int 0, .int 0])), (q_6, .inl (cA_6, 64, .inl (fun _ => 0)))] := hD
  refine W.widen (k := 6) (n := 244) (Nat.le_of_ble_eq_true rfl) (Nat.le_of_ble_eq_true rfl) ?_
  have hP := hP.sub (ws' := [(h0, .inr (4, [.null, .null, .null, .ref q_1, .ref q_2, .ref q_3, .ref q_4, .ref q_5, .null, .null, .null, .int 0, .int 0]))]) [0] rfl
  have hD := hD.sub (ws' := [(h0, .inr (4, [.null, .null, .null, .ref q_1, .ref q_2, .ref q_3, .ref q_4, .ref q_5, .null, .null, .null, .int 0, .int 0]))]) [0] (by decide) rfl
  have hK := hK.sub (tys' := []) [] rfl
  refine va_putF (D := (dC, dI)) (ci := 4) (v := .ref q_6) (ty := (.array .int)) (C := RX4) (T := TX4) (N := 13) hx hb hts hiX4 tyX4 tyX4_ok nmX4 hown hK hP hD hS 0 rfl rfl 8 (by decide) (hts (.fieldLink RX4 29 "CakePapers$Joining" "quarrelStep" "[I") (by decide +kernel)) (fun _ h9 => h9) rfl hin rfl (by decide +kernel) rfl rfl (Nat.le_of_ble_eq_true rfl) dX4_init_49 (fun H locs hP hD hS => ?_)
  have hP : va_P (dC, dI) vwCl [(h0, .inr (4, [.null, .null, .null, .ref q_1, .ref q_2, .ref q_3, .ref q_4, .ref q_5, .ref q_6, .null, .null, .int 0, .int 0]))] H := hP
  have hD : va_D A [(h0, .inr (4, [.null, .null, .null, .ref q_1, .ref q_2, .ref q_3, .ref q_4, .ref q_5, .ref q_6, .null, .null, .int 0, .int 0]))] := hD
  refine lv_aload_n hx hb dX4_init_52 rfl (lv_at hl 0 rfl) ?_
  refine lv_bipush (v := 64) hx hb dX4_init_53 (by decide) ?_
  refine va_newa (atype := .int) (ty := .int) (n := 64) (N' := 64) (a0 := (64, .inl (fun _ => 0))) hx hb (hts (.arrayClass .int) (by decide +kernel)) rfl hK hP hD hS hA (fun _ => rfl) (by decide) (by decide) (by decide) (Nat.le_of_ble_eq_true rfl) (Nat.le_of_ble_eq_true rfl) dX4_init_55 (fun q_7 cA_7 H hK hP hD hS => ?_)
  have hK : va_K (dC, dI) vwCl [(cA_7, .int)] s := hK
  have hP : va_P (dC, dI) vwCl [(h0, .inr (4, [.null, .null, .null, .ref q_1, .ref q_2, .ref q_3, .ref q_4, .ref q_5, .ref q_6, .null, .null, .int 0, .int 0])), (q_7, .inl (cA_7, 64, .inl (fun _ => 0)))] H := hP
  have hD : va_D A [(h0, .inr (4, [.null, .null, .null, .ref q_1, .ref q_2, .ref q_3, .ref q_4, .ref q_5, .ref q_6, .null, .null, .int 0, .int 0])), (q_7, .inl (cA_7, 64, .inl (fun _ => 0)))] := hD
  refine W.widen (k := 7) (n := 308) (Nat.le_of_ble_eq_true rfl) (Nat.le_of_ble_eq_true rfl) ?_
  have hP := hP.sub (ws' := [(h0, .inr (4, [.null, .null, .null, .ref q_1, .ref q_2, .ref q_3, .ref q_4, .ref q_5, .ref q_6, .null, .null, .int 0, .int 0]))]) [0] rfl
  have hD := hD.sub (ws' := [(h0, .inr (4, [.null, .null, .null, .ref q_1, .ref q_2, .ref q_3, .ref q_4, .ref q_5, .ref q_6, .null, .null, .int 0, .int 0]))]) [0] (by decide) rfl
  have hK := hK.sub (tys' := []) [] rfl
  refine va_putF (D := (dC, dI)) (ci := 4) (v := .ref q_7) (ty := (.array .int)) (C := RX4) (T := TX4) (N := 13) hx hb hts hiX4 tyX4 tyX4_ok nmX4 hown hK hP hD hS 0 rfl rfl 9 (by decide) (hts (.fieldLink RX4 32 "CakePapers$Joining" "quarrelField" "[I") (by decide +kernel)) (fun _ h9 => h9) rfl hin rfl (by decide +kernel) rfl rfl (Nat.le_of_ble_eq_true rfl) dX4_init_57 (fun H locs hP hD hS => ?_)
  have hP : va_P (dC, dI) vwCl [(h0, .inr (4, [.null, .null, .null, .ref q_1, .ref q_2, .ref q_3, .ref q_4, .ref q_5, .ref q_6, .ref q_7, .null, .int 0, .int 0]))] H := hP
  have hD : va_D A [(h0, .inr (4, [.null, .null, .null, .ref q_1, .ref q_2, .ref q_3, .ref q_4, .ref q_5, .ref q_6, .ref q_7, .null, .int 0, .int 0]))] := hD
  refine lv_aload_n hx hb dX4_init_60 rfl (lv_at hl 0 rfl) ?_
  refine lv_bipush (v := 64) hx hb dX4_init_61 (by decide) ?_
  refine va_newa (atype := .int) (ty := .int) (n := 64) (N' := 64) (a0 := (64, .inl (fun _ => 0))) hx hb (hts (.arrayClass .int) (by decide +kernel)) rfl hK hP hD hS hA (fun _ => rfl) (by decide) (by decide) (by decide) (Nat.le_of_ble_eq_true rfl) (Nat.le_of_ble_eq_true rfl) dX4_init_63 (fun q_8 cA_8 H hK hP hD hS => ?_)
  have hK : va_K (dC, dI) vwCl [(cA_8, .int)] s := hK
  have hP : va_P (dC, dI) vwCl [(h0, .inr (4, [.null, .null, .null, .ref q_1, .ref q_2, .ref q_3, .ref q_4, .ref q_5, .ref q_6, .ref q_7, .null, .int 0, .int 0])), (q_8, .inl (cA_8, 64, .inl (fun _ => 0)))] H := hP
  have hD : va_D A [(h0, .inr (4, [.null, .null, .null, .ref q_1, .ref q_2, .ref q_3, .ref q_4, .ref q_5, .ref q_6, .ref q_7, .null, .int 0, .int 0])), (q_8, .inl (cA_8, 64, .inl (fun _ => 0)))] := hD
  refine W.widen (k := 8) (n := 372) (Nat.le_of_ble_eq_true rfl) (Nat.le_of_ble_eq_true rfl) ?_
  have hP := hP.sub (ws' := [(h0, .inr (4, [.null, .null, .null, .ref q_1, .ref q_2, .ref q_3, .ref q_4, .ref q_5, .ref q_6, .ref q_7, .null, .int 0, .int 0]))]) [0] rfl
  have hD := hD.sub (ws' := [(h0, .inr (4, [.null, .null, .null, .ref q_1, .ref q_2, .ref q_3, .ref q_4, .ref q_5, .ref q_6, .ref q_7, .null, .int 0, .int 0]))]) [0] (by decide) rfl
  have hK := hK.sub (tys' := []) [] rfl
  refine va_putF (D := (dC, dI)) (ci := 4) (v := .ref q_8) (ty := (.array .int)) (C := RX4) (T := TX4) (N := 13) hx hb hts hiX4 tyX4 tyX4_ok nmX4 hown hK hP hD hS 0 rfl rfl 10 (by decide) (hts (.fieldLink RX4 35 "CakePapers$Joining" "sides" "[I") (by decide +kernel)) (fun _ h9 => h9) rfl hin rfl (by decide +kernel) rfl rfl (Nat.le_of_ble_eq_true rfl) dX4_init_65 (fun H locs hP hD hS => ?_)
  have hP : va_P (dC, dI) vwCl [(h0, .inr (4, [.null, .null, .null, .ref q_1, .ref q_2, .ref q_3, .ref q_4, .ref q_5, .ref q_6, .ref q_7, .ref q_8, .int 0, .int 0]))] H := hP
  have hD : va_D A [(h0, .inr (4, [.null, .null, .null, .ref q_1, .ref q_2, .ref q_3, .ref q_4, .ref q_5, .ref q_6, .ref q_7, .ref q_8, .int 0, .int 0]))] := hD
  refine W.widen (k := 8) (n := 372) (Nat.le_of_ble_eq_true rfl) (Nat.le_of_ble_eq_true rfl) ?_
  have hP9 := hP.sub (ws' := [(h0, .inr (4, [.null, .null, .null, .ref q_1, .ref q_2, .ref q_3, .ref q_4, .ref q_5, .ref q_6, .ref q_7, .ref q_8, .int 0, .int 0]))]) [0] rfl
  have hD9 := hD.sub (ws' := [(h0, .inr (4, [.null, .null, .null, .ref q_1, .ref q_2, .ref q_3, .ref q_4, .ref q_5, .ref q_6, .ref q_7, .ref q_8, .int 0, .int 0]))]) [0] (by decide) rfl
  exact W.vret hx hb hr (fun t ht hW => ⟨⟨(), rfl, trivial, q_1, q_2, q_3, q_4, q_5, q_6, q_7, q_8, by rw [ht]; exact hP9, hD9⟩, hS.F ht⟩) hS.2.2 dX4_init_68
def u_c_X1_init : List Cond := .code yX1_init cX1_init 1 none :: ([.methodLink RX1 3 objectInit, .instanceMethod objectInit, .code objectInit ⟨#[0xb1]⟩ 1 none, .classLink RX1 11 RX6, .arrayOver (.object RX6), .fieldLink RX1 13 "CakePapers$Desk" "papers" "[LCakePapers$Paper;", .classLink RX1 17 RX4, .instantiable RX4 13, .initialized RX4, .code yX4_init cX4_init 1 none, .methodLink RX4 5 objectInit, .arrayClass .int, .fieldLink RX4 13 "CakePapers$Joining" "inBase" "[I", .fieldLink RX4 17 "CakePapers$Joining" "inOne" "[I", .fieldLink RX4 20 "CakePapers$Joining" "inOther" "[I", .fieldLink RX4 23 "CakePapers$Joining" "oneChanged" "[I", .fieldLink RX4 26 "CakePapers$Joining" "otherChanged" "[I", .fieldLink RX4 29 "CakePapers$Joining" "quarrelStep" "[I", .fieldLink RX4 32 "CakePapers$Joining" "quarrelField" "[I", .fieldLink RX4 35 "CakePapers$Joining" "sides" "[I", .methodLink RX1 19 yX4_init, .instanceMethod yX4_init, .fieldLink RX1 20 "CakePapers$Desk" "joining" "LCakePapers$Joining;", .fieldLink RX1 24 "CakePapers$Desk" "count" "I"] ++ wsX10 ++ wsX40)
set_option maxRecDepth 20000 in
theorem g_c_X1_init_c_X4_init_0 : GoodIn u_c_X1_init (u_c_X4_init) := goodIn_of _ (by decide +kernel)
set_option maxHeartbeats 1000000 in
set_option maxRecDepth 100000 in
theorem c_X1_init (l : Launch) (dC : Nat → ClassId) (dI : Nat → Nat → Nat) (sz : Nat) (h0 : Nat) : Met l yX1_init u_c_X1_init ({ frames := 2, cells := 10, slots := 393, locals := 40 }) (va_Pc [.ref h0] (fun U => U.heap.size = sz ∧ va_P (dC, dI) vwCl [(h0, .inr (1, [.null, .null, .int 0]))] U.heap ∧ va_K (dC, dI) vwCl [] U ∧ va_D (fun _ => True) [(h0, .inr (1, [.null, .null, .int 0]))])) (va_Qv (fun (_ : Unit) => True) (fun _ t => ∃ (q_1 : Nat), ∃ (q_2 : Nat), ∃ (cA_1 : ClassId), ∃ (q_1_3 : Nat), ∃ (q_2_3 : Nat), ∃ (q_3_3 : Nat), ∃ (q_4_3 : Nat), ∃ (q_5_3 : Nat), ∃ (q_6_3 : Nat), ∃ (q_7_3 : Nat), ∃ (q_8_3 : Nat), va_P (dC, dI) vwCl [(h0, .inr (1, [.ref q_1, .ref q_2, .int (-1)])), (q_1, .inl (cA_1, 8, .inr (.inr (.inr (.inr (fun _ => none)))))), (q_2, .inr (4, [.null, .null, .null, .ref q_1_3, .ref q_2_3, .ref q_3_3, .ref q_4_3, .ref q_5_3, .ref q_6_3, .ref q_7_3, .ref q_8_3, .int 0, .int 0]))] t.heap ∧ va_K (dC, dI) vwCl [(cA_1, (.object RX6))] t ∧ va_D (va_A [(h0, .inr (1, [.null, .null, .int 0]))] sz) [(h0, .inr (1, [.ref q_1, .ref q_2, .int (-1)])), (q_1, .inl (cA_1, 8, .inr (.inr (.inr (.inr (fun _ => none)))))), (q_2, .inr (4, [.null, .null, .null, .ref q_1_3, .ref q_2_3, .ref q_3_3, .ref q_4_3, .ref q_5_3, .ref q_6_3, .ref q_7_3, .ref q_8_3, .int 0, .int 0]))]) (va_A [(h0, .inr (1, [.null, .null, .int 0]))] sz)) 10 393 (va_A [(h0, .inr (1, [.null, .null, .int 0]))] sz) := by
  refine Met.ofW (cc := cX1_init) (maxL := 1) (ret := none) (by decide) rfl ?_
  intro p e s m args below meth c s₁ B hml hv
  obtain ⟨rfl, hsz, hP, hK, hD0⟩ := hv
  have hx := B.exec
  have hb := B.bytes
  have hr := B.returns
  have hts := atoms_spec (ws := u_c_X1_init) B.pre
  have hown : s.vm.findClass RX1 = some m.cls := findClass_of_methodNamed B.named
  have hlocks := B.notSynchronized
  have hin : meth.name = "<init>" := (name_of_methodNamed B.named B.method).1
  have hiX1 : ∀ w ∈ wsX10, w ∈ u_c_X1_init := fun w h => List.mem_cons_of_mem _ (List.mem_append_left _ (List.mem_append_right _ h))
  have hiX4 : ∀ w ∈ wsX40, w ∈ u_c_X1_init := fun w h => List.mem_cons_of_mem _ (List.mem_append_right _ h)
  subst hsz
  have hD := hD0.self (sz := s.heap.size)
  generalize hAe : va_A [(h0, .inr (1, [.null, .null, .int 0]))] s.heap.size = A at hD ⊢
  have hA : ∀ q : Nat, s.heap.size ≤ q → A q := fun q h => by rw [← hAe]; exact Or.inr h
  have hS : va_S A s.heap s.heap [] := va_S.rf
  obtain ⟨H, hH⟩ : ∃ H : Heap, H = s.heap := ⟨_, rfl⟩
  have hP : va_P (dC, dI) vwCl [(h0, .inr (1, [.null, .null, .int 0]))] H := by rw [hH]; exact hP
  have hS : va_S A s.heap H [] := by rw [hH]; exact hS
  have hl := lv_entry ([.ref h0]) (n := 1) (Nat.le_of_ble_eq_true rfl)
  rw [lg_entry_eq]
  generalize (lg_sl ([.ref h0]) ++ List.replicate (1 - (lg_sl ([.ref h0])).length) Slot.unset).toArray = ls at hl ⊢
  have hl : lv_has ls 1 [(0, .ref h0)] := hl
  suffices h9 : W p l e (headSpec u_c_X1_init _).room s m _ below meth c H [] 0 0 _ (F0 m 0 ls []) by rw [hH] at h9; exact h9
  refine lv_aload_n hx hb dX1_init_0 rfl (lv_at hl 0 rfl) ?_
  refine W.objInit hx hb hown (hts (.methodLink RX1 3 objectInit) (by decide +kernel)) (hts (.instanceMethod objectInit) (by decide +kernel)) (hts (.code objectInit ⟨#[0xb1]⟩ 1 none) (by decide +kernel)) rfl (by rw [hml]; exact hl.1) rfl dX1_init_1 (Nat.le_of_ble_eq_true rfl) (Nat.le_of_ble_eq_true rfl) ?_
  refine W.eq (g2 := F0 m 4 ls []) rfl ?_
  refine lv_aload_n hx hb dX1_init_4 rfl (lv_at hl 0 rfl) ?_
  refine lv_bipush (v := 8) hx hb dX1_init_5 (by decide) ?_
  refine va_newq (C := RX6) (N' := 8) hx hb hown (hts (.classLink RX1 11 RX6) (by decide +kernel)) (va_AO.of (hts (.arrayOver (.object RX6)) (by decide +kernel))) hK hP hD hS hA (by decide) (by decide) (by decide) (Nat.le_of_ble_eq_true rfl) (Nat.le_of_ble_eq_true rfl) dX1_init_7 (fun q_1 cA_1 H hK hP hD hS => ?_)
  have hK : va_K (dC, dI) vwCl [(cA_1, (.object RX6))] s := hK
  have hP : va_P (dC, dI) vwCl [(h0, .inr (1, [.null, .null, .int 0])), (q_1, .inl (cA_1, 8, .inr (.inr (.inr (.inr (fun _ => none))))))] H := hP
  have hD : va_D A [(h0, .inr (1, [.null, .null, .int 0])), (q_1, .inl (cA_1, 8, .inr (.inr (.inr (.inr (fun _ => none))))))] := hD
  refine W.widen (k := 1) (n := 8) (Nat.le_of_ble_eq_true rfl) (Nat.le_of_ble_eq_true rfl) ?_
  refine va_putF (D := (dC, dI)) (ci := 1) (v := .ref q_1) (ty := (.array (.object "CakePapers$Paper"))) (C := RX1) (T := TX1) (N := 3) hx hb hts hiX1 tyX1 tyX1_ok nmX1 hown hK hP hD hS 0 rfl rfl 0 (by decide) (hts (.fieldLink RX1 13 "CakePapers$Desk" "papers" "[LCakePapers$Paper;") (by decide +kernel)) (fun _ h9 => h9) rfl hin rfl (by decide +kernel) rfl rfl (Nat.le_of_ble_eq_true rfl) dX1_init_10 (fun H locs hP hD hS => ?_)
  have hP : va_P (dC, dI) vwCl [(h0, .inr (1, [.ref q_1, .null, .int 0])), (q_1, .inl (cA_1, 8, .inr (.inr (.inr (.inr (fun _ => none))))))] H := hP
  have hD : va_D A [(h0, .inr (1, [.ref q_1, .null, .int 0])), (q_1, .inl (cA_1, 8, .inr (.inr (.inr (.inr (fun _ => none))))))] := hD
  refine lv_aload_n hx hb dX1_init_13 rfl (lv_at hl 0 rfl) ?_
  refine va_new (ci := 4) (fs := [.null, .null, .null, .null, .null, .null, .null, .null, .null, .null, .null, .int 0, .int 0]) (C := RX4) (T := TX4) (N := 13) hx hb hts hiX4 tyX4 tyX4_ok hown (hts (.classLink RX1 17 RX4) (by decide +kernel)) (hts (.instantiable RX4 13) (by decide +kernel)) (hts (.initialized RX4) (by decide +kernel)) hK hP hD hS hA rfl (by decide +kernel) (Nat.le_of_ble_eq_true rfl) (Nat.le_of_ble_eq_true rfl) dX1_init_14 (fun q_2 H hP hD hS => ?_)
  have hP : va_P (dC, dI) vwCl [(h0, .inr (1, [.ref q_1, .null, .int 0])), (q_1, .inl (cA_1, 8, .inr (.inr (.inr (.inr (fun _ => none)))))), (q_2, .inr (4, [.null, .null, .null, .null, .null, .null, .null, .null, .null, .null, .null, .int 0, .int 0]))] H := hP
  have hD : va_D A [(h0, .inr (1, [.ref q_1, .null, .int 0])), (q_1, .inl (cA_1, 8, .inr (.inr (.inr (.inr (fun _ => none)))))), (q_2, .inr (4, [.null, .null, .null, .null, .null, .null, .null, .null, .null, .null, .null, .int 0, .int 0]))] := hD
  refine W.widen (k := 2) (n := 21) (Nat.le_of_ble_eq_true rfl) (Nat.le_of_ble_eq_true rfl) ?_
  refine lv_dup hx hb dX1_init_17 rfl ?_
  have hPc := hP.sub (ws' := [(q_2, .inr (4, [.null, .null, .null, .null, .null, .null, .null, .null, .null, .null, .null, .int 0, .int 0]))]) [2] rfl
  have hDc := hD.sub (ws' := [(q_2, .inr (4, [.null, .null, .null, .null, .null, .null, .null, .null, .null, .null, .null, .int 0, .int 0]))]) [2] (by decide) rfl
  have hKc := hK.sub (tys' := []) [] rfl
  have hFc := va_free (wc := [(q_2, .inr (4, [.null, .null, .null, .null, .null, .null, .null, .null, .null, .null, .null, .int 0, .int 0]))]) hD hS hA [2] rfl
  refine va_callv (va_runI (As := []) (rest := [.ref q_2, .ref h0]) ⟨hx, hb, hml, hown, hts⟩ (c_X4_init l dC dI H.size q_2) (cwI 0 hts g_c_X1_init_c_X4_init_0 rfl rfl rfl (hts (.initialized RX4) (by decide +kernel)) (hts (.methodLink RX1 19 yX4_init) (by decide +kernel)) (hts (.instanceMethod yX4_init) (by decide +kernel)) rfl (by decide +kernel) ⟨Nat.le_of_ble_eq_true rfl, Nat.le_of_ble_eq_true rfl⟩) ⟨fun a U g mk q => by obtain ⟨q0, q1, qP, qK, qD⟩ := q; exact ⟨q0, q1, qP, va_K.moved (u := U) (U := U.calling g mk a) (Vm.Alike.refl U.vm) qK, qD⟩, fun U hU hW => ⟨rfl, by rw [hU], by rw [hU]; exact hPc, va_K.moved hW.alike hKc, hDc.weaken (fun _ _ _ _ => trivial)⟩⟩ rfl rfl hl.1 rfl (lv_room (Nat.le_of_ble_eq_true rfl)) dX1_init_18 ⟨Nat.le_of_ble_eq_true rfl, Nat.le_of_ble_eq_true rfl⟩) hS (fun q _ h => hFc q h) hFc (fun u t H1 locs ht hvm hw hB hz1 hk1 hS => ?_)
  obtain ⟨q_1_3, q_2_3, q_3_3, q_4_3, q_5_3, q_6_3, q_7_3, q_8_3, hP1, hD1⟩ := hB
  rw [ht] at hP1
  obtain ⟨hP, hD⟩ := va_join (wr := [(h0, .inr (1, [.ref q_1, .null, .int 0])), (q_1, .inl (cA_1, 8, .inr (.inr (.inr (.inr (fun _ => none))))))]) (w1 := [(q_2, .inr (4, [.null, .null, .null, .ref q_1_3, .ref q_2_3, .ref q_3_3, .ref q_4_3, .ref q_5_3, .ref q_6_3, .ref q_7_3, .ref q_8_3, .int 0, .int 0]))]) hP hD [2] [0, 1] rfl rfl (by decide) (by decide) hk1 hFc hP1 hD1
  generalize H1 = H at hP hS ⊢
  have hP : va_P (dC, dI) vwCl [(h0, .inr (1, [.ref q_1, .null, .int 0])), (q_1, .inl (cA_1, 8, .inr (.inr (.inr (.inr (fun _ => none)))))), (q_2, .inr (4, [.null, .null, .null, .ref q_1_3, .ref q_2_3, .ref q_3_3, .ref q_4_3, .ref q_5_3, .ref q_6_3, .ref q_7_3, .ref q_8_3, .int 0, .int 0]))] H := hP
  have hD : va_D A [(h0, .inr (1, [.ref q_1, .null, .int 0])), (q_1, .inl (cA_1, 8, .inr (.inr (.inr (.inr (fun _ => none)))))), (q_2, .inr (4, [.null, .null, .null, .ref q_1_3, .ref q_2_3, .ref q_3_3, .ref q_4_3, .ref q_5_3, .ref q_6_3, .ref q_7_3, .ref q_8_3, .int 0, .int 0]))] := hD
  refine W.widen (k := 10) (n := 393) (Nat.le_of_ble_eq_true rfl) (Nat.le_of_ble_eq_true rfl) ?_
  refine va_putF (D := (dC, dI)) (ci := 1) (v := .ref q_2) (ty := (.object "CakePapers$Joining")) (C := RX1) (T := TX1) (N := 3) hx hb hts hiX1 tyX1 tyX1_ok nmX1 hown hK hP hD hS 0 rfl rfl 1 (by decide) (hts (.fieldLink RX1 20 "CakePapers$Desk" "joining" "LCakePapers$Joining;") (by decide +kernel)) (fun _ h9 => h9) rfl hin rfl (by decide +kernel) rfl rfl (Nat.le_of_ble_eq_true rfl) dX1_init_21 (fun H locs hP hD hS => ?_)
  have hP : va_P (dC, dI) vwCl [(h0, .inr (1, [.ref q_1, .ref q_2, .int 0])), (q_1, .inl (cA_1, 8, .inr (.inr (.inr (.inr (fun _ => none)))))), (q_2, .inr (4, [.null, .null, .null, .ref q_1_3, .ref q_2_3, .ref q_3_3, .ref q_4_3, .ref q_5_3, .ref q_6_3, .ref q_7_3, .ref q_8_3, .int 0, .int 0]))] H := hP
  have hD : va_D A [(h0, .inr (1, [.ref q_1, .ref q_2, .int 0])), (q_1, .inl (cA_1, 8, .inr (.inr (.inr (.inr (fun _ => none)))))), (q_2, .inr (4, [.null, .null, .null, .ref q_1_3, .ref q_2_3, .ref q_3_3, .ref q_4_3, .ref q_5_3, .ref q_6_3, .ref q_7_3, .ref q_8_3, .int 0, .int 0]))] := hD
  refine lv_aload_n hx hb dX1_init_24 rfl (lv_at hl 0 rfl) ?_
  refine lv_iconst (v := (-1)) hx hb dX1_init_25 (by decide) ?_
  refine va_put (D := (dC, dI)) (ci := 1) (v := .int (-1)) (ty := .int) (C := RX1) (T := TX1) (N := 3) hx hb hts hiX1 tyX1 tyX1_ok nmX1 hown hK hP hD hS 0 rfl rfl 2 (by decide) (hts (.fieldLink RX1 24 "CakePapers$Desk" "count" "I") (by decide +kernel)) (fun _ h9 => h9) rfl (by decide +kernel) rfl rfl (Nat.le_of_ble_eq_true rfl) dX1_init_26 (fun H locs hP hD hS => ?_)
  have hP : va_P (dC, dI) vwCl [(h0, .inr (1, [.ref q_1, .ref q_2, .int (-1)])), (q_1, .inl (cA_1, 8, .inr (.inr (.inr (.inr (fun _ => none)))))), (q_2, .inr (4, [.null, .null, .null, .ref q_1_3, .ref q_2_3, .ref q_3_3, .ref q_4_3, .ref q_5_3, .ref q_6_3, .ref q_7_3, .ref q_8_3, .int 0, .int 0]))] H := hP
  have hD : va_D A [(h0, .inr (1, [.ref q_1, .ref q_2, .int (-1)])), (q_1, .inl (cA_1, 8, .inr (.inr (.inr (.inr (fun _ => none)))))), (q_2, .inr (4, [.null, .null, .null, .ref q_1_3, .ref q_2_3, .ref q_3_3, .ref q_4_3, .ref q_5_3, .ref q_6_3, .ref q_7_3, .ref q_8_3, .int 0, .int 0]))] := hD
  refine W.widen (k := 10) (n := 393) (Nat.le_of_ble_eq_true rfl) (Nat.le_of_ble_eq_true rfl) ?_
  have hK9 := hK.sub (tys' := [(cA_1, (.object RX6))]) [0] rfl
  have hP9 := hP.sub (ws' := [(h0, .inr (1, [.ref q_1, .ref q_2, .int (-1)])), (q_1, .inl (cA_1, 8, .inr (.inr (.inr (.inr (fun _ => none)))))), (q_2, .inr (4, [.null, .null, .null, .ref q_1_3, .ref q_2_3, .ref q_3_3, .ref q_4_3, .ref q_5_3, .ref q_6_3, .ref q_7_3, .ref q_8_3, .int 0, .int 0]))]) [0, 1, 2] rfl
  have hD9 := hD.sub (ws' := [(h0, .inr (1, [.ref q_1, .ref q_2, .int (-1)])), (q_1, .inl (cA_1, 8, .inr (.inr (.inr (.inr (fun _ => none)))))), (q_2, .inr (4, [.null, .null, .null, .ref q_1_3, .ref q_2_3, .ref q_3_3, .ref q_4_3, .ref q_5_3, .ref q_6_3, .ref q_7_3, .ref q_8_3, .int 0, .int 0]))]) [0, 1, 2] (by decide) rfl
  exact W.vret hx hb hr (fun t ht hW => ⟨⟨(), rfl, trivial, q_1, q_2, cA_1, q_1_3, q_2_3, q_3_3, q_4_3, q_5_3, q_6_3, q_7_3, q_8_3, by rw [ht]; exact hP9, va_K.moved hW.alike hK9, hD9⟩, hS.F ht⟩) hS.2.2 dX1_init_29
def u_c_X0_init : List Cond := .code yX0_init cX0_init 1 none :: ([.methodLink RX0 5 objectInit, .instanceMethod objectInit, .code objectInit ⟨#[0xb1]⟩ 1 none, .arrayClass .int, .fieldLink RX0 13 "CakePapers$Changes" "kinds" "[I", .fieldLink RX0 17 "CakePapers$Changes" "steps" "[I", .fieldLink RX0 20 "CakePapers$Changes" "signs" "[I", .fieldLink RX0 23 "CakePapers$Changes" "otherSigns" "[I"] ++ wsX00)
set_option maxHeartbeats 1000000 in
set_option maxRecDepth 100000 in
theorem c_X0_init (l : Launch) (dC : Nat → ClassId) (dI : Nat → Nat → Nat) (sz : Nat) (h0 : Nat) : Met l yX0_init u_c_X0_init ({ frames := 1, cells := 4, slots := 140, locals := 20 }) (va_Pc [.ref h0] (fun U => U.heap.size = sz ∧ va_P (dC, dI) vwCl [(h0, .inr (0, [.null, .null, .null, .null, .int 0, .null, .null]))] U.heap ∧ va_K (dC, dI) vwCl [] U ∧ va_D (fun _ => True) [(h0, .inr (0, [.null, .null, .null, .null, .int 0, .null, .null]))])) (va_Qv (fun (_ : Unit) => True) (fun _ t => ∃ (q_1 : Nat), ∃ (q_2 : Nat), ∃ (q_3 : Nat), ∃ (q_4 : Nat), va_P (dC, dI) vwCl [(h0, .inr (0, [.ref q_1, .ref q_2, .ref q_3, .ref q_4, .int 0, .null, .null]))] t.heap ∧ va_D (va_A [(h0, .inr (0, [.null, .null, .null, .null, .int 0, .null, .null]))] sz) [(h0, .inr (0, [.ref q_1, .ref q_2, .ref q_3, .ref q_4, .int 0, .null, .null]))]) (va_A [(h0, .inr (0, [.null, .null, .null, .null, .int 0, .null, .null]))] sz)) 4 140 (va_A [(h0, .inr (0, [.null, .null, .null, .null, .int 0, .null, .null]))] sz) := by
  refine Met.ofW (cc := cX0_init) (maxL := 1) (ret := none) (by decide) rfl ?_
  intro p e s m args below meth c s₁ B hml hv
  obtain ⟨rfl, hsz, hP, hK, hD0⟩ := hv
  have hx := B.exec
  have hb := B.bytes
  have hr := B.returns
  have hts := atoms_spec (ws := u_c_X0_init) B.pre
  have hown : s.vm.findClass RX0 = some m.cls := findClass_of_methodNamed B.named
  have hlocks := B.notSynchronized
  have hin : meth.name = "<init>" := (name_of_methodNamed B.named B.method).1
  have hiX0 : ∀ w ∈ wsX00, w ∈ u_c_X0_init := fun w h => List.mem_cons_of_mem _ (List.mem_append_right _ h)
  subst hsz
  have hD := hD0.self (sz := s.heap.size)
  generalize hAe : va_A [(h0, .inr (0, [.null, .null, .null, .null, .int 0, .null, .null]))] s.heap.size = A at hD ⊢
  have hA : ∀ q : Nat, s.heap.size ≤ q → A q := fun q h => by rw [← hAe]; exact Or.inr h
  have hS : va_S A s.heap s.heap [] := va_S.rf
  obtain ⟨H, hH⟩ : ∃ H : Heap, H = s.heap := ⟨_, rfl⟩
  have hP : va_P (dC, dI) vwCl [(h0, .inr (0, [.null, .null, .null, .null, .int 0, .null, .null]))] H := by rw [hH]; exact hP
  have hS : va_S A s.heap H [] := by rw [hH]; exact hS
  have hl := lv_entry ([.ref h0]) (n := 1) (Nat.le_of_ble_eq_true rfl)
  rw [lg_entry_eq]
  generalize (lg_sl ([.ref h0]) ++ List.replicate (1 - (lg_sl ([.ref h0])).length) Slot.unset).toArray = ls at hl ⊢
  have hl : lv_has ls 1 [(0, .ref h0)] := hl
  suffices h9 : W p l e (headSpec u_c_X0_init _).room s m _ below meth c H [] 0 0 _ (F0 m 0 ls []) by rw [hH] at h9; exact h9
  refine lv_aload_n hx hb dX0_init_0 rfl (lv_at hl 0 rfl) ?_
  refine W.objInit hx hb hown (hts (.methodLink RX0 5 objectInit) (by decide +kernel)) (hts (.instanceMethod objectInit) (by decide +kernel)) (hts (.code objectInit ⟨#[0xb1]⟩ 1 none) (by decide +kernel)) rfl (by rw [hml]; exact hl.1) rfl dX0_init_1 (Nat.le_of_ble_eq_true rfl) (Nat.le_of_ble_eq_true rfl) ?_
  refine W.eq (g2 := F0 m 4 ls []) rfl ?_
  refine lv_aload_n hx hb dX0_init_4 rfl (lv_at hl 0 rfl) ?_
  refine lv_bipush (v := 60) hx hb dX0_init_5 (by decide) ?_
  refine va_newa (atype := .int) (ty := .int) (n := 60) (N' := 60) (a0 := (60, .inl (fun _ => 0))) hx hb (hts (.arrayClass .int) (by decide +kernel)) rfl hK hP hD hS hA (fun _ => rfl) (by decide) (by decide) (by decide) (Nat.le_of_ble_eq_true rfl) (Nat.le_of_ble_eq_true rfl) dX0_init_7 (fun q_1 cA_1 H hK hP hD hS => ?_)
  have hK : va_K (dC, dI) vwCl [(cA_1, .int)] s := hK
  have hP : va_P (dC, dI) vwCl [(h0, .inr (0, [.null, .null, .null, .null, .int 0, .null, .null])), (q_1, .inl (cA_1, 60, .inl (fun _ => 0)))] H := hP
  have hD : va_D A [(h0, .inr (0, [.null, .null, .null, .null, .int 0, .null, .null])), (q_1, .inl (cA_1, 60, .inl (fun _ => 0)))] := hD
  refine W.widen (k := 1) (n := 60) (Nat.le_of_ble_eq_true rfl) (Nat.le_of_ble_eq_true rfl) ?_
  have hP := hP.sub (ws' := [(h0, .inr (0, [.null, .null, .null, .null, .int 0, .null, .null]))]) [0] rfl
  have hD := hD.sub (ws' := [(h0, .inr (0, [.null, .null, .null, .null, .int 0, .null, .null]))]) [0] (by decide) rfl
  have hK := hK.sub (tys' := []) [] rfl
  refine va_putF (D := (dC, dI)) (ci := 0) (v := .ref q_1) (ty := (.array .int)) (C := RX0) (T := TX0) (N := 7) hx hb hts hiX0 tyX0 tyX0_ok nmX0 hown hK hP hD hS 0 rfl rfl 0 (by decide) (hts (.fieldLink RX0 13 "CakePapers$Changes" "kinds" "[I") (by decide +kernel)) (fun _ h9 => h9) rfl hin rfl (by decide +kernel) rfl rfl (Nat.le_of_ble_eq_true rfl) dX0_init_9 (fun H locs hP hD hS => ?_)
  have hP : va_P (dC, dI) vwCl [(h0, .inr (0, [.ref q_1, .null, .null, .null, .int 0, .null, .null]))] H := hP
  have hD : va_D A [(h0, .inr (0, [.ref q_1, .null, .null, .null, .int 0, .null, .null]))] := hD
  refine lv_aload_n hx hb dX0_init_12 rfl (lv_at hl 0 rfl) ?_
  refine lv_bipush (v := 60) hx hb dX0_init_13 (by decide) ?_
  refine va_newa (atype := .int) (ty := .int) (n := 60) (N' := 60) (a0 := (60, .inl (fun _ => 0))) hx hb (hts (.arrayClass .int) (by decide +kernel)) rfl hK hP hD hS hA (fun _ => rfl) (by decide) (by decide) (by decide) (Nat.le_of_ble_eq_true rfl) (Nat.le_of_ble_eq_true rfl) dX0_init_15 (fun q_2 cA_2 H hK hP hD hS => ?_)
  have hK : va_K (dC, dI) vwCl [(cA_2, .int)] s := hK
  have hP : va_P (dC, dI) vwCl [(h0, .inr (0, [.ref q_1, .null, .null, .null, .int 0, .null, .null])), (q_2, .inl (cA_2, 60, .inl (fun _ => 0)))] H := hP
  have hD : va_D A [(h0, .inr (0, [.ref q_1, .null, .null, .null, .int 0, .null, .null])), (q_2, .inl (cA_2, 60, .inl (fun _ => 0)))] := hD
  refine W.widen (k := 2) (n := 120) (Nat.le_of_ble_eq_true rfl) (Nat.le_of_ble_eq_true rfl) ?_
  have hP := hP.sub (ws' := [(h0, .inr (0, [.ref q_1, .null, .null, .null, .int 0, .null, .null]))]) [0] rfl
  have hD := hD.sub (ws' := [(h0, .inr (0, [.ref q_1, .null, .null, .null, .int 0, .null, .null]))]) [0] (by decide) rfl
  have hK := hK.sub (tys' := []) [] rfl
  refine va_putF (D := (dC, dI)) (ci := 0) (v := .ref q_2) (ty := (.array .int)) (C := RX0) (T := TX0) (N := 7) hx hb hts hiX0 tyX0 tyX0_ok nmX0 hown hK hP hD hS 0 rfl rfl 1 (by decide) (hts (.fieldLink RX0 17 "CakePapers$Changes" "steps" "[I") (by decide +kernel)) (fun _ h9 => h9) rfl hin rfl (by decide +kernel) rfl rfl (Nat.le_of_ble_eq_true rfl) dX0_init_17 (fun H locs hP hD hS => ?_)
  have hP : va_P (dC, dI) vwCl [(h0, .inr (0, [.ref q_1, .ref q_2, .null, .null, .int 0, .null, .null]))] H := hP
  have hD : va_D A [(h0, .inr (0, [.ref q_1, .ref q_2, .null, .null, .int 0, .null, .null]))] := hD
  refine lv_aload_n hx hb dX0_init_20 rfl (lv_at hl 0 rfl) ?_
  refine lv_bipush (v := 10) hx hb dX0_init_21 (by decide) ?_
  refine va_newa (atype := .int) (ty := .int) (n := 10) (N' := 10) (a0 := (10, .inl (fun _ => 0))) hx hb (hts (.arrayClass .int) (by decide +kernel)) rfl hK hP hD hS hA (fun _ => rfl) (by decide) (by decide) (by decide) (Nat.le_of_ble_eq_true rfl) (Nat.le_of_ble_eq_true rfl) dX0_init_23 (fun q_3 cA_3 H hK hP hD hS => ?_)
  have hK : va_K (dC, dI) vwCl [(cA_3, .int)] s := hK
  have hP : va_P (dC, dI) vwCl [(h0, .inr (0, [.ref q_1, .ref q_2, .null, .null, .int 0, .null, .null])), (q_3, .inl (cA_3, 10, .inl (fun _ => 0)))] H := hP
  have hD : va_D A [(h0, .inr (0, [.ref q_1, .ref q_2, .null, .null, .int 0, .null, .null])), (q_3, .inl (cA_3, 10, .inl (fun _ => 0)))] := hD
  refine W.widen (k := 3) (n := 130) (Nat.le_of_ble_eq_true rfl) (Nat.le_of_ble_eq_true rfl) ?_
  have hP := hP.sub (ws' := [(h0, .inr (0, [.ref q_1, .ref q_2, .null, .null, .int 0, .null, .null]))]) [0] rfl
  have hD := hD.sub (ws' := [(h0, .inr (0, [.ref q_1, .ref q_2, .null, .null, .int 0, .null, .null]))]) [0] (by decide) rfl
  have hK := hK.sub (tys' := []) [] rfl
  refine va_putF (D := (dC, dI)) (ci := 0) (v := .ref q_3) (ty := (.array .int)) (C := RX0) (T := TX0) (N := 7) hx hb hts hiX0 tyX0 tyX0_ok nmX0 hown hK hP hD hS 0 rfl rfl 2 (by decide) (hts (.fieldLink RX0 20 "CakePapers$Changes" "signs" "[I") (by decide +kernel)) (fun _ h9 => h9) rfl hin rfl (by decide +kernel) rfl rfl (Nat.le_of_ble_eq_true rfl) dX0_init_25 (fun H locs hP hD hS => ?_)
  have hP : va_P (dC, dI) vwCl [(h0, .inr (0, [.ref q_1, .ref q_2, .ref q_3, .null, .int 0, .null, .null]))] H := hP
  have hD : va_D A [(h0, .inr (0, [.ref q_1, .ref q_2, .ref q_3, .null, .int 0, .null, .null]))] := hD
  refine lv_aload_n hx hb dX0_init_28 rfl (lv_at hl 0 rfl) ?_
  refine lv_bipush (v := 10) hx hb dX0_init_29 (by decide) ?_
  refine va_newa (atype := .int) (ty := .int) (n := 10) (N' := 10) (a0 := (10, .inl (fun _ => 0))) hx hb (hts (.arrayClass .int) (by decide +kernel)) rfl hK hP hD hS hA (fun _ => rfl) (by decide) (by decide) (by decide) (Nat.le_of_ble_eq_true rfl) (Nat.le_of_ble_eq_true rfl) dX0_init_31 (fun q_4 cA_4 H hK hP hD hS => ?_)
  have hK : va_K (dC, dI) vwCl [(cA_4, .int)] s := hK
  have hP : va_P (dC, dI) vwCl [(h0, .inr (0, [.ref q_1, .ref q_2, .ref q_3, .null, .int 0, .null, .null])), (q_4, .inl (cA_4, 10, .inl (fun _ => 0)))] H := hP
  have hD : va_D A [(h0, .inr (0, [.ref q_1, .ref q_2, .ref q_3, .null, .int 0, .null, .null])), (q_4, .inl (cA_4, 10, .inl (fun _ => 0)))] := hD
  refine W.widen (k := 4) (n := 140) (Nat.le_of_ble_eq_true rfl) (Nat.le_of_ble_eq_true rfl) ?_
  have hP := hP.sub (ws' := [(h0, .inr (0, [.ref q_1, .ref q_2, .ref q_3, .null, .int 0, .null, .null]))]) [0] rfl
  have hD := hD.sub (ws' := [(h0, .inr (0, [.ref q_1, .ref q_2, .ref q_3, .null, .int 0, .null, .null]))]) [0] (by decide) rfl
  have hK := hK.sub (tys' := []) [] rfl
  refine va_putF (D := (dC, dI)) (ci := 0) (v := .ref q_4) (ty := (.array .int)) (C := RX0) (T := TX0) (N := 7) hx hb hts hiX0 tyX0 tyX0_ok nmX0 hown hK hP hD hS 0 rfl rfl 3 (by decide) (hts (.fieldLink RX0 23 "CakePapers$Changes" "otherSigns" "[I") (by decide +kernel)) (fun _ h9 => h9) rfl hin rfl (by decide +kernel) rfl rfl (Nat.le_of_ble_eq_true rfl) dX0_init_33 (fun H locs hP hD hS => ?_)
  have hP : va_P (dC, dI) vwCl [(h0, .inr (0, [.ref q_1, .ref q_2, .ref q_3, .ref q_4, .int 0, .null, .null]))] H := hP
  have hD : va_D A [(h0, .inr (0, [.ref q_1, .ref q_2, .ref q_3, .ref q_4, .int 0, .null, .null]))] := hD
  refine W.widen (k := 4) (n := 140) (Nat.le_of_ble_eq_true rfl) (Nat.le_of_ble_eq_true rfl) ?_
  have hP9 := hP.sub (ws' := [(h0, .inr (0, [.ref q_1, .ref q_2, .ref q_3, .ref q_4, .int 0, .null, .null]))]) [0] rfl
  have hD9 := hD.sub (ws' := [(h0, .inr (0, [.ref q_1, .ref q_2, .ref q_3, .ref q_4, .int 0, .null, .null]))]) [0] (by decide) rfl
  exact W.vret hx hb hr (fun t ht hW => ⟨⟨(), rfl, trivial, q_1, q_2, q_3, q_4, by rw [ht]; exact hP9, hD9⟩, hS.F ht⟩) hS.2.2 dX0_init_36
def u_c_X2_init : List Cond := .code yX2_init cX2_init 1 none :: ([.methodLink RX2 5 objectInit, .instanceMethod objectInit, .code objectInit ⟨#[0xb1]⟩ 1 none, .classLink RX2 1 RX6, .instantiable RX6 14, .initialized RX6, .code yX6_init cX6_init 3 none, .methodLink RX6 3 objectInit, .methodLink RX6 9 Lib.Math.max.name, .static Lib.Math.max.name, .initialized "java/lang/Math", .code Lib.Math.max.name Lib.Math.max.code 2 (some .int), .arrayClass .long, .fieldLink RX6 15 "CakePapers$Paper" "makes" "[J", .fieldLink RX6 21 "CakePapers$Paper" "verbs" "[J", .arrayClass .int, .fieldLink RX6 24 "CakePapers$Paper" "much" "[I", .fieldLink RX6 28 "CakePapers$Paper" "lasts" "[I", .fieldLink RX6 31 "CakePapers$Paper" "needCount" "[I", .fieldLink RX6 34 "CakePapers$Paper" "needs" "[J", .fieldLink RX6 37 "CakePapers$Paper" "makers" "[I", .arrayClass .boolean, .fieldLink RX6 40 "CakePapers$Paper" "isEnd" "[Z", .fieldLink RX6 44 "CakePapers$Paper" "reach" "[I", .methodLink RX2 13 yX6_init, .instanceMethod yX6_init, .fieldLink RX2 16 "CakePapers$Draft" "sheet" "LCakePapers$Paper;", .fieldLink RX2 20 "CakePapers$Draft" "wasMade" "[Z", .fieldLink RX2 24 "CakePapers$Draft" "order" "[I", .fieldLink RX2 28 "CakePapers$Draft" "placed" "[Z"] ++ wsX20 ++ wsX60)
set_option maxRecDepth 20000 in
theorem g_c_X2_init_c_X6_init_36_0 : GoodIn u_c_X2_init (u_c_X6_init_36) := goodIn_of _ (by decide +kernel)
set_option maxHeartbeats 1000000 in
set_option maxRecDepth 100000 in
theorem c_X2_init (l : Launch) (dC : Nat → ClassId) (dI : Nat → Nat → Nat) (sz : Nat) (h0 : Nat) : Met l yX2_init u_c_X2_init ({ frames := 2, cells := 13, slots := 722, locals := 43 }) (va_Pc [.ref h0] (fun U => U.heap.size = sz ∧ va_P (dC, dI) vwCl [(h0, .inr (2, [.null, .null, .null, .null]))] U.heap ∧ va_K (dC, dI) vwCl [] U ∧ va_D (fun _ => True) [(h0, .inr (2, [.null, .null, .null, .null]))])) (va_Qv (fun (_ : Unit) => True) (fun _ t => ∃ (q_1 : Nat), ∃ (q_3 : Nat), ∃ (q_4 : Nat), ∃ (q_5 : Nat), va_P (dC, dI) vwCl [(h0, .inr (2, [.ref q_1, .ref q_3, .ref q_4, .ref q_5]))] t.heap ∧ va_D (va_A [(h0, .inr (2, [.null, .null, .null, .null]))] sz) [(h0, .inr (2, [.ref q_1, .ref q_3, .ref q_4, .ref q_5]))]) (va_A [(h0, .inr (2, [.null, .null, .null, .null]))] sz)) 13 722 (va_A [(h0, .inr (2, [.null, .null, .null, .null]))] sz) := by
  refine Met.ofW (cc := cX2_init) (maxL := 1) (ret := none) (by decide) rfl ?_
  intro p e s m args below meth c s₁ B hml hv
  obtain ⟨rfl, hsz, hP, hK, hD0⟩ := hv
  have hx := B.exec
  have hb := B.bytes
  have hr := B.returns
  have hts := atoms_spec (ws := u_c_X2_init) B.pre
  have hown : s.vm.findClass RX2 = some m.cls := findClass_of_methodNamed B.named
  have hlocks := B.notSynchronized
  have hin : meth.name = "<init>" := (name_of_methodNamed B.named B.method).1
  have hiX2 : ∀ w ∈ wsX20, w ∈ u_c_X2_init := fun w h => List.mem_cons_of_mem _ (List.mem_append_left _ (List.mem_append_right _ h))
  have hiX6 : ∀ w ∈ wsX60, w ∈ u_c_X2_init := fun w h => List.mem_cons_of_mem _ (List.mem_append_right _ h)
  subst hsz
  have hD := hD0.self (sz := s.heap.size)
  generalize hAe : va_A [(h0, .inr (2, [.null, .null, .null, .null]))] s.heap.size = A at hD ⊢
  have hA : ∀ q : Nat, s.heap.size ≤ q → A q := fun q h => by rw [← hAe]; exact Or.inr h
  have hS : va_S A s.heap s.heap [] := va_S.rf
  obtain ⟨H, hH⟩ : ∃ H : Heap, H = s.heap := ⟨_, rfl⟩
  have hP : va_P (dC, dI) vwCl [(h0, .inr (2, [.null, .null, .null, .null]))] H := by rw [hH]; exact hP
  have hS : va_S A s.heap H [] := by rw [hH]; exact hS
  have hl := lv_entry ([.ref h0]) (n := 1) (Nat.le_of_ble_eq_true rfl)
  rw [lg_entry_eq]
  generalize (lg_sl ([.ref h0]) ++ List.replicate (1 - (lg_sl ([.ref h0])).length) Slot.unset).toArray = ls at hl ⊢
  have hl : lv_has ls 1 [(0, .ref h0)] := hl
  suffices h9 : W p l e (headSpec u_c_X2_init _).room s m _ below meth c H [] 0 0 _ (F0 m 0 ls []) by rw [hH] at h9; exact h9
  refine lv_aload_n hx hb dX2_init_0 rfl (lv_at hl 0 rfl) ?_
  refine W.objInit hx hb hown (hts (.methodLink RX2 5 objectInit) (by decide +kernel)) (hts (.instanceMethod objectInit) (by decide +kernel)) (hts (.code objectInit ⟨#[0xb1]⟩ 1 none) (by decide +kernel)) rfl (by rw [hml]; exact hl.1) rfl dX2_init_1 (Nat.le_of_ble_eq_true rfl) (Nat.le_of_ble_eq_true rfl) ?_
  refine W.eq (g2 := F0 m 4 ls []) rfl ?_
  refine lv_aload_n hx hb dX2_init_4 rfl (lv_at hl 0 rfl) ?_
  refine va_new (ci := 6) (fs := [.null, .null, .null, .null, .null, .null, .null, .null, .null, .int 0, .int 0, .int 0, .int 0, .int 0]) (C := RX6) (T := TX6) (N := 14) hx hb hts hiX6 tyX6 tyX6_ok hown (hts (.classLink RX2 1 RX6) (by decide +kernel)) (hts (.instantiable RX6 14) (by decide +kernel)) (hts (.initialized RX6) (by decide +kernel)) hK hP hD hS hA rfl (by decide +kernel) (Nat.le_of_ble_eq_true rfl) (Nat.le_of_ble_eq_true rfl) dX2_init_5 (fun q_1 H hP hD hS => ?_)
  have hP : va_P (dC, dI) vwCl [(h0, .inr (2, [.null, .null, .null, .null])), (q_1, .inr (6, [.null, .null, .null, .null, .null, .null, .null, .null, .null, .int 0, .int 0, .int 0, .int 0, .int 0]))] H := hP
  have hD : va_D A [(h0, .inr (2, [.null, .null, .null, .null])), (q_1, .inr (6, [.null, .null, .null, .null, .null, .null, .null, .null, .null, .int 0, .int 0, .int 0, .int 0, .int 0]))] := hD
  refine W.widen (k := 1) (n := 14) (Nat.le_of_ble_eq_true rfl) (Nat.le_of_ble_eq_true rfl) ?_
  refine lv_dup hx hb dX2_init_8 rfl ?_
  refine lv_bipush (v := 36) hx hb dX2_init_9 (by decide) ?_
  have hPc := hP.sub (ws' := [(q_1, .inr (6, [.null, .null, .null, .null, .null, .null, .null, .null, .null, .int 0, .int 0, .int 0, .int 0, .int 0]))]) [1] rfl
  have hDc := hD.sub (ws' := [(q_1, .inr (6, [.null, .null, .null, .null, .null, .null, .null, .null, .null, .int 0, .int 0, .int 0, .int 0, .int 0]))]) [1] (by decide) rfl
  have hKc := hK.sub (tys' := []) [] rfl
  have hFc := va_free (wc := [(q_1, .inr (6, [.null, .null, .null, .null, .null, .null, .null, .null, .null, .int 0, .int 0, .int 0, .int 0, .int 0]))]) hD hS hA [1] rfl
  refine va_callv (va_runI (As := [.int 36]) (rest := [.ref q_1, .ref h0]) ⟨hx, hb, hml, hown, hts⟩ (c_X6_init_36 l dC dI H.size q_1) (cwI 1 hts g_c_X2_init_c_X6_init_36_0 rfl rfl rfl (hts (.initialized RX6) (by decide +kernel)) (hts (.methodLink RX2 13 yX6_init) (by decide +kernel)) (hts (.instanceMethod yX6_init) (by decide +kernel)) rfl (by decide +kernel) ⟨Nat.le_of_ble_eq_true rfl, Nat.le_of_ble_eq_true rfl⟩) ⟨fun a U g mk q => by obtain ⟨q0, q1, qP, qK, qD⟩ := q; exact ⟨q0, q1, qP, va_K.moved (u := U) (U := U.calling g mk a) (Vm.Alike.refl U.vm) qK, qD⟩, fun U hU hW => ⟨rfl, by rw [hU], by rw [hU]; exact hPc, va_K.moved hW.alike hKc, hDc.weaken (fun _ _ _ _ => trivial)⟩⟩ rfl rfl hl.1 rfl (lv_room (Nat.le_of_ble_eq_true rfl)) dX2_init_11 ⟨Nat.le_of_ble_eq_true rfl, Nat.le_of_ble_eq_true rfl⟩) hS (fun q _ h => hFc q h) hFc (fun u t H1 locs ht hvm hw hB hz1 hk1 hS => ?_)
  obtain ⟨q_1_2, q_2_2, q_3_2, q_4_2, q_5_2, q_6_2, q_7_2, q_8_2, q_9_2, hP1, hD1⟩ := hB
  rw [ht] at hP1
  obtain ⟨hP, hD⟩ := va_join (wr := [(h0, .inr (2, [.null, .null, .null, .null]))]) (w1 := [(q_1, .inr (6, [.ref q_1_2, .ref q_2_2, .ref q_3_2, .ref q_4_2, .ref q_5_2, .ref q_6_2, .ref q_7_2, .ref q_8_2, .ref q_9_2, .int 0, .int 0, .int 0, .int 0, .int 0]))]) hP hD [1] [0] rfl rfl (by decide) (by decide) hk1 hFc hP1 hD1
  generalize H1 = H at hP hS ⊢
  have hP : va_P (dC, dI) vwCl [(h0, .inr (2, [.null, .null, .null, .null])), (q_1, .inr (6, [.ref q_1_2, .ref q_2_2, .ref q_3_2, .ref q_4_2, .ref q_5_2, .ref q_6_2, .ref q_7_2, .ref q_8_2, .ref q_9_2, .int 0, .int 0, .int 0, .int 0, .int 0]))] H := hP
  have hD : va_D A [(h0, .inr (2, [.null, .null, .null, .null])), (q_1, .inr (6, [.ref q_1_2, .ref q_2_2, .ref q_3_2, .ref q_4_2, .ref q_5_2, .ref q_6_2, .ref q_7_2, .ref q_8_2, .ref q_9_2, .int 0, .int 0, .int 0, .int 0, .int 0]))] := hD
  refine W.widen (k := 10) (n := 554) (Nat.le_of_ble_eq_true rfl) (Nat.le_of_ble_eq_true rfl) ?_
  refine va_putF (D := (dC, dI)) (ci := 2) (v := .ref q_1) (ty := (.object "CakePapers$Paper")) (C := RX2) (T := TX2) (N := 4) hx hb hts hiX2 tyX2 tyX2_ok nmX2 hown hK hP hD hS 0 rfl rfl 0 (by decide) (hts (.fieldLink RX2 16 "CakePapers$Draft" "sheet" "LCakePapers$Paper;") (by decide +kernel)) (fun _ h9 => h9) rfl hin rfl (by decide +kernel) rfl rfl (Nat.le_of_ble_eq_true rfl) dX2_init_14 (fun H locs hP hD hS => ?_)
  have hP : va_P (dC, dI) vwCl [(h0, .inr (2, [.ref q_1, .null, .null, .null])), (q_1, .inr (6, [.ref q_1_2, .ref q_2_2, .ref q_3_2, .ref q_4_2, .ref q_5_2, .ref q_6_2, .ref q_7_2, .ref q_8_2, .ref q_9_2, .int 0, .int 0, .int 0, .int 0, .int 0]))] H := hP
  have hD : va_D A [(h0, .inr (2, [.ref q_1, .null, .null, .null])), (q_1, .inr (6, [.ref q_1_2, .ref q_2_2, .ref q_3_2, .ref q_4_2, .ref q_5_2, .ref q_6_2, .ref q_7_2, .ref q_8_2, .ref q_9_2, .int 0, .int 0, .int 0, .int 0, .int 0]))] := hD
  refine lv_aload_n hx hb dX2_init_17 rfl (lv_at hl 0 rfl) ?_
  refine lv_sipush (v := 144) hx hb dX2_init_18 (by decide) ?_
  refine va_newa (atype := .boolean) (ty := .boolean) (n := 144) (N' := 144) (a0 := (144, .inl (fun _ => 0))) hx hb (hts (.arrayClass .boolean) (by decide +kernel)) rfl hK hP hD hS hA (fun _ => rfl) (by decide) (by decide) (by decide) (Nat.le_of_ble_eq_true rfl) (Nat.le_of_ble_eq_true rfl) dX2_init_21 (fun q_3 cA_3 H hK hP hD hS => ?_)
  have hK : va_K (dC, dI) vwCl [(cA_3, .boolean)] s := hK
  have hP : va_P (dC, dI) vwCl [(h0, .inr (2, [.ref q_1, .null, .null, .null])), (q_1, .inr (6, [.ref q_1_2, .ref q_2_2, .ref q_3_2, .ref q_4_2, .ref q_5_2, .ref q_6_2, .ref q_7_2, .ref q_8_2, .ref q_9_2, .int 0, .int 0, .int 0, .int 0, .int 0])), (q_3, .inl (cA_3, 144, .inl (fun _ => 0)))] H := hP
  have hD : va_D A [(h0, .inr (2, [.ref q_1, .null, .null, .null])), (q_1, .inr (6, [.ref q_1_2, .ref q_2_2, .ref q_3_2, .ref q_4_2, .ref q_5_2, .ref q_6_2, .ref q_7_2, .ref q_8_2, .ref q_9_2, .int 0, .int 0, .int 0, .int 0, .int 0])), (q_3, .inl (cA_3, 144, .inl (fun _ => 0)))] := hD
  refine W.widen (k := 11) (n := 698) (Nat.le_of_ble_eq_true rfl) (Nat.le_of_ble_eq_true rfl) ?_
  have hP := hP.sub (ws' := [(h0, .inr (2, [.ref q_1, .null, .null, .null])), (q_1, .inr (6, [.ref q_1_2, .ref q_2_2, .ref q_3_2, .ref q_4_2, .ref q_5_2, .ref q_6_2, .ref q_7_2, .ref q_8_2, .ref q_9_2, .int 0, .int 0, .int 0, .int 0, .int 0]))]) [0, 1] rfl
  have hD := hD.sub (ws' := [(h0, .inr (2, [.ref q_1, .null, .null, .null])), (q_1, .inr (6, [.ref q_1_2, .ref q_2_2, .ref q_3_2, .ref q_4_2, .ref q_5_2, .ref q_6_2, .ref q_7_2, .ref q_8_2, .ref q_9_2, .int 0, .int 0, .int 0, .int 0, .int 0]))]) [0, 1] (by decide) rfl
  have hK := hK.sub (tys' := []) [] rfl
  refine va_putF (D := (dC, dI)) (ci := 2) (v := .ref q_3) (ty := (.array .boolean)) (C := RX2) (T := TX2) (N := 4) hx hb hts hiX2 tyX2 tyX2_ok nmX2 hown hK hP hD hS 0 rfl rfl 1 (by decide) (hts (.fieldLink RX2 20 "CakePapers$Draft" "wasMade" "[Z") (by decide +kernel)) (fun _ h9 => h9) rfl hin rfl (by decide +kernel) rfl rfl (Nat.le_of_ble_eq_true rfl) dX2_init_23 (fun H locs hP hD hS => ?_)
  have hP : va_P (dC, dI) vwCl [(h0, .inr (2, [.ref q_1, .ref q_3, .null, .null])), (q_1, .inr (6, [.ref q_1_2, .ref q_2_2, .ref q_3_2, .ref q_4_2, .ref q_5_2, .ref q_6_2, .ref q_7_2, .ref q_8_2, .ref q_9_2, .int 0, .int 0, .int 0, .int 0, .int 0]))] H := hP
  have hD : va_D A [(h0, .inr (2, [.ref q_1, .ref q_3, .null, .null])), (q_1, .inr (6, [.ref q_1_2, .ref q_2_2, .ref q_3_2, .ref q_4_2, .ref q_5_2, .ref q_6_2, .ref q_7_2, .ref q_8_2, .ref q_9_2, .int 0, .int 0, .int 0, .int 0, .int 0]))] := hD
  refine lv_aload_n hx hb dX2_init_26 rfl (lv_at hl 0 rfl) ?_
  refine lv_bipush (v := 12) hx hb dX2_init_27 (by decide) ?_
  refine va_newa (atype := .int) (ty := .int) (n := 12) (N' := 12) (a0 := (12, .inl (fun _ => 0))) hx hb (hts (.arrayClass .int) (by decide +kernel)) rfl hK hP hD hS hA (fun _ => rfl) (by decide) (by decide) (by decide) (Nat.le_of_ble_eq_true rfl) (Nat.le_of_ble_eq_true rfl) dX2_init_29 (fun q_4 cA_4 H hK hP hD hS => ?_)
  have hK : va_K (dC, dI) vwCl [(cA_4, .int)] s := hK
  have hP : va_P (dC, dI) vwCl [(h0, .inr (2, [.ref q_1, .ref q_3, .null, .null])), (q_1, .inr (6, [.ref q_1_2, .ref q_2_2, .ref q_3_2, .ref q_4_2, .ref q_5_2, .ref q_6_2, .ref q_7_2, .ref q_8_2, .ref q_9_2, .int 0, .int 0, .int 0, .int 0, .int 0])), (q_4, .inl (cA_4, 12, .inl (fun _ => 0)))] H := hP
  have hD : va_D A [(h0, .inr (2, [.ref q_1, .ref q_3, .null, .null])), (q_1, .inr (6, [.ref q_1_2, .ref q_2_2, .ref q_3_2, .ref q_4_2, .ref q_5_2, .ref q_6_2, .ref q_7_2, .ref q_8_2, .ref q_9_2, .int 0, .int 0, .int 0, .int 0, .int 0])), (q_4, .inl (cA_4, 12, .inl (fun _ => 0)))] := hD
  refine W.widen (k := 12) (n := 710) (Nat.le_of_ble_eq_true rfl) (Nat.le_of_ble_eq_true rfl) ?_
  have hP := hP.sub (ws' := [(h0, .inr (2, [.ref q_1, .ref q_3, .null, .null])), (q_1, .inr (6, [.ref q_1_2, .ref q_2_2, .ref q_3_2, .ref q_4_2, .ref q_5_2, .ref q_6_2, .ref q_7_2, .ref q_8_2, .ref q_9_2, .int 0, .int 0, .int 0, .int 0, .int 0]))]) [0, 1] rfl
  have hD := hD.sub (ws' := [(h0, .inr (2, [.ref q_1, .ref q_3, .null, .null])), (q_1, .inr (6, [.ref q_1_2, .ref q_2_2, .ref q_3_2, .ref q_4_2, .ref q_5_2, .ref q_6_2, .ref q_7_2, .ref q_8_2, .ref q_9_2, .int 0, .int 0, .int 0, .int 0, .int 0]))]) [0, 1] (by decide) rfl
  have hK := hK.sub (tys' := []) [] rfl
  refine va_putF (D := (dC, dI)) (ci := 2) (v := .ref q_4) (ty := (.array .int)) (C := RX2) (T := TX2) (N := 4) hx hb hts hiX2 tyX2 tyX2_ok nmX2 hown hK hP hD hS 0 rfl rfl 2 (by decide) (hts (.fieldLink RX2 24 "CakePapers$Draft" "order" "[I") (by decide +kernel)) (fun _ h9 => h9) rfl hin rfl (by decide +kernel) rfl rfl (Nat.le_of_ble_eq_true rfl) dX2_init_31 (fun H locs hP hD hS => ?_)
  have hP : va_P (dC, dI) vwCl [(h0, .inr (2, [.ref q_1, .ref q_3, .ref q_4, .null])), (q_1, .inr (6, [.ref q_1_2, .ref q_2_2, .ref q_3_2, .ref q_4_2, .ref q_5_2, .ref q_6_2, .ref q_7_2, .ref q_8_2, .ref q_9_2, .int 0, .int 0, .int 0, .int 0, .int 0]))] H := hP
  have hD : va_D A [(h0, .inr (2, [.ref q_1, .ref q_3, .ref q_4, .null])), (q_1, .inr (6, [.ref q_1_2, .ref q_2_2, .ref q_3_2, .ref q_4_2, .ref q_5_2, .ref q_6_2, .ref q_7_2, .ref q_8_2, .ref q_9_2, .int 0, .int 0, .int 0, .int 0, .int 0]))] := hD
  refine lv_aload_n hx hb dX2_init_34 rfl (lv_at hl 0 rfl) ?_
  refine lv_bipush (v := 12) hx hb dX2_init_35 (by decide) ?_
  refine va_newa (atype := .boolean) (ty := .boolean) (n := 12) (N' := 12) (a0 := (12, .inl (fun _ => 0))) hx hb (hts (.arrayClass .boolean) (by decide +kernel)) rfl hK hP hD hS hA (fun _ => rfl) (by decide) (by decide) (by decide) (Nat.le_of_ble_eq_true rfl) (Nat.le_of_ble_eq_true rfl) dX2_init_37 (fun q_5 cA_5 H hK hP hD hS => ?_)
  have hK : va_K (dC, dI) vwCl [(cA_5, .boolean)] s := hK
  have hP : va_P (dC, dI) vwCl [(h0, .inr (2, [.ref q_1, .ref q_3, .ref q_4, .null])), (q_1, .inr (6, [.ref q_1_2, .ref q_2_2, .ref q_3_2, .ref q_4_2, .ref q_5_2, .ref q_6_2, .ref q_7_2, .ref q_8_2, .ref q_9_2, .int 0, .int 0, .int 0, .int 0, .int 0])), (q_5, .inl (cA_5, 12, .inl (fun _ => 0)))] H := hP
  have hD : va_D A [(h0, .inr (2, [.ref q_1, .ref q_3, .ref q_4, .null])), (q_1, .inr (6, [.ref q_1_2, .ref q_2_2, .ref q_3_2, .ref q_4_2, .ref q_5_2, .ref q_6_2, .ref q_7_2, .ref q_8_2, .ref q_9_2, .int 0, .int 0, .int 0, .int 0, .int 0])), (q_5, .inl (cA_5, 12, .inl (fun _ => 0)))] := hD
  refine W.widen (k := 13) (n := 722) (Nat.le_of_ble_eq_true rfl) (Nat.le_of_ble_eq_true rfl) ?_
  have hP := hP.sub (ws' := [(h0, .inr (2, [.ref q_1, .ref q_3, .ref q_4, .null])), (q_1, .inr (6, [.ref q_1_2, .ref q_2_2, .ref q_3_2, .ref q_4_2, .ref q_5_2, .ref q_6_2, .ref q_7_2, .ref q_8_2, .ref q_9_2, .int 0, .int 0, .int 0, .int 0, .int 0]))]) [0, 1] rfl
  have hD := hD.sub (ws' := [(h0, .inr (2, [.ref q_1, .ref q_3, .ref q_4, .null])), (q_1, .inr (6, [.ref q_1_2, .ref q_2_2, .ref q_3_2, .ref q_4_2, .ref q_5_2, .ref q_6_2, .ref q_7_2, .ref q_8_2, .ref q_9_2, .int 0, .int 0, .int 0, .int 0, .int 0]))]) [0, 1] (by decide) rfl
  have hK := hK.sub (tys' := []) [] rfl
  refine va_putF (D := (dC, dI)) (ci := 2) (v := .ref q_5) (ty := (.array .boolean)) (C := RX2) (T := TX2) (N := 4) hx hb hts hiX2 tyX2 tyX2_ok nmX2 hown hK hP hD hS 0 rfl rfl 3 (by decide) (hts (.fieldLink RX2 28 "CakePapers$Draft" "placed" "[Z") (by decide +kernel)) (fun _ h9 => h9) rfl hin rfl (by decide +kernel) rfl rfl (Nat.le_of_ble_eq_true rfl) dX2_init_39 (fun H locs hP hD hS => ?_)
  have hP : va_P (dC, dI) vwCl [(h0, .inr (2, [.ref q_1, .ref q_3, .ref q_4, .ref q_5])), (q_1, .inr (6, [.ref q_1_2, .ref q_2_2, .ref q_3_2, .ref q_4_2, .ref q_5_2, .ref q_6_2, .ref q_7_2, .ref q_8_2, .ref q_9_2, .int 0, .int 0, .int 0, .int 0, .int 0]))] H := hP
  have hD : va_D A [(h0, .inr (2, [.ref q_1, .ref q_3, .ref q_4, .ref q_5])), (q_1, .inr (6, [.ref q_1_2, .ref q_2_2, .ref q_3_2, .ref q_4_2, .ref q_5_2, .ref q_6_2, .ref q_7_2, .ref q_8_2, .ref q_9_2, .int 0, .int 0, .int 0, .int 0, .int 0]))] := hD
  refine W.widen (k := 13) (n := 722) (Nat.le_of_ble_eq_true rfl) (Nat.le_of_ble_eq_true rfl) ?_
  have hP9 := hP.sub (ws' := [(h0, .inr (2, [.ref q_1, .ref q_3, .ref q_4, .ref q_5]))]) [0] rfl
  have hD9 := hD.sub (ws' := [(h0, .inr (2, [.ref q_1, .ref q_3, .ref q_4, .ref q_5]))]) [0] (by decide) rfl
  exact W.vret hx hb hr (fun t ht hW => ⟨⟨(), rfl, trivial, q_1, q_3, q_4, q_5, by rw [ht]; exact hP9, hD9⟩, hS.F ht⟩) hS.2.2 dX2_init_42
def u_c_X5_init : List Cond := .code yX5_init cX5_init 1 none :: ([.methodLink RX5 5 objectInit, .instanceMethod objectInit, .code objectInit ⟨#[0xb1]⟩ 1 none, .arrayClass .boolean, .fieldLink RX5 13 "CakePapers$Likeness" "alikes" "[Z", .fieldLink RX5 17 "CakePapers$Likeness" "used" "[Z", .arrayClass .int, .fieldLink RX5 20 "CakePapers$Likeness" "weights" "[I", .fieldLink RX5 24 "CakePapers$Likeness" "lightest" "[I"] ++ wsX50)
set_option maxHeartbeats 1000000 in
set_option maxRecDepth 100000 in
theorem c_X5_init (l : Launch) (dC : Nat → ClassId) (dI : Nat → Nat → Nat) (sz : Nat) (h0 : Nat) : Met l yX5_init u_c_X5_init ({ frames := 1, cells := 4, slots := 476, locals := 20 }) (va_Pc [.ref h0] (fun U => U.heap.size = sz ∧ va_P (dC, dI) vwCl [(h0, .inr (5, [.null, .null, .null, .null, .null, .null]))] U.heap ∧ va_K (dC, dI) vwCl [] U ∧ va_D (fun _ => True) [(h0, .inr (5, [.null, .null, .null, .null, .null, .null]))])) (va_Qv (fun (_ : Unit) => True) (fun _ t => ∃ (q_1 : Nat), ∃ (q_2 : Nat), ∃ (q_3 : Nat), ∃ (q_4 : Nat), va_P (dC, dI) vwCl [(h0, .inr (5, [.ref q_1, .ref q_2, .ref q_3, .ref q_4, .null, .null]))] t.heap ∧ va_D (va_A [(h0, .inr (5, [.null, .null, .null, .null, .null, .null]))] sz) [(h0, .inr (5, [.ref q_1, .ref q_2, .ref q_3, .ref q_4, .null, .null]))]) (va_A [(h0, .inr (5, [.null, .null, .null, .null, .null, .null]))] sz)) 4 476 (va_A [(h0, .inr (5, [.null, .null, .null, .null, .null, .null]))] sz) := by
  refine Met.ofW (cc := cX5_init) (maxL := 1) (ret := none) (by decide) rfl ?_
  intro p e s m args below meth c s₁ B hml hv
  obtain ⟨rfl, hsz, hP, hK, hD0⟩ := hv
  have hx := B.exec
  have hb := B.bytes
  have hr := B.returns
  have hts := atoms_spec (ws := u_c_X5_init) B.pre
  have hown : s.vm.findClass RX5 = some m.cls := findClass_of_methodNamed B.named
  have hlocks := B.notSynchronized
  have hin : meth.name = "<init>" := (name_of_methodNamed B.named B.method).1
  have hiX5 : ∀ w ∈ wsX50, w ∈ u_c_X5_init := fun w h => List.mem_cons_of_mem _ (List.mem_append_right _ h)
  subst hsz
  have hD := hD0.self (sz := s.heap.size)
  generalize hAe : va_A [(h0, .inr (5, [.null, .null, .null, .null, .null, .null]))] s.heap.size = A at hD ⊢
  have hA : ∀ q : Nat, s.heap.size ≤ q → A q := fun q h => by rw [← hAe]; exact Or.inr h
  have hS : va_S A s.heap s.heap [] := va_S.rf
  obtain ⟨H, hH⟩ : ∃ H : Heap, H = s.heap := ⟨_, rfl⟩
  have hP : va_P (dC, dI) vwCl [(h0, .inr (5, [.null, .null, .null, .null, .null, .null]))] H := by rw [hH]; exact hP
  have hS : va_S A s.heap H [] := by rw [hH]; exact hS
  have hl := lv_entry ([.ref h0]) (n := 1) (Nat.le_of_ble_eq_true rfl)
  rw [lg_entry_eq]
  generalize (lg_sl ([.ref h0]) ++ List.replicate (1 - (lg_sl ([.ref h0])).length) Slot.unset).toArray = ls at hl ⊢
  have hl : lv_has ls 1 [(0, .ref h0)] := hl
  suffices h9 : W p l e (headSpec u_c_X5_init _).room s m _ below meth c H [] 0 0 _ (F0 m 0 ls []) by rw [hH] at h9; exact h9
  refine lv_aload_n hx hb dX5_init_0 rfl (lv_at hl 0 rfl) ?_
  refine W.objInit hx hb hown (hts (.methodLink RX5 5 objectInit) (by decide +kernel)) (hts (.instanceMethod objectInit) (by decide +kernel)) (hts (.code objectInit ⟨#[0xb1]⟩ 1 none) (by decide +kernel)) rfl (by rw [hml]; exact hl.1) rfl dX5_init_1 (Nat.le_of_ble_eq_true rfl) (Nat.le_of_ble_eq_true rfl) ?_
  refine W.eq (g2 := F0 m 4 ls []) rfl ?_
  refine lv_aload_n hx hb dX5_init_4 rfl (lv_at hl 0 rfl) ?_
  refine lv_sipush (v := 144) hx hb dX5_init_5 (by decide) ?_
  refine va_newa (atype := .boolean) (ty := .boolean) (n := 144) (N' := 144) (a0 := (144, .inl (fun _ => 0))) hx hb (hts (.arrayClass .boolean) (by decide +kernel)) rfl hK hP hD hS hA (fun _ => rfl) (by decide) (by decide) (by decide) (Nat.le_of_ble_eq_true rfl) (Nat.le_of_ble_eq_true rfl) dX5_init_8 (fun q_1 cA_1 H hK hP hD hS => ?_)
  have hK : va_K (dC, dI) vwCl [(cA_1, .boolean)] s := hK
  have hP : va_P (dC, dI) vwCl [(h0, .inr (5, [.null, .null, .null, .null, .null, .null])), (q_1, .inl (cA_1, 144, .inl (fun _ => 0)))] H := hP
  have hD : va_D A [(h0, .inr (5, [.null, .null, .null, .null, .null, .null])), (q_1, .inl (cA_1, 144, .inl (fun _ => 0)))] := hD
  refine W.widen (k := 1) (n := 144) (Nat.le_of_ble_eq_true rfl) (Nat.le_of_ble_eq_true rfl) ?_
  have hP := hP.sub (ws' := [(h0, .inr (5, [.null, .null, .null, .null, .null, .null]))]) [0] rfl
  have hD := hD.sub (ws' := [(h0, .inr (5, [.null, .null, .null, .null, .null, .null]))]) [0] (by decide) rfl
  have hK := hK.sub (tys' := []) [] rfl
  refine va_putF (D := (dC, dI)) (ci := 5) (v := .ref q_1) (ty := (.array .boolean)) (C := RX5) (T := TX5) (N := 6) hx hb hts hiX5 tyX5 tyX5_ok nmX5 hown hK hP hD hS 0 rfl rfl 0 (by decide) (hts (.fieldLink RX5 13 "CakePapers$Likeness" "alikes" "[Z") (by decide +kernel)) (fun _ h9 => h9) rfl hin rfl (by decide +kernel) rfl rfl (Nat.le_of_ble_eq_true rfl) dX5_init_10 (fun H locs hP hD hS => ?_)
  have hP : va_P (dC, dI) vwCl [(h0, .inr (5, [.ref q_1, .null, .null, .null, .null, .null]))] H := hP
  have hD : va_D A [(h0, .inr (5, [.ref q_1, .null, .null, .null, .null, .null]))] := hD
  refine lv_aload_n hx hb dX5_init_13 rfl (lv_at hl 0 rfl) ?_
  refine lv_bipush (v := 12) hx hb dX5_init_14 (by decide) ?_
  refine va_newa (atype := .boolean) (ty := .boolean) (n := 12) (N' := 12) (a0 := (12, .inl (fun _ => 0))) hx hb (hts (.arrayClass .boolean) (by decide +kernel)) rfl hK hP hD hS hA (fun _ => rfl) (by decide) (by decide) (by decide) (Nat.le_of_ble_eq_true rfl) (Nat.le_of_ble_eq_true rfl) dX5_init_16 (fun q_2 cA_2 H hK hP hD hS => ?_)
  have hK : va_K (dC, dI) vwCl [(cA_2, .boolean)] s := hK
  have hP : va_P (dC, dI) vwCl [(h0, .inr (5, [.ref q_1, .null, .null, .null, .null, .null])), (q_2, .inl (cA_2, 12, .inl (fun _ => 0)))] H := hP
  have hD : va_D A [(h0, .inr (5, [.ref q_1, .null, .null, .null, .null, .null])), (q_2, .inl (cA_2, 12, .inl (fun _ => 0)))] := hD
  refine W.widen (k := 2) (n := 156) (Nat.le_of_ble_eq_true rfl) (Nat.le_of_ble_eq_true rfl) ?_
  have hP := hP.sub (ws' := [(h0, .inr (5, [.ref q_1, .null, .null, .null, .null, .null]))]) [0] rfl
  have hD := hD.sub (ws' := [(h0, .inr (5, [.ref q_1, .null, .null, .null, .null, .null]))]) [0] (by decide) rfl
  have hK := hK.sub (tys' := []) [] rfl
  refine va_putF (D := (dC, dI)) (ci := 5) (v := .ref q_2) (ty := (.array .boolean)) (C := RX5) (T := TX5) (N := 6) hx hb hts hiX5 tyX5 tyX5_ok nmX5 hown hK hP hD hS 0 rfl rfl 1 (by decide) (hts (.fieldLink RX5 17 "CakePapers$Likeness" "used" "[Z") (by decide +kernel)) (fun _ h9 => h9) rfl hin rfl (by decide +kernel) rfl rfl (Nat.le_of_ble_eq_true rfl) dX5_init_18 (fun H locs hP hD hS => ?_)
  have hP : va_P (dC, dI) vwCl [(h0, .inr (5, [.ref q_1, .ref q_2, .null, .null, .null, .null]))] H := hP
  have hD : va_D A [(h0, .inr (5, [.ref q_1, .ref q_2, .null, .null, .null, .null]))] := hD
  refine lv_aload_n hx hb dX5_init_21 rfl (lv_at hl 0 rfl) ?_
  refine lv_bipush (v := 64) hx hb dX5_init_22 (by decide) ?_
  refine va_newa (atype := .int) (ty := .int) (n := 64) (N' := 64) (a0 := (64, .inl (fun _ => 0))) hx hb (hts (.arrayClass .int) (by decide +kernel)) rfl hK hP hD hS hA (fun _ => rfl) (by decide) (by decide) (by decide) (Nat.le_of_ble_eq_true rfl) (Nat.le_of_ble_eq_true rfl) dX5_init_24 (fun q_3 cA_3 H hK hP hD hS => ?_)
  have hK : va_K (dC, dI) vwCl [(cA_3, .int)] s := hK
  have hP : va_P (dC, dI) vwCl [(h0, .inr (5, [.ref q_1, .ref q_2, .null, .null, .null, .null])), (q_3, .inl (cA_3, 64, .inl (fun _ => 0)))] H := hP
  have hD : va_D A [(h0, .inr (5, [.ref q_1, .ref q_2, .null, .null, .null, .null])), (q_3, .inl (cA_3, 64, .inl (fun _ => 0)))] := hD
  refine W.widen (k := 3) (n := 220) (Nat.le_of_ble_eq_true rfl) (Nat.le_of_ble_eq_true rfl) ?_
  have hP := hP.sub (ws' := [(h0, .inr (5, [.ref q_1, .ref q_2, .null, .null, .null, .null]))]) [0] rfl
  have hD := hD.sub (ws' := [(h0, .inr (5, [.ref q_1, .ref q_2, .null, .null, .null, .null]))]) [0] (by decide) rfl
  have hK := hK.sub (tys' := []) [] rfl
  refine va_putF (D := (dC, dI)) (ci := 5) (v := .ref q_3) (ty := (.array .int)) (C := RX5) (T := TX5) (N := 6) hx hb hts hiX5 tyX5 tyX5_ok nmX5 hown hK hP hD hS 0 rfl rfl 2 (by decide) (hts (.fieldLink RX5 20 "CakePapers$Likeness" "weights" "[I") (by decide +kernel)) (fun _ h9 => h9) rfl hin rfl (by decide +kernel) rfl rfl (Nat.le_of_ble_eq_true rfl) dX5_init_26 (fun H locs hP hD hS => ?_)
  have hP : va_P (dC, dI) vwCl [(h0, .inr (5, [.ref q_1, .ref q_2, .ref q_3, .null, .null, .null]))] H := hP
  have hD : va_D A [(h0, .inr (5, [.ref q_1, .ref q_2, .ref q_3, .null, .null, .null]))] := hD
  refine lv_aload_n hx hb dX5_init_29 rfl (lv_at hl 0 rfl) ?_
  refine lv_sipush (v := 256) hx hb dX5_init_30 (by decide) ?_
  refine va_newa (atype := .int) (ty := .int) (n := 256) (N' := 256) (a0 := (256, .inl (fun _ => 0))) hx hb (hts (.arrayClass .int) (by decide +kernel)) rfl hK hP hD hS hA (fun _ => rfl) (by decide) (by decide) (by decide) (Nat.le_of_ble_eq_true rfl) (Nat.le_of_ble_eq_true rfl) dX5_init_33 (fun q_4 cA_4 H hK hP hD hS => ?_)
  have hK : va_K (dC, dI) vwCl [(cA_4, .int)] s := hK
  have hP : va_P (dC, dI) vwCl [(h0, .inr (5, [.ref q_1, .ref q_2, .ref q_3, .null, .null, .null])), (q_4, .inl (cA_4, 256, .inl (fun _ => 0)))] H := hP
  have hD : va_D A [(h0, .inr (5, [.ref q_1, .ref q_2, .ref q_3, .null, .null, .null])), (q_4, .inl (cA_4, 256, .inl (fun _ => 0)))] := hD
  refine W.widen (k := 4) (n := 476) (Nat.le_of_ble_eq_true rfl) (Nat.le_of_ble_eq_true rfl) ?_
  have hP := hP.sub (ws' := [(h0, .inr (5, [.ref q_1, .ref q_2, .ref q_3, .null, .null, .null]))]) [0] rfl
  have hD := hD.sub (ws' := [(h0, .inr (5, [.ref q_1, .ref q_2, .ref q_3, .null, .null, .null]))]) [0] (by decide) rfl
  have hK := hK.sub (tys' := []) [] rfl
  refine va_putF (D := (dC, dI)) (ci := 5) (v := .ref q_4) (ty := (.array .int)) (C := RX5) (T := TX5) (N := 6) hx hb hts hiX5 tyX5 tyX5_ok nmX5 hown hK hP hD hS 0 rfl rfl 3 (by decide) (hts (.fieldLink RX5 24 "CakePapers$Likeness" "lightest" "[I") (by decide +kernel)) (fun _ h9 => h9) rfl hin rfl (by decide +kernel) rfl rfl (Nat.le_of_ble_eq_true rfl) dX5_init_35 (fun H locs hP hD hS => ?_)
  have hP : va_P (dC, dI) vwCl [(h0, .inr (5, [.ref q_1, .ref q_2, .ref q_3, .ref q_4, .null, .null]))] H := hP
  have hD : va_D A [(h0, .inr (5, [.ref q_1, .ref q_2, .ref q_3, .ref q_4, .null, .null]))] := hD
  refine W.widen (k := 4) (n := 476) (Nat.le_of_ble_eq_true rfl) (Nat.le_of_ble_eq_true rfl) ?_
  have hP9 := hP.sub (ws' := [(h0, .inr (5, [.ref q_1, .ref q_2, .ref q_3, .ref q_4, .null, .null]))]) [0] rfl
  have hD9 := hD.sub (ws' := [(h0, .inr (5, [.ref q_1, .ref q_2, .ref q_3, .ref q_4, .null, .null]))]) [0] (by decide) rfl
  exact W.vret hx hb hr (fun t ht hW => ⟨⟨(), rfl, trivial, q_1, q_2, q_3, q_4, by rw [ht]; exact hP9, hD9⟩, hS.F ht⟩) hS.2.2 dX5_init_38
def u_c_X9_init : List Cond := .code yX9_init cX9_init 1 none :: ([.methodLink RX9 3 objectInit, .instanceMethod objectInit, .code objectInit ⟨#[0xb1]⟩ 1 none, .arrayClass .int, .fieldLink RX9 9 "CakePapers$Want" "codes" "[I", .arrayClass .long, .fieldLink RX9 15 "CakePapers$Want" "values" "[J", .fieldLink RX9 19 "CakePapers$Want" "stack" "[I"] ++ wsX90)
set_option maxHeartbeats 1000000 in
set_option maxRecDepth 100000 in
theorem c_X9_init (l : Launch) (dC : Nat → ClassId) (dI : Nat → Nat → Nat) (sz : Nat) (h0 : Nat) : Met l yX9_init u_c_X9_init ({ frames := 1, cells := 3, slots := 841, locals := 20 }) (va_Pc [.ref h0] (fun U => U.heap.size = sz ∧ va_P (dC, dI) vwCl [(h0, .inr (9, [.null, .null, .null, .int 0, .int 0]))] U.heap ∧ va_K (dC, dI) vwCl [] U ∧ va_D (fun _ => True) [(h0, .inr (9, [.null, .null, .null, .int 0, .int 0]))])) (va_Qv (fun (_ : Unit) => True) (fun _ t => ∃ (q_1 : Nat), ∃ (q_2 : Nat), ∃ (q_3 : Nat), va_P (dC, dI) vwCl [(h0, .inr (9, [.ref q_1, .ref q_2, .ref q_3, .int 0, .int 0]))] t.heap ∧ va_D (va_A [(h0, .inr (9, [.null, .null, .null, .int 0, .int 0]))] sz) [(h0, .inr (9, [.ref q_1, .ref q_2, .ref q_3, .int 0, .int 0]))]) (va_A [(h0, .inr (9, [.null, .null, .null, .int 0, .int 0]))] sz)) 3 841 (va_A [(h0, .inr (9, [.null, .null, .null, .int 0, .int 0]))] sz) := by
  refine Met.ofW (cc := cX9_init) (maxL := 1) (ret := none) (by decide) rfl ?_
  intro p e s m args below meth c s₁ B hml hv
  obtain ⟨rfl, hsz, hP, hK, hD0⟩ := hv
  have hx := B.exec
  have hb := B.bytes
  have hr := B.returns
  have hts := atoms_spec (ws := u_c_X9_init) B.pre
  have hown : s.vm.findClass RX9 = some m.cls := findClass_of_methodNamed B.named
  have hlocks := B.notSynchronized
  have hin : meth.name = "<init>" := (name_of_methodNamed B.named B.method).1
  have hiX9 : ∀ w ∈ wsX90, w ∈ u_c_X9_init := fun w h => List.mem_cons_of_mem _ (List.mem_append_right _ h)
  subst hsz
  have hD := hD0.self (sz := s.heap.size)
  generalize hAe : va_A [(h0, .inr (9, [.null, .null, .null, .int 0, .int 0]))] s.heap.size = A at hD ⊢
  have hA : ∀ q : Nat, s.heap.size ≤ q → A q := fun q h => by rw [← hAe]; exact Or.inr h
  have hS : va_S A s.heap s.heap [] := va_S.rf
  obtain ⟨H, hH⟩ : ∃ H : Heap, H = s.heap := ⟨_, rfl⟩
  have hP : va_P (dC, dI) vwCl [(h0, .inr (9, [.null, .null, .null, .int 0, .int 0]))] H := by rw [hH]; exact hP
  have hS : va_S A s.heap H [] := by rw [hH]; exact hS
  have hl := lv_entry ([.ref h0]) (n := 1) (Nat.le_of_ble_eq_true rfl)
  rw [lg_entry_eq]
  generalize (lg_sl ([.ref h0]) ++ List.replicate (1 - (lg_sl ([.ref h0])).length) Slot.unset).toArray = ls at hl ⊢
  have hl : lv_has ls 1 [(0, .ref h0)] := hl
  suffices h9 : W p l e (headSpec u_c_X9_init _).room s m _ below meth c H [] 0 0 _ (F0 m 0 ls []) by rw [hH] at h9; exact h9
  refine lv_aload_n hx hb dX9_init_0 rfl (lv_at hl 0 rfl) ?_
  refine W.objInit hx hb hown (hts (.methodLink RX9 3 objectInit) (by decide +kernel)) (hts (.instanceMethod objectInit) (by decide +kernel)) (hts (.code objectInit ⟨#[0xb1]⟩ 1 none) (by decide +kernel)) rfl (by rw [hml]; exact hl.1) rfl dX9_init_1 (Nat.le_of_ble_eq_true rfl) (Nat.le_of_ble_eq_true rfl) ?_
  refine W.eq (g2 := F0 m 4 ls []) rfl ?_
  refine lv_aload_n hx hb dX9_init_4 rfl (lv_at hl 0 rfl) ?_
  refine lv_sipush (v := 400) hx hb dX9_init_5 (by decide) ?_
  refine va_newa (atype := .int) (ty := .int) (n := 400) (N' := 400) (a0 := (400, .inl (fun _ => 0))) hx hb (hts (.arrayClass .int) (by decide +kernel)) rfl hK hP hD hS hA (fun _ => rfl) (by decide) (by decide) (by decide) (Nat.le_of_ble_eq_true rfl) (Nat.le_of_ble_eq_true rfl) dX9_init_8 (fun q_1 cA_1 H hK hP hD hS => ?_)
  have hK : va_K (dC, dI) vwCl [(cA_1, .int)] s := hK
  have hP : va_P (dC, dI) vwCl [(h0, .inr (9, [.null, .null, .null, .int 0, .int 0])), (q_1, .inl (cA_1, 400, .inl (fun _ => 0)))] H := hP
  have hD : va_D A [(h0, .inr (9, [.null, .null, .null, .int 0, .int 0])), (q_1, .inl (cA_1, 400, .inl (fun _ => 0)))] := hD
  refine W.widen (k := 1) (n := 400) (Nat.le_of_ble_eq_true rfl) (Nat.le_of_ble_eq_true rfl) ?_
  have hP := hP.sub (ws' := [(h0, .inr (9, [.null, .null, .null, .int 0, .int 0]))]) [0] rfl
  have hD := hD.sub (ws' := [(h0, .inr (9, [.null, .null, .null, .int 0, .int 0]))]) [0] (by decide) rfl
  have hK := hK.sub (tys' := []) [] rfl
  refine va_putF (D := (dC, dI)) (ci := 9) (v := .ref q_1) (ty := (.array .int)) (C := RX9) (T := TX9) (N := 5) hx hb hts hiX9 tyX9 tyX9_ok nmX9 hown hK hP hD hS 0 rfl rfl 0 (by decide) (hts (.fieldLink RX9 9 "CakePapers$Want" "codes" "[I") (by decide +kernel)) (fun _ h9 => h9) rfl hin rfl (by decide +kernel) rfl rfl (Nat.le_of_ble_eq_true rfl) dX9_init_10 (fun H locs hP hD hS => ?_)
  have hP : va_P (dC, dI) vwCl [(h0, .inr (9, [.ref q_1, .null, .null, .int 0, .int 0]))] H := hP
  have hD : va_D A [(h0, .inr (9, [.ref q_1, .null, .null, .int 0, .int 0]))] := hD
  refine lv_aload_n hx hb dX9_init_13 rfl (lv_at hl 0 rfl) ?_
  refine lv_sipush (v := 400) hx hb dX9_init_14 (by decide) ?_
  refine va_newa (atype := .long) (ty := .long) (n := 400) (N' := 400) (a0 := (400, .inr (.inl (fun _ => 0)))) hx hb (hts (.arrayClass .long) (by decide +kernel)) rfl hK hP hD hS hA (fun _ => rfl) (by decide) (by decide) (by decide) (Nat.le_of_ble_eq_true rfl) (Nat.le_of_ble_eq_true rfl) dX9_init_17 (fun q_2 cA_2 H hK hP hD hS => ?_)
  have hK : va_K (dC, dI) vwCl [(cA_2, .long)] s := hK
  have hP : va_P (dC, dI) vwCl [(h0, .inr (9, [.ref q_1, .null, .null, .int 0, .int 0])), (q_2, .inl (cA_2, 400, .inr (.inl (fun _ => 0))))] H := hP
  have hD : va_D A [(h0, .inr (9, [.ref q_1, .null, .null, .int 0, .int 0])), (q_2, .inl (cA_2, 400, .inr (.inl (fun _ => 0))))] := hD
  refine W.widen (k := 2) (n := 800) (Nat.le_of_ble_eq_true rfl) (Nat.le_of_ble_eq_true rfl) ?_
  have hP := hP.sub (ws' := [(h0, .inr (9, [.ref q_1, .null, .null, .int 0, .int 0]))]) [0] rfl
  have hD := hD.sub (ws' := [(h0, .inr (9, [.ref q_1, .null, .null, .int 0, .int 0]))]) [0] (by decide) rfl
  have hK := hK.sub (tys' := []) [] rfl
  refine va_putF (D := (dC, dI)) (ci := 9) (v := .ref q_2) (ty := (.array .long)) (C := RX9) (T := TX9) (N := 5) hx hb hts hiX9 tyX9 tyX9_ok nmX9 hown hK hP hD hS 0 rfl rfl 1 (by decide) (hts (.fieldLink RX9 15 "CakePapers$Want" "values" "[J") (by decide +kernel)) (fun _ h9 => h9) rfl hin rfl (by decide +kernel) rfl rfl (Nat.le_of_ble_eq_true rfl) dX9_init_19 (fun H locs hP hD hS => ?_)
  have hP : va_P (dC, dI) vwCl [(h0, .inr (9, [.ref q_1, .ref q_2, .null, .int 0, .int 0]))] H := hP
  have hD : va_D A [(h0, .inr (9, [.ref q_1, .ref q_2, .null, .int 0, .int 0]))] := hD
  refine lv_aload_n hx hb dX9_init_22 rfl (lv_at hl 0 rfl) ?_
  refine lv_bipush (v := 41) hx hb dX9_init_23 (by decide) ?_
  refine va_newa (atype := .int) (ty := .int) (n := 41) (N' := 41) (a0 := (41, .inl (fun _ => 0))) hx hb (hts (.arrayClass .int) (by decide +kernel)) rfl hK hP hD hS hA (fun _ => rfl) (by decide) (by decide) (by decide) (Nat.le_of_ble_eq_true rfl) (Nat.le_of_ble_eq_true rfl) dX9_init_25 (fun q_3 cA_3 H hK hP hD hS => ?_)
  have hK : va_K (dC, dI) vwCl [(cA_3, .int)] s := hK
  have hP : va_P (dC, dI) vwCl [(h0, .inr (9, [.ref q_1, .ref q_2, .null, .int 0, .int 0])), (q_3, .inl (cA_3, 41, .inl (fun _ => 0)))] H := hP
  have hD : va_D A [(h0, .inr (9, [.ref q_1, .ref q_2, .null, .int 0, .int 0])), (q_3, .inl (cA_3, 41, .inl (fun _ => 0)))] := hD
  refine W.widen (k := 3) (n := 841) (Nat.le_of_ble_eq_true rfl) (Nat.le_of_ble_eq_true rfl) ?_
  have hP := hP.sub (ws' := [(h0, .inr (9, [.ref q_1, .ref q_2, .null, .int 0, .int 0]))]) [0] rfl
  have hD := hD.sub (ws' := [(h0, .inr (9, [.ref q_1, .ref q_2, .null, .int 0, .int 0]))]) [0] (by decide) rfl
  have hK := hK.sub (tys' := []) [] rfl
  refine va_putF (D := (dC, dI)) (ci := 9) (v := .ref q_3) (ty := (.array .int)) (C := RX9) (T := TX9) (N := 5) hx hb hts hiX9 tyX9 tyX9_ok nmX9 hown hK hP hD hS 0 rfl rfl 2 (by decide) (hts (.fieldLink RX9 19 "CakePapers$Want" "stack" "[I") (by decide +kernel)) (fun _ h9 => h9) rfl hin rfl (by decide +kernel) rfl rfl (Nat.le_of_ble_eq_true rfl) dX9_init_27 (fun H locs hP hD hS => ?_)
  have hP : va_P (dC, dI) vwCl [(h0, .inr (9, [.ref q_1, .ref q_2, .ref q_3, .int 0, .int 0]))] H := hP
  have hD : va_D A [(h0, .inr (9, [.ref q_1, .ref q_2, .ref q_3, .int 0, .int 0]))] := hD
  refine W.widen (k := 3) (n := 841) (Nat.le_of_ble_eq_true rfl) (Nat.le_of_ble_eq_true rfl) ?_
  have hP9 := hP.sub (ws' := [(h0, .inr (9, [.ref q_1, .ref q_2, .ref q_3, .int 0, .int 0]))]) [0] rfl
  have hD9 := hD.sub (ws' := [(h0, .inr (9, [.ref q_1, .ref q_2, .ref q_3, .int 0, .int 0]))]) [0] (by decide) rfl
  exact W.vret hx hb hr (fun t ht hW => ⟨⟨(), rfl, trivial, q_1, q_2, q_3, by rw [ht]; exact hP9, hD9⟩, hS.F ht⟩) hS.2.2 dX9_init_30
def u_c_X7_init : List Cond := .code yX7_init cX7_init 2 none :: ([.methodLink RX7 3 objectInit, .instanceMethod objectInit, .code objectInit ⟨#[0xb1]⟩ 1 none, .fieldLink RX7 9 "CakePapers$PaperReader" "scanner" "LCakePapers$Scanner;", .arrayClass .long, .fieldLink RX7 15 "CakePapers$PaperReader" "called" "[J", .fieldLink RX7 19 "CakePapers$PaperReader" "meant" "[J"] ++ wsX70)
set_option maxHeartbeats 1000000 in
set_option maxRecDepth 100000 in
theorem c_X7_init (l : Launch) (dC : Nat → ClassId) (dI : Nat → Nat → Nat) (sz : Nat) (h0 h1 : Nat) : Met l yX7_init u_c_X7_init ({ frames := 1, cells := 2, slots := 12, locals := 20 }) (va_Pc [.ref h0, .ref h1] (fun U => U.heap.size = sz ∧ va_P (dC, dI) vwCl [(h0, .inr (7, [.null, .null, .null, .int 0]))] U.heap ∧ va_K (dC, dI) vwCl [] U ∧ va_D (fun _ => True) [(h0, .inr (7, [.null, .null, .null, .int 0]))])) (va_Qv (fun (_ : Unit) => True) (fun _ t => ∃ (q_1 : Nat), ∃ (q_2 : Nat), va_P (dC, dI) vwCl [(h0, .inr (7, [.ref h1, .ref q_1, .ref q_2, .int 0]))] t.heap ∧ va_D (va_A [(h0, .inr (7, [.null, .null, .null, .int 0]))] sz) [(h0, .inr (7, [.ref h1, .ref q_1, .ref q_2, .int 0]))]) (va_A [(h0, .inr (7, [.null, .null, .null, .int 0]))] sz)) 2 12 (va_A [(h0, .inr (7, [.null, .null, .null, .int 0]))] sz) := by
  refine Met.ofW (cc := cX7_init) (maxL := 2) (ret := none) (by decide) rfl ?_
  intro p e s m args below meth c s₁ B hml hv
  obtain ⟨rfl, hsz, hP, hK, hD0⟩ := hv
  have hx := B.exec
  have hb := B.bytes
  have hr := B.returns
  have hts := atoms_spec (ws := u_c_X7_init) B.pre
  have hown : s.vm.findClass RX7 = some m.cls := findClass_of_methodNamed B.named
  have hlocks := B.notSynchronized
  have hin : meth.name = "<init>" := (name_of_methodNamed B.named B.method).1
  have hiX7 : ∀ w ∈ wsX70, w ∈ u_c_X7_init := fun w h => List.mem_cons_of_mem _ (List.mem_append_right _ h)
  subst hsz
  have hD := hD0.self (sz := s.heap.size)
  generalize hAe : va_A [(h0, .inr (7, [.null, .null, .null, .int 0]))] s.heap.size = A at hD ⊢
  have hA : ∀ q : Nat, s.heap.size ≤ q → A q := fun q h => by rw [← hAe]; exact Or.inr h
  have hS : va_S A s.heap s.heap [] := va_S.rf
  obtain ⟨H, hH⟩ : ∃ H : Heap, H = s.heap := ⟨_, rfl⟩
  have hP : va_P (dC, dI) vwCl [(h0, .inr (7, [.null, .null, .null, .int 0]))] H := by rw [hH]; exact hP
  have hS : va_S A s.heap H [] := by rw [hH]; exact hS
  have hl := lv_entry ([.ref h0, .ref h1]) (n := 2) (Nat.le_of_ble_eq_true rfl)
  rw [lg_entry_eq]
  generalize (lg_sl ([.ref h0, .ref h1]) ++ List.replicate (2 - (lg_sl ([.ref h0, .ref h1])).length) Slot.unset).toArray = ls at hl ⊢
  have hl : lv_has ls 2 [(0, .ref h0), (1, .ref h1)] := hl
  suffices h9 : W p l e (headSpec u_c_X7_init _).room s m _ below meth c H [] 0 0 _ (F0 m 0 ls []) by rw [hH] at h9; exact h9
  refine lv_aload_n hx hb dX7_init_0 rfl (lv_at hl 0 rfl) ?_
  refine W.objInit hx hb hown (hts (.methodLink RX7 3 objectInit) (by decide +kernel)) (hts (.instanceMethod objectInit) (by decide +kernel)) (hts (.code objectInit ⟨#[0xb1]⟩ 1 none) (by decide +kernel)) rfl (by rw [hml]; exact hl.1) rfl dX7_init_1 (Nat.le_of_ble_eq_true rfl) (Nat.le_of_ble_eq_true rfl) ?_
  refine W.eq (g2 := F0 m 4 ls []) rfl ?_
  refine lv_aload_n hx hb dX7_init_4 rfl (lv_at hl 0 rfl) ?_
  refine lv_aload_n hx hb dX7_init_5 rfl (lv_at hl 1 rfl) ?_
  refine va_putF (D := (dC, dI)) (ci := 7) (v := .ref h1) (ty := (.object "CakePapers$Scanner")) (C := RX7) (T := TX7) (N := 4) hx hb hts hiX7 tyX7 tyX7_ok nmX7 hown hK hP hD hS 0 rfl rfl 0 (by decide) (hts (.fieldLink RX7 9 "CakePapers$PaperReader" "scanner" "LCakePapers$Scanner;") (by decide +kernel)) (fun _ h9 => h9) rfl hin rfl (by decide +kernel) rfl rfl (Nat.le_of_ble_eq_true rfl) dX7_init_6 (fun H locs hP hD hS => ?_)
  have hP : va_P (dC, dI) vwCl [(h0, .inr (7, [.ref h1, .null, .null, .int 0]))] H := hP
  have hD : va_D A [(h0, .inr (7, [.ref h1, .null, .null, .int 0]))] := hD
  refine lv_aload_n hx hb dX7_init_9 rfl (lv_at hl 0 rfl) ?_
  refine lv_bipush (v := 6) hx hb dX7_init_10 (by decide) ?_
  refine va_newa (atype := .long) (ty := .long) (n := 6) (N' := 6) (a0 := (6, .inr (.inl (fun _ => 0)))) hx hb (hts (.arrayClass .long) (by decide +kernel)) rfl hK hP hD hS hA (fun _ => rfl) (by decide) (by decide) (by decide) (Nat.le_of_ble_eq_true rfl) (Nat.le_of_ble_eq_true rfl) dX7_init_12 (fun q_1 cA_1 H hK hP hD hS => ?_)
  have hK : va_K (dC, dI) vwCl [(cA_1, .long)] s := hK
  have hP : va_P (dC, dI) vwCl [(h0, .inr (7, [.ref h1, .null, .null, .int 0])), (q_1, .inl (cA_1, 6, .inr (.inl (fun _ => 0))))] H := hP
  have hD : va_D A [(h0, .inr (7, [.ref h1, .null, .null, .int 0])), (q_1, .inl (cA_1, 6, .inr (.inl (fun _ => 0))))] := hD
  refine W.widen (k := 1) (n := 6) (Nat.le_of_ble_eq_true rfl) (Nat.le_of_ble_eq_true rfl) ?_
  have hP := hP.sub (ws' := [(h0, .inr (7, [.ref h1, .null, .null, .int 0]))]) [0] rfl
  have hD := hD.sub (ws' := [(h0, .inr (7, [.ref h1, .null, .null, .int 0]))]) [0] (by decide) rfl
  have hK := hK.sub (tys' := []) [] rfl
  refine va_putF (D := (dC, dI)) (ci := 7) (v := .ref q_1) (ty := (.array .long)) (C := RX7) (T := TX7) (N := 4) hx hb hts hiX7 tyX7 tyX7_ok nmX7 hown hK hP hD hS 0 rfl rfl 1 (by decide) (hts (.fieldLink RX7 15 "CakePapers$PaperReader" "called" "[J") (by decide +kernel)) (fun _ h9 => h9) rfl hin rfl (by decide +kernel) rfl rfl (Nat.le_of_ble_eq_true rfl) dX7_init_14 (fun H locs hP hD hS => ?_)
  have hP : va_P (dC, dI) vwCl [(h0, .inr (7, [.ref h1, .ref q_1, .null, .int 0]))] H := hP
  have hD : va_D A [(h0, .inr (7, [.ref h1, .ref q_1, .null, .int 0]))] := hD
  refine lv_aload_n hx hb dX7_init_17 rfl (lv_at hl 0 rfl) ?_
  refine lv_bipush (v := 6) hx hb dX7_init_18 (by decide) ?_
  refine va_newa (atype := .long) (ty := .long) (n := 6) (N' := 6) (a0 := (6, .inr (.inl (fun _ => 0)))) hx hb (hts (.arrayClass .long) (by decide +kernel)) rfl hK hP hD hS hA (fun _ => rfl) (by decide) (by decide) (by decide) (Nat.le_of_ble_eq_true rfl) (Nat.le_of_ble_eq_true rfl) dX7_init_20 (fun q_2 cA_2 H hK hP hD hS => ?_)
  have hK : va_K (dC, dI) vwCl [(cA_2, .long)] s := hK
  have hP : va_P (dC, dI) vwCl [(h0, .inr (7, [.ref h1, .ref q_1, .null, .int 0])), (q_2, .inl (cA_2, 6, .inr (.inl (fun _ => 0))))] H := hP
  have hD : va_D A [(h0, .inr (7, [.ref h1, .ref q_1, .null, .int 0])), (q_2, .inl (cA_2, 6, .inr (.inl (fun _ => 0))))] := hD
  refine W.widen (k := 2) (n := 12) (Nat.le_of_ble_eq_true rfl) (Nat.le_of_ble_eq_true rfl) ?_
  have hP := hP.sub (ws' := [(h0, .inr (7, [.ref h1, .ref q_1, .null, .int 0]))]) [0] rfl
  have hD := hD.sub (ws' := [(h0, .inr (7, [.ref h1, .ref q_1, .null, .int 0]))]) [0] (by decide) rfl
  have hK := hK.sub (tys' := []) [] rfl
  refine va_putF (D := (dC, dI)) (ci := 7) (v := .ref q_2) (ty := (.array .long)) (C := RX7) (T := TX7) (N := 4) hx hb hts hiX7 tyX7 tyX7_ok nmX7 hown hK hP hD hS 0 rfl rfl 2 (by decide) (hts (.fieldLink RX7 19 "CakePapers$PaperReader" "meant" "[J") (by decide +kernel)) (fun _ h9 => h9) rfl hin rfl (by decide +kernel) rfl rfl (Nat.le_of_ble_eq_true rfl) dX7_init_22 (fun H locs hP hD hS => ?_)
  have hP : va_P (dC, dI) vwCl [(h0, .inr (7, [.ref h1, .ref q_1, .ref q_2, .int 0]))] H := hP
  have hD : va_D A [(h0, .inr (7, [.ref h1, .ref q_1, .ref q_2, .int 0]))] := hD
  refine W.widen (k := 2) (n := 12) (Nat.le_of_ble_eq_true rfl) (Nat.le_of_ble_eq_true rfl) ?_
  have hP9 := hP.sub (ws' := [(h0, .inr (7, [.ref h1, .ref q_1, .ref q_2, .int 0]))]) [0] rfl
  have hD9 := hD.sub (ws' := [(h0, .inr (7, [.ref h1, .ref q_1, .ref q_2, .int 0]))]) [0] (by decide) rfl
  exact W.vret hx hb hr (fun t ht hW => ⟨⟨(), rfl, trivial, q_1, q_2, by rw [ht]; exact hP9, hD9⟩, hS.F ht⟩) hS.2.2 dX7_init_25
def u_c_X10_init : List Cond := .code yX10_init cX10_init 2 none :: ([.methodLink RX10 3 objectInit, .instanceMethod objectInit, .code objectInit ⟨#[0xb1]⟩ 1 none, .fieldLink RX10 9 "CakePapers$WantReader" "scanner" "LCakePapers$Scanner;"] ++ wsX100)
set_option maxHeartbeats 1000000 in
set_option maxRecDepth 100000 in
theorem c_X10_init (l : Launch) (dC : Nat → ClassId) (dI : Nat → Nat → Nat) (sz : Nat) (h0 h1 : Nat) : Met l yX10_init u_c_X10_init ({ frames := 1, cells := 0, slots := 0, locals := 20 }) (va_Pc [.ref h0, .ref h1] (fun U => U.heap.size = sz ∧ va_P (dC, dI) vwCl [(h0, .inr (10, [.null, .null]))] U.heap ∧ va_K (dC, dI) vwCl [] U ∧ va_D (fun _ => True) [(h0, .inr (10, [.null, .null]))])) (va_Qv (fun (_ : Unit) => True) (fun _ t => va_P (dC, dI) vwCl [(h0, .inr (10, [.ref h1, .null]))] t.heap ∧ va_D (va_A [(h0, .inr (10, [.null, .null]))] sz) [(h0, .inr (10, [.ref h1, .null]))]) (va_A [(h0, .inr (10, [.null, .null]))] sz)) 0 0 (va_A [(h0, .inr (10, [.null, .null]))] sz) := by
  refine Met.ofW (cc := cX10_init) (maxL := 2) (ret := none) (by decide) rfl ?_
  intro p e s m args below meth c s₁ B hml hv
  obtain ⟨rfl, hsz, hP, hK, hD0⟩ := hv
  have hx := B.exec
  have hb := B.bytes
  have hr := B.returns
  have hts := atoms_spec (ws := u_c_X10_init) B.pre
  have hown : s.vm.findClass RX10 = some m.cls := findClass_of_methodNamed B.named
  have hlocks := B.notSynchronized
  have hin : meth.name = "<init>" := (name_of_methodNamed B.named B.method).1
  have hiX10 : ∀ w ∈ wsX100, w ∈ u_c_X10_init := fun w h => List.mem_cons_of_mem _ (List.mem_append_right _ h)
  subst hsz
  have hD := hD0.self (sz := s.heap.size)
  generalize hAe : va_A [(h0, .inr (10, [.null, .null]))] s.heap.size = A at hD ⊢
  have hA : ∀ q : Nat, s.heap.size ≤ q → A q := fun q h => by rw [← hAe]; exact Or.inr h
  have hS : va_S A s.heap s.heap [] := va_S.rf
  obtain ⟨H, hH⟩ : ∃ H : Heap, H = s.heap := ⟨_, rfl⟩
  have hP : va_P (dC, dI) vwCl [(h0, .inr (10, [.null, .null]))] H := by rw [hH]; exact hP
  have hS : va_S A s.heap H [] := by rw [hH]; exact hS
  have hl := lv_entry ([.ref h0, .ref h1]) (n := 2) (Nat.le_of_ble_eq_true rfl)
  rw [lg_entry_eq]
  generalize (lg_sl ([.ref h0, .ref h1]) ++ List.replicate (2 - (lg_sl ([.ref h0, .ref h1])).length) Slot.unset).toArray = ls at hl ⊢
  have hl : lv_has ls 2 [(0, .ref h0), (1, .ref h1)] := hl
  suffices h9 : W p l e (headSpec u_c_X10_init _).room s m _ below meth c H [] 0 0 _ (F0 m 0 ls []) by rw [hH] at h9; exact h9
  refine lv_aload_n hx hb dX10_init_0 rfl (lv_at hl 0 rfl) ?_
  refine W.objInit hx hb hown (hts (.methodLink RX10 3 objectInit) (by decide +kernel)) (hts (.instanceMethod objectInit) (by decide +kernel)) (hts (.code objectInit ⟨#[0xb1]⟩ 1 none) (by decide +kernel)) rfl (by rw [hml]; exact hl.1) rfl dX10_init_1 (Nat.le_of_ble_eq_true rfl) (Nat.le_of_ble_eq_true rfl) ?_
  refine W.eq (g2 := F0 m 4 ls []) rfl ?_
  refine lv_aload_n hx hb dX10_init_4 rfl (lv_at hl 0 rfl) ?_
  refine lv_aload_n hx hb dX10_init_5 rfl (lv_at hl 1 rfl) ?_
  refine va_putF (D := (dC, dI)) (ci := 10) (v := .ref h1) (ty := (.object "CakePapers$Scanner")) (C := RX10) (T := TX10) (N := 2) hx hb hts hiX10 tyX10 tyX10_ok nmX10 hown hK hP hD hS 0 rfl rfl 0 (by decide) (hts (.fieldLink RX10 9 "CakePapers$WantReader" "scanner" "LCakePapers$Scanner;") (by decide +kernel)) (fun _ h9 => h9) rfl hin rfl (by decide +kernel) rfl rfl (Nat.le_of_ble_eq_true rfl) dX10_init_6 (fun H locs hP hD hS => ?_)
  have hP : va_P (dC, dI) vwCl [(h0, .inr (10, [.ref h1, .null]))] H := hP
  have hD : va_D A [(h0, .inr (10, [.ref h1, .null]))] := hD
  refine W.widen (k := 0) (n := 0) (Nat.le_of_ble_eq_true rfl) (Nat.le_of_ble_eq_true rfl) ?_
  have hP9 := hP.sub (ws' := [(h0, .inr (10, [.ref h1, .null]))]) [0] rfl
  have hD9 := hD.sub (ws' := [(h0, .inr (10, [.ref h1, .null]))]) [0] (by decide) rfl
  exact W.vret hx hb hr (fun t ht hW => ⟨⟨(), rfl, trivial, by rw [ht]; exact hP9, hD9⟩, hS.F ht⟩) hS.2.2 dX10_init_9
def u_c_X3_init : List Cond := .code yX3_init cX3_init 3 none :: ([.methodLink RX3 3 objectInit, .instanceMethod objectInit, .code objectInit ⟨#[0xb1]⟩ 1 none, .fieldLink RX3 9 "CakePapers$Joiner" "draft" "LCakePapers$Draft;", .fieldLink RX3 15 "CakePapers$Joiner" "likeness" "LCakePapers$Likeness;", .classLink RX3 19 RX4, .instantiable RX4 13, .initialized RX4, .code yX4_init cX4_init 1 none, .methodLink RX4 5 objectInit, .arrayClass .int, .fieldLink RX4 13 "CakePapers$Joining" "inBase" "[I", .fieldLink RX4 17 "CakePapers$Joining" "inOne" "[I", .fieldLink RX4 20 "CakePapers$Joining" "inOther" "[I", .fieldLink RX4 23 "CakePapers$Joining" "oneChanged" "[I", .fieldLink RX4 26 "CakePapers$Joining" "otherChanged" "[I", .fieldLink RX4 29 "CakePapers$Joining" "quarrelStep" "[I", .fieldLink RX4 32 "CakePapers$Joining" "quarrelField" "[I", .fieldLink RX4 35 "CakePapers$Joining" "sides" "[I", .methodLink RX3 21 yX4_init, .instanceMethod yX4_init, .fieldLink RX3 22 "CakePapers$Joiner" "trial" "LCakePapers$Joining;", .classLink RX3 26 RX6, .instantiable RX6 14, .initialized RX6, .code yX6_init cX6_init 3 none, .methodLink RX6 3 objectInit, .methodLink RX6 9 Lib.Math.max.name, .static Lib.Math.max.name, .initialized "java/lang/Math", .code Lib.Math.max.name Lib.Math.max.code 2 (some .int), .arrayClass .long, .fieldLink RX6 15 "CakePapers$Paper" "makes" "[J", .fieldLink RX6 21 "CakePapers$Paper" "verbs" "[J", .fieldLink RX6 24 "CakePapers$Paper" "much" "[I", .fieldLink RX6 28 "CakePapers$Paper" "lasts" "[I", .fieldLink RX6 31 "CakePapers$Paper" "needCount" "[I", .fieldLink RX6 34 "CakePapers$Paper" "needs" "[J", .fieldLink RX6 37 "CakePapers$Paper" "makers" "[I", .arrayClass .boolean, .fieldLink RX6 40 "CakePapers$Paper" "isEnd" "[Z", .fieldLink RX6 44 "CakePapers$Paper" "reach" "[I", .methodLink RX3 28 yX6_init, .instanceMethod yX6_init, .fieldLink RX3 31 "CakePapers$Joiner" "half" "LCakePapers$Paper;", .fieldLink RX3 35 "CakePapers$Joiner" "leftResult" "LCakePapers$Paper;", .fieldLink RX3 38 "CakePapers$Joiner" "rightResult" "LCakePapers$Paper;", .fieldLink RX3 41 "CakePapers$Joiner" "row" "[I", .fieldLink RX3 45 "CakePapers$Joiner" "bestRow" "[I"] ++ wsX30 ++ wsX40 ++ wsX60)
set_option maxRecDepth 20000 in
theorem g_c_X3_init_c_X4_init_0 : GoodIn u_c_X3_init (u_c_X4_init) := goodIn_of _ (by decide +kernel)
set_option maxRecDepth 20000 in
theorem g_c_X3_init_c_X6_init_1 : GoodIn u_c_X3_init (u_c_X6_init) := goodIn_of _ (by decide +kernel)
set_option maxHeartbeats 1000000 in
set_option maxRecDepth 100000 in
theorem c_X3_init (l : Launch) (dC : Nat → ClassId) (dI : Nat → Nat → Nat) (sz : Nat) (h0 h1 h2 : Nat) : Met l yX3_init u_c_X3_init ({ frames := 2, cells := 41, slots := 1095, locals := 43 }) (va_Pc [.ref h0, .ref h1, .ref h2] (fun U => U.heap.size = sz ∧ va_P (dC, dI) vwCl [(h0, .inr (3, [.null, .null, .null, .null, .null, .null, .null, .null, .int 0, .int 0, .int 0]))] U.heap ∧ va_K (dC, dI) vwCl [] U ∧ va_D (fun _ => True) [(h0, .inr (3, [.null, .null, .null, .null, .null, .null, .null, .null, .int 0, .int 0, .int 0]))])) (va_Qv (fun (_ : Unit) => True) (fun _ t => ∃ (q_1 : Nat), ∃ (q_3 : Nat), ∃ (q_5 : Nat), ∃ (q_7 : Nat), ∃ (q_9 : Nat), ∃ (q_10 : Nat), va_P (dC, dI) vwCl [(h0, .inr (3, [.ref h1, .ref h2, .ref q_1, .ref q_3, .ref q_5, .ref q_7, .ref q_9, .ref q_10, .int 0, .int 0, .int 0]))] t.heap ∧ va_D (va_A [(h0, .inr (3, [.null, .null, .null, .null, .null, .null, .null, .null, .int 0, .int 0, .int 0]))] sz) [(h0, .inr (3, [.ref h1, .ref h2, .ref q_1, .ref q_3, .ref q_5, .ref q_7, .ref q_9, .ref q_10, .int 0, .int 0, .int 0]))]) (va_A [(h0, .inr (3, [.null, .null, .null, .null, .null, .null, .null, .null, .int 0, .int 0, .int 0]))] sz)) 41 1095 (va_A [(h0, .inr (3, [.null, .null, .null, .null, .null, .null, .null, .null, .int 0, .int 0, .int 0]))] sz) := by
  refine Met.ofW (cc := cX3_init) (maxL := 3) (ret := none) (by decide) rfl ?_
  intro p e s m args below meth c s₁ B hml hv
  obtain ⟨rfl, hsz, hP, hK, hD0⟩ := hv
  have hx := B.exec
  have hb := B.bytes
  have hr := B.returns
  have hts := atoms_spec (ws := u_c_X3_init) B.pre
  have hown : s.vm.findClass RX3 = some m.cls := findClass_of_methodNamed B.named
  have hlocks := B.notSynchronized
  have hin : meth.name = "<init>" := (name_of_methodNamed B.named B.method).1
  have hiX3 : ∀ w ∈ wsX30, w ∈ u_c_X3_init := fun w h => List.mem_cons_of_mem _ (List.mem_append_left _ (List.mem_append_left _ (List.mem_append_right _ h)))
  have hiX4 : ∀ w ∈ wsX40, w ∈ u_c_X3_init := fun w h => List.mem_cons_of_mem _ (List.mem_append_left _ (List.mem_append_right _ h))
  have hiX6 : ∀ w ∈ wsX60, w ∈ u_c_X3_init := fun w h => List.mem_cons_of_mem _ (List.mem_append_right _ h)
  subst hsz
  have hD := hD0.self (sz := s.heap.size)
  generalize hAe : va_A [(h0, .inr (3, [.null, .null, .null, .null, .null, .null, .null, .null, .int 0, .int 0, .int 0]))] s.heap.size = A at hD ⊢
  have hA : ∀ q : Nat, s.heap.size ≤ q → A q := fun q h => by rw [← hAe]; exact Or.inr h
  have hS : va_S A s.heap s.heap [] := va_S.rf
  obtain ⟨H, hH⟩ : ∃ H : Heap, H = s.heap := ⟨_, rfl⟩
  have hP : va_P (dC, dI) vwCl [(h0, .inr (3, [.null, .null, .null, .null, .null, .null, .null, .null, .int 0, .int 0, .int 0]))] H := by rw [hH]; exact hP
  have hS : va_S A s.heap H [] := by rw [hH]; exact hS
  have hl := lv_entry ([.ref h0, .ref h1, .ref h2]) (n := 3) (Nat.le_of_ble_eq_true rfl)
  rw [lg_entry_eq]
  generalize (lg_sl ([.ref h0, .ref h1, .ref h2]) ++ List.replicate (3 - (lg_sl ([.ref h0, .ref h1, .ref h2])).length) Slot.unset).toArray = ls at hl ⊢
  have hl : lv_has ls 3 [(0, .ref h0), (1, .ref h1), (2, .ref h2)] := hl
  suffices h9 : W p l e (headSpec u_c_X3_init _).room s m _ below meth c H [] 0 0 _ (F0 m 0 ls []) by rw [hH] at h9; exact h9
  refine lv_aload_n hx hb dX3_init_0 rfl (lv_at hl 0 rfl) ?_
  refine W.objInit hx hb hown (hts (.methodLink RX3 3 objectInit) (by decide +kernel)) (hts (.instanceMethod objectInit) (by decide +kernel)) (hts (.code objectInit ⟨#[0xb1]⟩ 1 none) (by decide +kernel)) rfl (by rw [hml]; exact hl.1) rfl dX3_init_1 (Nat.le_of_ble_eq_true rfl) (Nat.le_of_ble_eq_true rfl) ?_
  refine W.eq (g2 := F0 m 4 ls []) rfl ?_
  refine lv_aload_n hx hb dX3_init_4 rfl (lv_at hl 0 rfl) ?_
  refine lv_aload_n hx hb dX3_init_5 rfl (lv_at hl 1 rfl) ?_
  refine va_putF (D := (dC, dI)) (ci := 3) (v := .ref h1) (ty := (.object "CakePapers$Draft")) (C := RX3) (T := TX3) (N := 11) hx hb hts hiX3 tyX3 tyX3_ok nmX3 hown hK hP hD hS 0 rfl rfl 0 (by decide) (hts (.fieldLink RX3 9 "CakePapers$Joiner" "draft" "LCakePapers$Draft;") (by decide +kernel)) (fun _ h9 => h9) rfl hin rfl (by decide +kernel) rfl rfl (Nat.le_of_ble_eq_true rfl) dX3_init_6 (fun H locs hP hD hS => ?_)
  have hP : va_P (dC, dI) vwCl [(h0, .inr (3, [.ref h1, .null, .null, .null, .null, .null, .null, .null, .int 0, .int 0, .int 0]))] H := hP
  have hD : va_D A [(h0, .inr (3, [.ref h1, .null, .null, .null, .null, .null, .null, .null, .int 0, .int 0, .int 0]))] := hD
  refine lv_aload_n hx hb dX3_init_9 rfl (lv_at hl 0 rfl) ?_
  refine lv_aload_n hx hb dX3_init_10 rfl (lv_at hl 2 rfl) ?_
  refine va_putF (D := (dC, dI)) (ci := 3) (v := .ref h2) (ty := (.object "CakePapers$Likeness")) (C := RX3) (T := TX3) (N := 11) hx hb hts hiX3 tyX3 tyX3_ok nmX3 hown hK hP hD hS 0 rfl rfl 1 (by decide) (hts (.fieldLink RX3 15 "CakePapers$Joiner" "likeness" "LCakePapers$Likeness;") (by decide +kernel)) (fun _ h9 => h9) rfl hin rfl (by decide +kernel) rfl rfl (Nat.le_of_ble_eq_true rfl) dX3_init_11 (fun H locs hP hD hS => ?_)
  have hP : va_P (dC, dI) vwCl [(h0, .inr (3, [.ref h1, .ref h2, .null, .null, .null, .null, .null, .null, .int 0, .int 0, .int 0]))] H := hP
  have hD : va_D A [(h0, .inr (3, [.ref h1, .ref h2, .null, .null, .null, .null, .null, .null, .int 0, .int 0, .int 0]))] := hD
  refine lv_aload_n hx hb dX3_init_14 rfl (lv_at hl 0 rfl) ?_
  refine va_new (ci := 4) (fs := [.null, .null, .null, .null, .null, .null, .null, .null, .null, .null, .null, .int 0, .int 0]) (C := RX4) (T := TX4) (N := 13) hx hb hts hiX4 tyX4 tyX4_ok hown (hts (.classLink RX3 19 RX4) (by decide +kernel)) (hts (.instantiable RX4 13) (by decide +kernel)) (hts (.initialized RX4) (by decide +kernel)) hK hP hD hS hA rfl (by decide +kernel) (Nat.le_of_ble_eq_true rfl) (Nat.le_of_ble_eq_true rfl) dX3_init_15 (fun q_1 H hP hD hS => ?_)
  have hP : va_P (dC, dI) vwCl [(h0, .inr (3, [.ref h1, .ref h2, .null, .null, .null, .null, .null, .null, .int 0, .int 0, .int 0])), (q_1, .inr (4, [.null, .null, .null, .null, .null, .null, .null, .null, .null, .null, .null, .int 0, .int 0]))] H := hP
  have hD : va_D A [(h0, .inr (3, [.ref h1, .ref h2, .null, .null, .null, .null, .null, .null, .int 0, .int 0, .int 0])), (q_1, .inr (4, [.null, .null, .null, .null, .null, .null, .null, .null, .null, .null, .null, .int 0, .int 0]))] := hD
  refine W.widen (k := 1) (n := 13) (Nat.le_of_ble_eq_true rfl) (Nat.le_of_ble_eq_true rfl) ?_
  refine lv_dup hx hb dX3_init_18 rfl ?_
  have hPc := hP.sub (ws' := [(q_1, .inr (4, [.null, .null, .null, .null, .null, .null, .null, .null, .null, .null, .null, .int 0, .int 0]))]) [1] rfl
  have hDc := hD.sub (ws' := [(q_1, .inr (4, [.null, .null, .null, .null, .null, .null, .null, .null, .null, .null, .null, .int 0, .int 0]))]) [1] (by decide) rfl
  have hKc := hK.sub (tys' := []) [] rfl
  have hFc := va_free (wc := [(q_1, .inr (4, [.null, .null, .null, .null, .null, .null, .null, .null, .null, .null, .null, .int 0, .int 0]))]) hD hS hA [1] rfl
  refine va_callv (va_runI (As := []) (rest := [.ref q_1, .ref h0]) ⟨hx, hb, hml, hown, hts⟩ (c_X4_init l dC dI H.size q_1) (cwI 0 hts g_c_X3_init_c_X4_init_0 rfl rfl rfl (hts (.initialized RX4) (by decide +kernel)) (hts (.methodLink RX3 21 yX4_init) (by decide +kernel)) (hts (.instanceMethod yX4_init) (by decide +kernel)) rfl (by decide +kernel) ⟨Nat.le_of_ble_eq_true rfl, Nat.le_of_ble_eq_true rfl⟩) ⟨fun a U g mk q => by obtain ⟨q0, q1, qP, qK, qD⟩ := q; exact ⟨q0, q1, qP, va_K.moved (u := U) (U := U.calling g mk a) (Vm.Alike.refl U.vm) qK, qD⟩, fun U hU hW => ⟨rfl, by rw [hU], by rw [hU]; exact hPc, va_K.moved hW.alike hKc, hDc.weaken (fun _ _ _ _ => trivial)⟩⟩ rfl rfl hl.1 rfl (lv_room (Nat.le_of_ble_eq_true rfl)) dX3_init_19 ⟨Nat.le_of_ble_eq_true rfl, Nat.le_of_ble_eq_true rfl⟩) hS (fun q _ h => hFc q h) hFc (fun u t H1 locs ht hvm hw hB hz1 hk1 hS => ?_)
  obtain ⟨q_1_2, q_2_2, q_3_2, q_4_2, q_5_2, q_6_2, q_7_2, q_8_2, hP1, hD1⟩ := hB
  rw [ht] at hP1
  obtain ⟨hP, hD⟩ := va_join (wr := [(h0, .inr (3, [.ref h1, .ref h2, .null, .null, .null, .null, .null, .null, .int 0, .int 0, .int 0]))]) (w1 := [(q_1, .inr (4, [.null, .null, .null, .ref q_1_2, .ref q_2_2, .ref q_3_2, .ref q_4_2, .ref q_5_2, .ref q_6_2, .ref q_7_2, .ref q_8_2, .int 0, .int 0]))]) hP hD [1] [0] rfl rfl (by decide) (by decide) hk1 hFc hP1 hD1
  generalize H1 = H at hP hS ⊢
  have hP : va_P (dC, dI) vwCl [(h0, .inr (3, [.ref h1, .ref h2, .null, .null, .null, .null, .null, .null, .int 0, .int 0, .int 0])), (q_1, .inr (4, [.null, .null, .null, .ref q_1_2, .ref q_2_2, .ref q_3_2, .ref q_4_2, .ref q_5_2, .ref q_6_2, .ref q_7_2, .ref q_8_2, .int 0, .int 0]))] H := hP
  have hD : va_D A [(h0, .inr (3, [.ref h1, .ref h2, .null, .null, .null, .null, .null, .null, .int 0, .int 0, .int 0])), (q_1, .inr (4, [.null, .null, .null, .ref q_1_2, .ref q_2_2, .ref q_3_2, .ref q_4_2, .ref q_5_2, .ref q_6_2, .ref q_7_2, .ref q_8_2, .int 0, .int 0]))] := hD
  refine W.widen (k := 9) (n := 385) (Nat.le_of_ble_eq_true rfl) (Nat.le_of_ble_eq_true rfl) ?_
  refine va_putF (D := (dC, dI)) (ci := 3) (v := .ref q_1) (ty := (.object "CakePapers$Joining")) (C := RX3) (T := TX3) (N := 11) hx hb hts hiX3 tyX3 tyX3_ok nmX3 hown hK hP hD hS 0 rfl rfl 2 (by decide) (hts (.fieldLink RX3 22 "CakePapers$Joiner" "trial" "LCakePapers$Joining;") (by decide +kernel)) (fun _ h9 => h9) rfl hin rfl (by decide +kernel) rfl rfl (Nat.le_of_ble_eq_true rfl) dX3_init_22 (fun H locs hP hD hS => ?_)
  have hP : va_P (dC, dI) vwCl [(h0, .inr (3, [.ref h1, .ref h2, .ref q_1, .null, .null, .null, .null, .null, .int 0, .int 0, .int 0])), (q_1, .inr (4, [.null, .null, .null, .ref q_1_2, .ref q_2_2, .ref q_3_2, .ref q_4_2, .ref q_5_2, .ref q_6_2, .ref q_7_2, .ref q_8_2, .int 0, .int 0]))] H := hP
  have hD : va_D A [(h0, .inr (3, [.ref h1, .ref h2, .ref q_1, .null, .null, .null, .null, .null, .int 0, .int 0, .int 0])), (q_1, .inr (4, [.null, .null, .null, .ref q_1_2, .ref q_2_2, .ref q_3_2, .ref q_4_2, .ref q_5_2, .ref q_6_2, .ref q_7_2, .ref q_8_2, .int 0, .int 0]))] := hD
  refine lv_aload_n hx hb dX3_init_25 rfl (lv_at hl 0 rfl) ?_
  refine va_new (ci := 6) (fs := [.null, .null, .null, .null, .null, .null, .null, .null, .null, .int 0, .int 0, .int 0, .int 0, .int 0]) (C := RX6) (T := TX6) (N := 14) hx hb hts hiX6 tyX6 tyX6_ok hown (hts (.classLink RX3 26 RX6) (by decide +kernel)) (hts (.instantiable RX6 14) (by decide +kernel)) (hts (.initialized RX6) (by decide +kernel)) hK hP hD hS hA rfl (by decide +kernel) (Nat.le_of_ble_eq_true rfl) (Nat.le_of_ble_eq_true rfl) dX3_init_26 (fun q_3 H hP hD hS => ?_)
  have hP : va_P (dC, dI) vwCl [(h0, .inr (3, [.ref h1, .ref h2, .ref q_1, .null, .null, .null, .null, .null, .int 0, .int 0, .int 0])), (q_1, .inr (4, [.null, .null, .null, .ref q_1_2, .ref q_2_2, .ref q_3_2, .ref q_4_2, .ref q_5_2, .ref q_6_2, .ref q_7_2, .ref q_8_2, .int 0, .int 0])), (q_3, .inr (6, [.null, .null, .null, .null, .null, .null, .null, .null, .null, .int 0, .int 0, .int 0, .int 0, .int 0]))] H := hP
  have hD : va_D A [(h0, .inr (3, [.ref h1, .ref h2, .ref q_1, .null, .null, .null, .null, .null, .int 0, .int 0, .int 0])), (q_1, .inr (4, [.null, .null, .null, .ref q_1_2, .ref q_2_2, .ref q_3_2, .ref q_4_2, .ref q_5_2, .ref q_6_2, .ref q_7_2, .ref q_8_2, .int 0, .int 0])), (q_3, .inr (6, [.null, .null, .null, .null, .null, .null, .null, .null, .null, .int 0, .int 0, .int 0, .int 0, .int 0]))] := hD
  refine W.widen (k := 10) (n := 399) (Nat.le_of_ble_eq_true rfl) (Nat.le_of_ble_eq_true rfl) ?_
  refine lv_dup hx hb dX3_init_29 rfl ?_
  refine lv_bipush (v := 12) hx hb dX3_init_30 (by decide) ?_
  have hPc := hP.sub (ws' := [(q_3, .inr (6, [.null, .null, .null, .null, .null, .null, .null, .null, .null, .int 0, .int 0, .int 0, .int 0, .int 0]))]) [2] rfl
  have hDc := hD.sub (ws' := [(q_3, .inr (6, [.null, .null, .null, .null, .null, .null, .null, .null, .null, .int 0, .int 0, .int 0, .int 0, .int 0]))]) [2] (by decide) rfl
  have hKc := hK.sub (tys' := []) [] rfl
  have hFc := va_free (wc := [(q_3, .inr (6, [.null, .null, .null, .null, .null, .null, .null, .null, .null, .int 0, .int 0, .int 0, .int 0, .int 0]))]) hD hS hA [2] rfl
  refine va_callv (va_runI (As := [.int 12]) (rest := [.ref q_3, .ref h0]) ⟨hx, hb, hml, hown, hts⟩ (c_X6_init l dC dI H.size q_3) (cwI 1 hts g_c_X3_init_c_X6_init_1 rfl rfl rfl (hts (.initialized RX6) (by decide +kernel)) (hts (.methodLink RX3 28 yX6_init) (by decide +kernel)) (hts (.instanceMethod yX6_init) (by decide +kernel)) rfl (by decide +kernel) ⟨Nat.le_of_ble_eq_true rfl, Nat.le_of_ble_eq_true rfl⟩) ⟨fun a U g mk q => by obtain ⟨q0, q1, qP, qK, qD⟩ := q; exact ⟨q0, q1, qP, va_K.moved (u := U) (U := U.calling g mk a) (Vm.Alike.refl U.vm) qK, qD⟩, fun U hU hW => ⟨rfl, by rw [hU], by rw [hU]; exact hPc, va_K.moved hW.alike hKc, hDc.weaken (fun _ _ _ _ => trivial)⟩⟩ rfl rfl hl.1 rfl (lv_room (Nat.le_of_ble_eq_true rfl)) dX3_init_32 ⟨Nat.le_of_ble_eq_true rfl, Nat.le_of_ble_eq_true rfl⟩) hS (fun q _ h => hFc q h) hFc (fun u t H1 locs ht hvm hw hB hz1 hk1 hS => ?_)
  obtain ⟨q_1_4, q_2_4, q_3_4, q_4_4, q_5_4, q_6_4, q_7_4, q_8_4, q_9_4, hP1, hD1⟩ := hB
  rw [ht] at hP1
  obtain ⟨hP, hD⟩ := va_join (wr := [(h0, .inr (3, [.ref h1, .ref h2, .ref q_1, .null, .null, .null, .null, .null, .int 0, .int 0, .int 0])), (q_1, .inr (4, [.null, .null, .null, .ref q_1_2, .ref q_2_2, .ref q_3_2, .ref q_4_2, .ref q_5_2, .ref q_6_2, .ref q_7_2, .ref q_8_2, .int 0, .int 0]))]) (w1 := [(q_3, .inr (6, [.ref q_1_4, .ref q_2_4, .ref q_3_4, .ref q_4_4, .ref q_5_4, .ref q_6_4, .ref q_7_4, .ref q_8_4, .ref q_9_4, .int 0, .int 0, .int 0, .int 0, .int 0]))]) hP hD [2] [0, 1] rfl rfl (by decide) (by decide) hk1 hFc hP1 hD1
  generalize H1 = H at hP hS ⊢
  have hP : va_P (dC, dI) vwCl [(h0, .inr (3, [.ref h1, .ref h2, .ref q_1, .null, .null, .null, .null, .null, .int 0, .int 0, .int 0])), (q_1, .inr (4, [.null, .null, .null, .ref q_1_2, .ref q_2_2, .ref q_3_2, .ref q_4_2, .ref q_5_2, .ref q_6_2, .ref q_7_2, .ref q_8_2, .int 0, .int 0])), (q_3, .inr (6, [.ref q_1_4, .ref q_2_4, .ref q_3_4, .ref q_4_4, .ref q_5_4, .ref q_6_4, .ref q_7_4, .ref q_8_4, .ref q_9_4, .int 0, .int 0, .int 0, .int 0, .int 0]))] H := hP
  have hD : va_D A [(h0, .inr (3, [.ref h1, .ref h2, .ref q_1, .null, .null, .null, .null, .null, .int 0, .int 0, .int 0])), (q_1, .inr (4, [.null, .null, .null, .ref q_1_2, .ref q_2_2, .ref q_3_2, .ref q_4_2, .ref q_5_2, .ref q_6_2, .ref q_7_2, .ref q_8_2, .int 0, .int 0])), (q_3, .inr (6, [.ref q_1_4, .ref q_2_4, .ref q_3_4, .ref q_4_4, .ref q_5_4, .ref q_6_4, .ref q_7_4, .ref q_8_4, .ref q_9_4, .int 0, .int 0, .int 0, .int 0, .int 0]))] := hD
  refine W.widen (k := 19) (n := 579) (Nat.le_of_ble_eq_true rfl) (Nat.le_of_ble_eq_true rfl) ?_
  refine va_putF (D := (dC, dI)) (ci := 3) (v := .ref q_3) (ty := (.object "CakePapers$Paper")) (C := RX3) (T := TX3) (N := 11) hx hb hts hiX3 tyX3 tyX3_ok nmX3 hown hK hP hD hS 0 rfl rfl 3 (by decide) (hts (.fieldLink RX3 31 "CakePapers$Joiner" "half" "LCakePapers$Paper;") (by decide +kernel)) (fun _ h9 => h9) rfl hin rfl (by decide +kernel) rfl rfl (Nat.le_of_ble_eq_true rfl) dX3_init_35 (fun H locs hP hD hS => ?_)
  have hP : va_P (dC, dI) vwCl [(h0, .inr (3, [.ref h1, .ref h2, .ref q_1, .ref q_3, .null, .null, .null, .null, .int 0, .int 0, .int 0])), (q_1, .inr (4, [.null, .null, .null, .ref q_1_2, .ref q_2_2, .ref q_3_2, .ref q_4_2, .ref q_5_2, .ref q_6_2, .ref q_7_2, .ref q_8_2, .int 0, .int 0])), (q_3, .inr (6, [.ref q_1_4, .ref q_2_4, .ref q_3_4, .ref q_4_4, .ref q_5_4, .ref q_6_4, .ref q_7_4, .ref q_8_4, .ref q_9_4, .int 0, .int 0, .int 0, .int 0, .int 0]))] H := hP
  have hD : va_D A [(h0, .inr (3, [.ref h1, .ref h2, .ref q_1, .ref q_3, .null, .null, .null, .null, .int 0, .int 0, .int 0])), (q_1, .inr (4, [.null, .null, .null, .ref q_1_2, .ref q_2_2, .ref q_3_2, .ref q_4_2, .ref q_5_2, .ref q_6_2, .ref q_7_2, .ref q_8_2, .int 0, .int 0])), (q_3, .inr (6, [.ref q_1_4, .ref q_2_4, .ref q_3_4, .ref q_4_4, .ref q_5_4, .ref q_6_4, .ref q_7_4, .ref q_8_4, .ref q_9_4, .int 0, .int 0, .int 0, .int 0, .int 0]))] := hD
  refine lv_aload_n hx hb dX3_init_38 rfl (lv_at hl 0 rfl) ?_
  refine va_new (ci := 6) (fs := [.null, .null, .null, .null, .null, .null, .null, .null, .null, .int 0, .int 0, .int 0, .int 0, .int 0]) (C := RX6) (T := TX6) (N := 14) hx hb hts hiX6 tyX6 tyX6_ok hown (hts (.classLink RX3 26 RX6) (by decide +kernel)) (hts (.instantiable RX6 14) (by decide +kernel)) (hts (.initialized RX6) (by decide +kernel)) hK hP hD hS hA rfl (by decide +kernel) (Nat.le_of_ble_eq_true rfl) (Nat.le_of_ble_eq_true rfl) dX3_init_39 (fun q_5 H hP hD hS => ?_)
  have hP : va_P (dC, dI) vwCl [(h0, .inr (3, [.ref h1, .ref h2, .ref q_1, .ref q_3, .null, .null, .null, .null, .int 0, .int 0, .int 0])), (q_1, .inr (4, [.null, .null, .null, .ref q_1_2, .ref q_2_2, .ref q_3_2, .ref q_4_2, .ref q_5_2, .ref q_6_2, .ref q_7_2, .ref q_8_2, .int 0, .int 0])), (q_3, .inr (6, [.ref q_1_4, .ref q_2_4, .ref q_3_4, .ref q_4_4, .ref q_5_4, .ref q_6_4, .ref q_7_4, .ref q_8_4, .ref q_9_4, .int 0, .int 0, .int 0, .int 0, .int 0])), (q_5, .inr (6, [.null, .null, .null, .null, .null, .null, .null, .null, .null, .int 0, .int 0, .int 0, .int 0, .int 0]))] H := hP
  have hD : va_D A [(h0, .inr (3, [.ref h1, .ref h2, .ref q_1, .ref q_3, .null, .null, .null, .null, .int 0, .int 0, .int 0])), (q_1, .inr (4, [.null, .null, .null, .ref q_1_2, .ref q_2_2, .ref q_3_2, .ref q_4_2, .ref q_5_2, .ref q_6_2, .ref q_7_2, .ref q_8_2, .int 0, .int 0])), (q_3, .inr (6, [.ref q_1_4, .ref q_2_4, .ref q_3_4, .ref q_4_4, .ref q_5_4, .ref q_6_4, .ref q_7_4, .ref q_8_4, .ref q_9_4, .int 0, .int 0, .int 0, .int 0, .int 0])), (q_5, .inr (6, [.null, .null, .null, .null, .null, .null, .null, .null, .null, .int 0, .int 0, .int 0, .int 0, .int 0]))] := hD
  refine W.widen (k := 20) (n := 593) (Nat.le_of_ble_eq_true rfl) (Nat.le_of_ble_eq_true rfl) ?_
  refine lv_dup hx hb dX3_init_42 rfl ?_
  refine lv_bipush (v := 12) hx hb dX3_init_43 (by decide) ?_
  have hPc := hP.sub (ws' := [(q_5, .inr (6, [.null, .null, .null, .null, .null, .null, .null, .null, .null, .int 0, .int 0, .int 0, .int 0, .int 0]))]) [3] rfl
  have hDc := hD.sub (ws' := [(q_5, .inr (6, [.null, .null, .null, .null, .null, .null, .null, .null, .null, .int 0, .int 0, .int 0, .int 0, .int 0]))]) [3] (by decide) rfl
  have hKc := hK.sub (tys' := []) [] rfl
  have hFc := va_free (wc := [(q_5, .inr (6, [.null, .null, .null, .null, .null, .null, .null, .null, .null, .int 0, .int 0, .int 0, .int 0, .int 0]))]) hD hS hA [3] rfl
  refine va_callv (va_runI (As := [.int 12]) (rest := [.ref q_5, .ref h0]) ⟨hx, hb, hml, hown, hts⟩ (c_X6_init l dC dI H.size q_5) (cwI 1 hts g_c_X3_init_c_X6_init_1 rfl rfl rfl (hts (.initialized RX6) (by decide +kernel)) (hts (.methodLink RX3 28 yX6_init) (by decide +kernel)) (hts (.instanceMethod yX6_init) (by decide +kernel)) rfl (by decide +kernel) ⟨Nat.le_of_ble_eq_true rfl, Nat.le_of_ble_eq_true rfl⟩) ⟨fun a U g mk q => by obtain ⟨q0, q1, qP, qK, qD⟩ := q; exact ⟨q0, q1, qP, va_K.moved (u := U) (U := U.calling g mk a) (Vm.Alike.refl U.vm) qK, qD⟩, fun U hU hW => ⟨rfl, by rw [hU], by rw [hU]; exact hPc, va_K.moved hW.alike hKc, hDc.weaken (fun _ _ _ _ => trivial)⟩⟩ rfl rfl hl.1 rfl (lv_room (Nat.le_of_ble_eq_true rfl)) dX3_init_45 ⟨Nat.le_of_ble_eq_true rfl, Nat.le_of_ble_eq_true rfl⟩) hS (fun q _ h => hFc q h) hFc (fun u t H1 locs ht hvm hw hB hz1 hk1 hS => ?_)
  obtain ⟨q_1_6, q_2_6, q_3_6, q_4_6, q_5_6, q_6_6, q_7_6, q_8_6, q_9_6, hP1, hD1⟩ := hB
  rw [ht] at hP1
  obtain ⟨hP, hD⟩ := va_join (wr := [(h0, .inr (3, [.ref h1, .ref h2, .ref q_1, .ref q_3, .null, .null, .null, .null, .int 0, .int 0, .int 0])), (q_1, .inr (4, [.null, .null, .null, .ref q_1_2, .ref q_2_2, .ref q_3_2, .ref q_4_2, .ref q_5_2, .ref q_6_2, .ref q_7_2, .ref q_8_2, .int 0, .int 0])), (q_3, .inr (6, [.ref q_1_4, .ref q_2_4, .ref q_3_4, .ref q_4_4, .ref q_5_4, .ref q_6_4, .ref q_7_4, .ref q_8_4, .ref q_9_4, .int 0, .int 0, .int 0, .int 0, .int 0]))]) (w1 := [(q_5, .inr (6, [.ref q_1_6, .ref q_2_6, .ref q_3_6, .ref q_4_6, .ref q_5_6, .ref q_6_6, .ref q_7_6, .ref q_8_6, .ref q_9_6, .int 0, .int 0, .int 0, .int 0, .int 0]))]) hP hD [3] [0, 1, 2] rfl rfl (by decide) (by decide) hk1 hFc hP1 hD1
  generalize H1 = H at hP hS ⊢
  have hP : va_P (dC, dI) vwCl [(h0, .inr (3, [.ref h1, .ref h2, .ref q_1, .ref q_3, .null, .null, .null, .null, .int 0, .int 0, .int 0])), (q_1, .inr (4, [.null, .null, .null, .ref q_1_2, .ref q_2_2, .ref q_3_2, .ref q_4_2, .ref q_5_2, .ref q_6_2, .ref q_7_2, .ref q_8_2, .int 0, .int 0])), (q_3, .inr (6, [.ref q_1_4, .ref q_2_4, .ref q_3_4, .ref q_4_4, .ref q_5_4, .ref q_6_4, .ref q_7_4, .ref q_8_4, .ref q_9_4, .int 0, .int 0, .int 0, .int 0, .int 0])), (q_5, .inr (6, [.ref q_1_6, .ref q_2_6, .ref q_3_6, .ref q_4_6, .ref q_5_6, .ref q_6_6, .ref q_7_6, .ref q_8_6, .ref q_9_6, .int 0, .int 0, .int 0, .int 0, .int 0]))] H := hP
  have hD : va_D A [(h0, .inr (3, [.ref h1, .ref h2, .ref q_1, .ref q_3, .null, .null, .null, .null, .int 0, .int 0, .int 0])), (q_1, .inr (4, [.null, .null, .null, .ref q_1_2, .ref q_2_2, .ref q_3_2, .ref q_4_2, .ref q_5_2, .ref q_6_2, .ref q_7_2, .ref q_8_2, .int 0, .int 0])), (q_3, .inr (6, [.ref q_1_4, .ref q_2_4, .ref q_3_4, .ref q_4_4, .ref q_5_4, .ref q_6_4, .ref q_7_4, .ref q_8_4, .ref q_9_4, .int 0, .int 0, .int 0, .int 0, .int 0])), (q_5, .inr (6, [.ref q_1_6, .ref q_2_6, .ref q_3_6, .ref q_4_6, .ref q_5_6, .ref q_6_6, .ref q_7_6, .ref q_8_6, .ref q_9_6, .int 0, .int 0, .int 0, .int 0, .int 0]))] := hD
  refine W.widen (k := 29) (n := 773) (Nat.le_of_ble_eq_true rfl) (Nat.le_of_ble_eq_true rfl) ?_
  refine va_putF (D := (dC, dI)) (ci := 3) (v := .ref q_5) (ty := (.object "CakePapers$Paper")) (C := RX3) (T := TX3) (N := 11) hx hb hts hiX3 tyX3 tyX3_ok nmX3 hown hK hP hD hS 0 rfl rfl 4 (by decide) (hts (.fieldLink RX3 35 "CakePapers$Joiner" "leftResult" "LCakePapers$Paper;") (by decide +kernel)) (fun _ h9 => h9) rfl hin rfl (by decide +kernel) rfl rfl (Nat.le_of_ble_eq_true rfl) dX3_init_48 (fun H locs hP hD hS => ?_)
  have hP : va_P (dC, dI) vwCl [(h0, .inr (3, [.ref h1, .ref h2, .ref q_1, .ref q_3, .ref q_5, .null, .null, .null, .int 0, .int 0, .int 0])), (q_1, .inr (4, [.null, .null, .null, .ref q_1_2, .ref q_2_2, .ref q_3_2, .ref q_4_2, .ref q_5_2, .ref q_6_2, .ref q_7_2, .ref q_8_2, .int 0, .int 0])), (q_3, .inr (6, [.ref q_1_4, .ref q_2_4, .ref q_3_4, .ref q_4_4, .ref q_5_4, .ref q_6_4, .ref q_7_4, .ref q_8_4, .ref q_9_4, .int 0, .int 0, .int 0, .int 0, .int 0])), (q_5, .inr (6, [.ref q_1_6, .ref q_2_6, .ref q_3_6, .ref q_4_6, .ref q_5_6, .ref q_6_6, .ref q_7_6, .ref q_8_6, .ref q_9_6, .int 0, .int 0, .int 0, .int 0, .int 0]))] H := hP
  have hD : va_D A [(h0, .inr (3, [.ref h1, .ref h2, .ref q_1, .ref q_3, .ref q_5, .null, .null, .null, .int 0, .int 0, .int 0])), (q_1, .inr (4, [.null, .null, .null, .ref q_1_2, .ref q_2_2, .ref q_3_2, .ref q_4_2, .ref q_5_2, .ref q_6_2, .ref q_7_2, .ref q_8_2, .int 0, .int 0])), (q_3, .inr (6, [.ref q_1_4, .ref q_2_4, .ref q_3_4, .ref q_4_4, .ref q_5_4, .ref q_6_4, .ref q_7_4, .ref q_8_4, .ref q_9_4, .int 0, .int 0, .int 0, .int 0, .int 0])), (q_5, .inr (6, [.ref q_1_6, .ref q_2_6, .ref q_3_6, .ref q_4_6, .ref q_5_6, .ref q_6_6, .ref q_7_6, .ref q_8_6, .ref q_9_6, .int 0, .int 0, .int 0, .int 0, .int 0]))] := hD
  refine lv_aload_n hx hb dX3_init_51 rfl (lv_at hl 0 rfl) ?_
  refine va_new (ci := 6) (fs := [.null, .null, .null, .null, .null, .null, .null, .null, .null, .int 0, .int 0, .int 0, .int 0, .int 0]) (C := RX6) (T := TX6) (N := 14) hx hb hts hiX6 tyX6 tyX6_ok hown (hts (.classLink RX3 26 RX6) (by decide +kernel)) (hts (.instantiable RX6 14) (by decide +kernel)) (hts (.initialized RX6) (by decide +kernel)) hK hP hD hS hA rfl (by decide +kernel) (Nat.le_of_ble_eq_true rfl) (Nat.le_of_ble_eq_true rfl) dX3_init_52 (fun q_7 H hP hD hS => ?_)
  have hP : va_P (dC, dI) vwCl [(h0, .inr (3, [.ref h1, .ref h2, .ref q_1, .ref q_3, .ref q_5, .null, .null, .null, .int 0, .int 0, .int 0])), (q_1, .inr (4, [.null, .null, .null, .ref q_1_2, .ref q_2_2, .ref q_3_2, .ref q_4_2, .ref q_5_2, .ref q_6_2, .ref q_7_2, .ref q_8_2, .int 0, .int 0])), (q_3, .inr (6, [.ref q_1_4, .ref q_2_4, .ref q_3_4, .ref q_4_4, .ref q_5_4, .ref q_6_4, .ref q_7_4, .ref q_8_4, .ref q_9_4, .int 0, .int 0, .int 0, .int 0, .int 0])), (q_5, .inr (6, [.ref q_1_6, .ref q_2_6, .ref q_3_6, .ref q_4_6, .ref q_5_6, .ref q_6_6, .ref q_7_6, .ref q_8_6, .ref q_9_6, .int 0, .int 0, .int 0, .int 0, .int 0])), (q_7, .inr (6, [.null, .null, .null, .null, .null, .null, .null, .null, .null, .int 0, .int 0, .int 0, .int 0, .int 0]))] H := hP
  have hD : va_D A [(h0, .inr (3, [.ref h1, .ref h2, .ref q_1, .ref q_3, .ref q_5, .null, .null, .null, .int 0, .int 0, .int 0])), (q_1, .inr (4, [.null, .null, .null, .ref q_1_2, .ref q_2_2, .ref q_3_2, .ref q_4_2, .ref q_5_2, .ref q_6_2, .ref q_7_2, .ref q_8_2, .int 0, .int 0])), (q_3, .inr (6, [.ref q_1_4, .ref q_2_4, .ref q_3_4, .ref q_4_4, .ref q_5_4, .ref q_6_4, .ref q_7_4, .ref q_8_4, .ref q_9_4, .int 0, .int 0, .int 0, .int 0, .int 0])), (q_5, .inr (6, [.ref q_1_6, .ref q_2_6, .ref q_3_6, .ref q_4_6, .ref q_5_6, .ref q_6_6, .ref q_7_6, .ref q_8_6, .ref q_9_6, .int 0, .int 0, .int 0, .int 0, .int 0])), (q_7, .inr (6, [.null, .null, .null, .null, .null, .null, .null, .null, .null, .int 0, .int 0, .int 0, .int 0, .int 0]))] := hD
  refine W.widen (k := 30) (n := 787) (Nat.le_of_ble_eq_true rfl) (Nat.le_of_ble_eq_true rfl) ?_
  refine lv_dup hx hb dX3_init_55 rfl ?_
  refine lv_bipush (v := 12) hx hb dX3_init_56 (by decide) ?_
  have hPc := hP.sub (ws' := [(q_7, .inr (6, [.null, .null, .null, .null, .null, .null, .null, .null, .null, .int 0, .int 0, .int 0, .int 0, .int 0]))]) [4] rfl
  have hDc := hD.sub (ws' := [(q_7, .inr (6, [.null, .null, .null, .null, .null, .null, .null, .null, .null, .int 0, .int 0, .int 0, .int 0, .int 0]))]) [4] (by decide) rfl
  have hKc := hK.sub (tys' := []) [] rfl
  have hFc := va_free (wc := [(q_7, .inr (6, [.null, .null, .null, .null, .null, .null, .null, .null, .null, .int 0, .int 0, .int 0, .int 0, .int 0]))]) hD hS hA [4] rfl
  refine va_callv (va_runI (As := [.int 12]) (rest := [.ref q_7, .ref h0]) ⟨hx, hb, hml, hown, hts⟩ (c_X6_init l dC dI H.size q_7) (cwI 1 hts g_c_X3_init_c_X6_init_1 rfl rfl rfl (hts (.initialized RX6) (by decide +kernel)) (hts (.methodLink RX3 28 yX6_init) (by decide +kernel)) (hts (.instanceMethod yX6_init) (by decide +kernel)) rfl (by decide +kernel) ⟨Nat.le_of_ble_eq_true rfl, Nat.le_of_ble_eq_true rfl⟩) ⟨fun a U g mk q => by obtain ⟨q0, q1, qP, qK, qD⟩ := q; exact ⟨q0, q1, qP, va_K.moved (u := U) (U := U.calling g mk a) (Vm.Alike.refl U.vm) qK, qD⟩, fun U hU hW => ⟨rfl, by rw [hU], by rw [hU]; exact hPc, va_K.moved hW.alike hKc, hDc.weaken (fun _ _ _ _ => trivial)⟩⟩ rfl rfl hl.1 rfl (lv_room (Nat.le_of_ble_eq_true rfl)) dX3_init_58 ⟨Nat.le_of_ble_eq_true rfl, Nat.le_of_ble_eq_true rfl⟩) hS (fun q _ h => hFc q h) hFc (fun u t H1 locs ht hvm hw hB hz1 hk1 hS => ?_)
  obtain ⟨q_1_8, q_2_8, q_3_8, q_4_8, q_5_8, q_6_8, q_7_8, q_8_8, q_9_8, hP1, hD1⟩ := hB
  rw [ht] at hP1
  obtain ⟨hP, hD⟩ := va_join (wr := [(h0, .inr (3, [.ref h1, .ref h2, .ref q_1, .ref q_3, .ref q_5, .null, .null, .null, .int 0, .int 0, .int 0])), (q_1, .inr (4, [.null, .null, .null, .ref q_1_2, .ref q_2_2, .ref q_3_2, .ref q_4_2, .ref q_5_2, .ref q_6_2, .ref q_7_2, .ref q_8_2, .int 0, .int 0])), (q_3, .inr (6, [.ref q_1_4, .ref q_2_4, .ref q_3_4, .ref q_4_4, .ref q_5_4, .ref q_6_4, .ref q_7_4, .ref q_8_4, .ref q_9_4, .int 0, .int 0, .int 0, .int 0, .int 0])), (q_5, .inr (6, [.ref q_1_6, .ref q_2_6, .ref q_3_6, .ref q_4_6, .ref q_5_6, .ref q_6_6, .ref q_7_6, .ref q_8_6, .ref q_9_6, .int 0, .int 0, .int 0, .int 0, .int 0]))]) (w1 := [(q_7, .inr (6, [.ref q_1_8, .ref q_2_8, .ref q_3_8, .ref q_4_8, .ref q_5_8, .ref q_6_8, .ref q_7_8, .ref q_8_8, .ref q_9_8, .int 0, .int 0, .int 0, .int 0, .int 0]))]) hP hD [4] [0, 1, 2, 3] rfl rfl (by decide) (by decide) hk1 hFc hP1 hD1
  generalize H1 = H at hP hS ⊢
  have hP : va_P (dC, dI) vwCl [(h0, .inr (3, [.ref h1, .ref h2, .ref q_1, .ref q_3, .ref q_5, .null, .null, .null, .int 0, .int 0, .int 0])), (q_1, .inr (4, [.null, .null, .null, .ref q_1_2, .ref q_2_2, .ref q_3_2, .ref q_4_2, .ref q_5_2, .ref q_6_2, .ref q_7_2, .ref q_8_2, .int 0, .int 0])), (q_3, .inr (6, [.ref q_1_4, .ref q_2_4, .ref q_3_4, .ref q_4_4, .ref q_5_4, .ref q_6_4, .ref q_7_4, .ref q_8_4, .ref q_9_4, .int 0, .int 0, .int 0, .int 0, .int 0])), (q_5, .inr (6, [.ref q_1_6, .ref q_2_6, .ref q_3_6, .ref q_4_6, .ref q_5_6, .ref q_6_6, .ref q_7_6, .ref q_8_6, .ref q_9_6, .int 0, .int 0, .int 0, .int 0, .int 0])), (q_7, .inr (6, [.ref q_1_8, .ref q_2_8, .ref q_3_8, .ref q_4_8, .ref q_5_8, .ref q_6_8, .ref q_7_8, .ref q_8_8, .ref q_9_8, .int 0, .int 0, .int 0, .int 0, .int 0]))] H := hP
  have hD : va_D A [(h0, .inr (3, [.ref h1, .ref h2, .ref q_1, .ref q_3, .ref q_5, .null, .null, .null, .int 0, .int 0, .int 0])), (q_1, .inr (4, [.null, .null, .null, .ref q_1_2, .ref q_2_2, .ref q_3_2, .ref q_4_2, .ref q_5_2, .ref q_6_2, .ref q_7_2, .ref q_8_2, .int 0, .int 0])), (q_3, .inr (6, [.ref q_1_4, .ref q_2_4, .ref q_3_4, .ref q_4_4, .ref q_5_4, .ref q_6_4, .ref q_7_4, .ref q_8_4, .ref q_9_4, .int 0, .int 0, .int 0, .int 0, .int 0])), (q_5, .inr (6, [.ref q_1_6, .ref q_2_6, .ref q_3_6, .ref q_4_6, .ref q_5_6, .ref q_6_6, .ref q_7_6, .ref q_8_6, .ref q_9_6, .int 0, .int 0, .int 0, .int 0, .int 0])), (q_7, .inr (6, [.ref q_1_8, .ref q_2_8, .ref q_3_8, .ref q_4_8, .ref q_5_8, .ref q_6_8, .ref q_7_8, .ref q_8_8, .ref q_9_8, .int 0, .int 0, .int 0, .int 0, .int 0]))] := hD
  refine W.widen (k := 39) (n := 967) (Nat.le_of_ble_eq_true rfl) (Nat.le_of_ble_eq_true rfl) ?_
  refine va_putF (D := (dC, dI)) (ci := 3) (v := .ref q_7) (ty := (.object "CakePapers$Paper")) (C := RX3) (T := TX3) (N := 11) hx hb hts hiX3 tyX3 tyX3_ok nmX3 hown hK hP hD hS 0 rfl rfl 5 (by decide) (hts (.fieldLink RX3 38 "CakePapers$Joiner" "rightResult" "LCakePapers$Paper;") (by decide +kernel)) (fun _ h9 => h9) rfl hin rfl (by decide +kernel) rfl rfl (Nat.le_of_ble_eq_true rfl) dX3_init_61 (fun H locs hP hD hS => ?_)
  have hP : va_P (dC, dI) vwCl [(h0, .inr (3, [.ref h1, .ref h2, .ref q_1, .ref q_3, .ref q_5, .ref q_7, .null, .null, .int 0, .int 0, .int 0])), (q_1, .inr (4, [.null, .null, .null, .ref q_1_2, .ref q_2_2, .ref q_3_2, .ref q_4_2, .ref q_5_2, .ref q_6_2, .ref q_7_2, .ref q_8_2, .int 0, .int 0])), (q_3, .inr (6, [.ref q_1_4, .ref q_2_4, .ref q_3_4, .ref q_4_4, .ref q_5_4, .ref q_6_4, .ref q_7_4, .ref q_8_4, .ref q_9_4, .int 0, .int 0, .int 0, .int 0, .int 0])), (q_5, .inr (6, [.ref q_1_6, .ref q_2_6, .ref q_3_6, .ref q_4_6, .ref q_5_6, .ref q_6_6, .ref q_7_6, .ref q_8_6, .ref q_9_6, .int 0, .int 0, .int 0, .int 0, .int 0])), (q_7, .inr (6, [.ref q_1_8, .ref q_2_8, .ref q_3_8, .ref q_4_8, .ref q_5_8, .ref q_6_8, .ref q_7_8, .ref q_8_8, .ref q_9_8, .int 0, .int 0, .int 0, .int 0, .int 0]))] H := hP
  have hD : va_D A [(h0, .inr (3, [.ref h1, .ref h2, .ref q_1, .ref q_3, .ref q_5, .ref q_7, .null, .null, .int 0, .int 0, .int 0])), (q_1, .inr (4, [.null, .null, .null, .ref q_1_2, .ref q_2_2, .ref q_3_2, .ref q_4_2, .ref q_5_2, .ref q_6_2, .ref q_7_2, .ref q_8_2, .int 0, .int 0])), (q_3, .inr (6, [.ref q_1_4, .ref q_2_4, .ref q_3_4, .ref q_4_4, .ref q_5_4, .ref q_6_4, .ref q_7_4, .ref q_8_4, .ref q_9_4, .int 0, .int 0, .int 0, .int 0, .int 0])), (q_5, .inr (6, [.ref q_1_6, .ref q_2_6, .ref q_3_6, .ref q_4_6, .ref q_5_6, .ref q_6_6, .ref q_7_6, .ref q_8_6, .ref q_9_6, .int 0, .int 0, .int 0, .int 0, .int 0])), (q_7, .inr (6, [.ref q_1_8, .ref q_2_8, .ref q_3_8, .ref q_4_8, .ref q_5_8, .ref q_6_8, .ref q_7_8, .ref q_8_8, .ref q_9_8, .int 0, .int 0, .int 0, .int 0, .int 0]))] := hD
  refine lv_aload_n hx hb dX3_init_64 rfl (lv_at hl 0 rfl) ?_
  refine lv_bipush (v := 64) hx hb dX3_init_65 (by decide) ?_
  refine va_newa (atype := .int) (ty := .int) (n := 64) (N' := 64) (a0 := (64, .inl (fun _ => 0))) hx hb (hts (.arrayClass .int) (by decide +kernel)) rfl hK hP hD hS hA (fun _ => rfl) (by decide) (by decide) (by decide) (Nat.le_of_ble_eq_true rfl) (Nat.le_of_ble_eq_true rfl) dX3_init_67 (fun q_9 cA_9 H hK hP hD hS => ?_)
  have hK : va_K (dC, dI) vwCl [(cA_9, .int)] s := hK
  have hP : va_P (dC, dI) vwCl [(h0, .inr (3, [.ref h1, .ref h2, .ref q_1, .ref q_3, .ref q_5, .ref q_7, .null, .null, .int 0, .int 0, .int 0])), (q_1, .inr (4, [.null, .null, .null, .ref q_1_2, .ref q_2_2, .ref q_3_2, .ref q_4_2, .ref q_5_2, .ref q_6_2, .ref q_7_2, .ref q_8_2, .int 0, .int 0])), (q_3, .inr (6, [.ref q_1_4, .ref q_2_4, .ref q_3_4, .ref q_4_4, .ref q_5_4, .ref q_6_4, .ref q_7_4, .ref q_8_4, .ref q_9_4, .int 0, .int 0, .int 0, .int 0, .int 0])), (q_5, .inr (6, [.ref q_1_6, .ref q_2_6, .ref q_3_6, .ref q_4_6, .ref q_5_6, .ref q_6_6, .ref q_7_6, .ref q_8_6, .ref q_9_6, .int 0, .int 0, .int 0, .int 0, .int 0])), (q_7, .inr (6, [.ref q_1_8, .ref q_2_8, .ref q_3_8, .ref q_4_8, .ref q_5_8, .ref q_6_8, .ref q_7_8, .ref q_8_8, .ref q_9_8, .int 0, .int 0, .int 0, .int 0, .int 0])), (q_9, .inl (cA_9, 64, .inl (fun _ => 0)))] H := hP
  have hD : va_D A [(h0, .inr (3, [.ref h1, .ref h2, .ref q_1, .ref q_3, .ref q_5, .ref q_7, .null, .null, .int 0, .int 0, .int 0])), (q_1, .inr (4, [.null, .null, .null, .ref q_1_2, .ref q_2_2, .ref q_3_2, .ref q_4_2, .ref q_5_2, .ref q_6_2, .ref q_7_2, .ref q_8_2, .int 0, .int 0])), (q_3, .inr (6, [.ref q_1_4, .ref q_2_4, .ref q_3_4, .ref q_4_4, .ref q_5_4, .ref q_6_4, .ref q_7_4, .ref q_8_4, .ref q_9_4, .int 0, .int 0, .int 0, .int 0, .int 0])), (q_5, .inr (6, [.ref q_1_6, .ref q_2_6, .ref q_3_6, .ref q_4_6, .ref q_5_6, .ref q_6_6, .ref q_7_6, .ref q_8_6, .ref q_9_6, .int 0, .int 0, .int 0, .int 0, .int 0])), (q_7, .inr (6, [.ref q_1_8, .ref q_2_8, .ref q_3_8, .ref q_4_8, .ref q_5_8, .ref q_6_8, .ref q_7_8, .ref q_8_8, .ref q_9_8, .int 0, .int 0, .int 0, .int 0, .int 0])), (q_9, .inl (cA_9, 64, .inl (fun _ => 0)))] := hD
  refine W.widen (k := 40) (n := 1031) (Nat.le_of_ble_eq_true rfl) (Nat.le_of_ble_eq_true rfl) ?_
  have hP := hP.sub (ws' := [(h0, .inr (3, [.ref h1, .ref h2, .ref q_1, .ref q_3, .ref q_5, .ref q_7, .null, .null, .int 0, .int 0, .int 0])), (q_1, .inr (4, [.null, .null, .null, .ref q_1_2, .ref q_2_2, .ref q_3_2, .ref q_4_2, .ref q_5_2, .ref q_6_2, .ref q_7_2, .ref q_8_2, .int 0, .int 0])), (q_3, .inr (6, [.ref q_1_4, .ref q_2_4, .ref q_3_4, .ref q_4_4, .ref q_5_4, .ref q_6_4, .ref q_7_4, .ref q_8_4, .ref q_9_4, .int 0, .int 0, .int 0, .int 0, .int 0])), (q_5, .inr (6, [.ref q_1_6, .ref q_2_6, .ref q_3_6, .ref q_4_6, .ref q_5_6, .ref q_6_6, .ref q_7_6, .ref q_8_6, .ref q_9_6, .int 0, .int 0, .int 0, .int 0, .int 0])), (q_7, .inr (6, [.ref q_1_8, .ref q_2_8, .ref q_3_8, .ref q_4_8, .ref q_5_8, .ref q_6_8, .ref q_7_8, .ref q_8_8, .ref q_9_8, .int 0, .int 0, .int 0, .int 0, .int 0]))]) [0, 1, 2, 3, 4] rfl
  have hD := hD.sub (ws' := [(h0, .inr (3, [.ref h1, .ref h2, .ref q_1, .ref q_3, .ref q_5, .ref q_7, .null, .null, .int 0, .int 0, .int 0])), (q_1, .inr (4, [.null, .null, .null, .ref q_1_2, .ref q_2_2, .ref q_3_2, .ref q_4_2, .ref q_5_2, .ref q_6_2, .ref q_7_2, .ref q_8_2, .int 0, .int 0])), (q_3, .inr (6, [.ref q_1_4, .ref q_2_4, .ref q_3_4, .ref q_4_4, .ref q_5_4, .ref q_6_4, .ref q_7_4, .ref q_8_4, .ref q_9_4, .int 0, .int 0, .int 0, .int 0, .int 0])), (q_5, .inr (6, [.ref q_1_6, .ref q_2_6, .ref q_3_6, .ref q_4_6, .ref q_5_6, .ref q_6_6, .ref q_7_6, .ref q_8_6, .ref q_9_6, .int 0, .int 0, .int 0, .int 0, .int 0])), (q_7, .inr (6, [.ref q_1_8, .ref q_2_8, .ref q_3_8, .ref q_4_8, .ref q_5_8, .ref q_6_8, .ref q_7_8, .ref q_8_8, .ref q_9_8, .int 0, .int 0, .int 0, .int 0, .int 0]))]) [0, 1, 2, 3, 4] (by decide) rfl
  have hK := hK.sub (tys' := []) [] rfl
  refine va_putF (D := (dC, dI)) (ci := 3) (v := .ref q_9) (ty := (.array .int)) (C := RX3) (T := TX3) (N := 11) hx hb hts hiX3 tyX3 tyX3_ok nmX3 hown hK hP hD hS 0 rfl rfl 6 (by decide) (hts (.fieldLink RX3 41 "CakePapers$Joiner" "row" "[I") (by decide +kernel)) (fun _ h9 => h9) rfl hin rfl (by decide +kernel) rfl rfl (Nat.le_of_ble_eq_true rfl) dX3_init_69 (fun H locs hP hD hS => ?_)
  have hP : va_P (dC, dI) vwCl [(h0, .inr (3, [.ref h1, .ref h2, .ref q_1, .ref q_3, .ref q_5, .ref q_7, .ref q_9, .null, .int 0, .int 0, .int 0])), (q_1, .inr (4, [.null, .null, .null, .ref q_1_2, .ref q_2_2, .ref q_3_2, .ref q_4_2, .ref q_5_2, .ref q_6_2, .ref q_7_2, .ref q_8_2, .int 0, .int 0])), (q_3, .inr (6, [.ref q_1_4, .ref q_2_4, .ref q_3_4, .ref q_4_4, .ref q_5_4, .ref q_6_4, .ref q_7_4, .ref q_8_4, .ref q_9_4, .int 0, .int 0, .int 0, .int 0, .int 0])), (q_5, .inr (6, [.ref q_1_6, .ref q_2_6, .ref q_3_6, .ref q_4_6, .ref q_5_6, .ref q_6_6, .ref q_7_6, .ref q_8_6, .ref q_9_6, .int 0, .int 0, .int 0, .int 0, .int 0])), (q_7, .inr (6, [.ref q_1_8, .ref q_2_8, .ref q_3_8, .ref q_4_8, .ref q_5_8, .ref q_6_8, .ref q_7_8, .ref q_8_8, .ref q_9_8, .int 0, .int 0, .int 0, .int 0, .int 0]))] H := hP
  have hD : va_D A [(h0, .inr (3, [.ref h1, .ref h2, .ref q_1, .ref q_3, .ref q_5, .ref q_7, .ref q_9, .null, .int 0, .int 0, .int 0])), (q_1, .inr (4, [.null, .null, .null, .ref q_1_2, .ref q_2_2, .ref q_3_2, .ref q_4_2, .ref q_5_2, .ref q_6_2, .ref q_7_2, .ref q_8_2, .int 0, .int 0])), (q_3, .inr (6, [.ref q_1_4, .ref q_2_4, .ref q_3_4, .ref q_4_4, .ref q_5_4, .ref q_6_4, .ref q_7_4, .ref q_8_4, .ref q_9_4, .int 0, .int 0, .int 0, .int 0, .int 0])), (q_5, .inr (6, [.ref q_1_6, .ref q_2_6, .ref q_3_6, .ref q_4_6, .ref q_5_6, .ref q_6_6, .ref q_7_6, .ref q_8_6, .ref q_9_6, .int 0, .int 0, .int 0, .int 0, .int 0])), (q_7, .inr (6, [.ref q_1_8, .ref q_2_8, .ref q_3_8, .ref q_4_8, .ref q_5_8, .ref q_6_8, .ref q_7_8, .ref q_8_8, .ref q_9_8, .int 0, .int 0, .int 0, .int 0, .int 0]))] := hD
  refine lv_aload_n hx hb dX3_init_72 rfl (lv_at hl 0 rfl) ?_
  refine lv_bipush (v := 64) hx hb dX3_init_73 (by decide) ?_
  refine va_newa (atype := .int) (ty := .int) (n := 64) (N' := 64) (a0 := (64, .inl (fun _ => 0))) hx hb (hts (.arrayClass .int) (by decide +kernel)) rfl hK hP hD hS hA (fun _ => rfl) (by decide) (by decide) (by decide) (Nat.le_of_ble_eq_true rfl) (Nat.le_of_ble_eq_true rfl) dX3_init_75 (fun q_10 cA_10 H hK hP hD hS => ?_)
  have hK : va_K (dC, dI) vwCl [(cA_10, .int)] s := hK
  have hP : va_P (dC, dI) vwCl [(h0, .inr (3, [.ref h1, .ref h2, .ref q_1, .ref q_3, .ref q_5, .ref q_7, .ref q_9, .null, .int 0, .int 0, .int 0])), (q_1, .inr (4, [.null, .null, .null, .ref q_1_2, .ref q_2_2, .ref q_3_2, .ref q_4_2, .ref q_5_2, .ref q_6_2, .ref q_7_2, .ref q_8_2, .int 0, .int 0])), (q_3, .inr (6, [.ref q_1_4, .ref q_2_4, .ref q_3_4, .ref q_4_4, .ref q_5_4, .ref q_6_4, .ref q_7_4, .ref q_8_4, .ref q_9_4, .int 0, .int 0, .int 0, .int 0, .int 0])), (q_5, .inr (6, [.ref q_1_6, .ref q_2_6, .ref q_3_6, .ref q_4_6, .ref q_5_6, .ref q_6_6, .ref q_7_6, .ref q_8_6, .ref q_9_6, .int 0, .int 0, .int 0, .int 0, .int 0])), (q_7, .inr (6, [.ref q_1_8, .ref q_2_8, .ref q_3_8, .ref q_4_8, .ref q_5_8, .ref q_6_8, .ref q_7_8, .ref q_8_8, .ref q_9_8, .int 0, .int 0, .int 0, .int 0, .int 0])), (q_10, .inl (cA_10, 64, .inl (fun _ => 0)))] H := hP
  have hD : va_D A [(h0, .inr (3, [.ref h1, .ref h2, .ref q_1, .ref q_3, .ref q_5, .ref q_7, .ref q_9, .null, .int 0, .int 0, .int 0])), (q_1, .inr (4, [.null, .null, .null, .ref q_1_2, .ref q_2_2, .ref q_3_2, .ref q_4_2, .ref q_5_2, .ref q_6_2, .ref q_7_2, .ref q_8_2, .int 0, .int 0])), (q_3, .inr (6, [.ref q_1_4, .ref q_2_4, .ref q_3_4, .ref q_4_4, .ref q_5_4, .ref q_6_4, .ref q_7_4, .ref q_8_4, .ref q_9_4, .int 0, .int 0, .int 0, .int 0, .int 0])), (q_5, .inr (6, [.ref q_1_6, .ref q_2_6, .ref q_3_6, .ref q_4_6, .ref q_5_6, .ref q_6_6, .ref q_7_6, .ref q_8_6, .ref q_9_6, .int 0, .int 0, .int 0, .int 0, .int 0])), (q_7, .inr (6, [.ref q_1_8, .ref q_2_8, .ref q_3_8, .ref q_4_8, .ref q_5_8, .ref q_6_8, .ref q_7_8, .ref q_8_8, .ref q_9_8, .int 0, .int 0, .int 0, .int 0, .int 0])), (q_10, .inl (cA_10, 64, .inl (fun _ => 0)))] := hD
  refine W.widen (k := 41) (n := 1095) (Nat.le_of_ble_eq_true rfl) (Nat.le_of_ble_eq_true rfl) ?_
  have hP := hP.sub (ws' := [(h0, .inr (3, [.ref h1, .ref h2, .ref q_1, .ref q_3, .ref q_5, .ref q_7, .ref q_9, .null, .int 0, .int 0, .int 0])), (q_1, .inr (4, [.null, .null, .null, .ref q_1_2, .ref q_2_2, .ref q_3_2, .ref q_4_2, .ref q_5_2, .ref q_6_2, .ref q_7_2, .ref q_8_2, .int 0, .int 0])), (q_3, .inr (6, [.ref q_1_4, .ref q_2_4, .ref q_3_4, .ref q_4_4, .ref q_5_4, .ref q_6_4, .ref q_7_4, .ref q_8_4, .ref q_9_4, .int 0, .int 0, .int 0, .int 0, .int 0])), (q_5, .inr (6, [.ref q_1_6, .ref q_2_6, .ref q_3_6, .ref q_4_6, .ref q_5_6, .ref q_6_6, .ref q_7_6, .ref q_8_6, .ref q_9_6, .int 0, .int 0, .int 0, .int 0, .int 0])), (q_7, .inr (6, [.ref q_1_8, .ref q_2_8, .ref q_3_8, .ref q_4_8, .ref q_5_8, .ref q_6_8, .ref q_7_8, .ref q_8_8, .ref q_9_8, .int 0, .int 0, .int 0, .int 0, .int 0]))]) [0, 1, 2, 3, 4] rfl
  have hD := hD.sub (ws' := [(h0, .inr (3, [.ref h1, .ref h2, .ref q_1, .ref q_3, .ref q_5, .ref q_7, .ref q_9, .null, .int 0, .int 0, .int 0])), (q_1, .inr (4, [.null, .null, .null, .ref q_1_2, .ref q_2_2, .ref q_3_2, .ref q_4_2, .ref q_5_2, .ref q_6_2, .ref q_7_2, .ref q_8_2, .int 0, .int 0])), (q_3, .inr (6, [.ref q_1_4, .ref q_2_4, .ref q_3_4, .ref q_4_4, .ref q_5_4, .ref q_6_4, .ref q_7_4, .ref q_8_4, .ref q_9_4, .int 0, .int 0, .int 0, .int 0, .int 0])), (q_5, .inr (6, [.ref q_1_6, .ref q_2_6, .ref q_3_6, .ref q_4_6, .ref q_5_6, .ref q_6_6, .ref q_7_6, .ref q_8_6, .ref q_9_6, .int 0, .int 0, .int 0, .int 0, .int 0])), (q_7, .inr (6, [.ref q_1_8, .ref q_2_8, .ref q_3_8, .ref q_4_8, .ref q_5_8, .ref q_6_8, .ref q_7_8, .ref q_8_8, .ref q_9_8, .int 0, .int 0, .int 0, .int 0, .int 0]))]) [0, 1, 2, 3, 4] (by decide) rfl
  have hK := hK.sub (tys' := []) [] rfl
  refine va_putF (D := (dC, dI)) (ci := 3) (v := .ref q_10) (ty := (.array .int)) (C := RX3) (T := TX3) (N := 11) hx hb hts hiX3 tyX3 tyX3_ok nmX3 hown hK hP hD hS 0 rfl rfl 7 (by decide) (hts (.fieldLink RX3 45 "CakePapers$Joiner" "bestRow" "[I") (by decide +kernel)) (fun _ h9 => h9) rfl hin rfl (by decide +kernel) rfl rfl (Nat.le_of_ble_eq_true rfl) dX3_init_77 (fun H locs hP hD hS => ?_)
  have hP : va_P (dC, dI) vwCl [(h0, .inr (3, [.ref h1, .ref h2, .ref q_1, .ref q_3, .ref q_5, .ref q_7, .ref q_9, .ref q_10, .int 0, .int 0, .int 0])), (q_1, .inr (4, [.null, .null, .null, .ref q_1_2, .ref q_2_2, .ref q_3_2, .ref q_4_2, .ref q_5_2, .ref q_6_2, .ref q_7_2, .ref q_8_2, .int 0, .int 0])), (q_3, .inr (6, [.ref q_1_4, .ref q_2_4, .ref q_3_4, .ref q_4_4, .ref q_5_4, .ref q_6_4, .ref q_7_4, .ref q_8_4, .ref q_9_4, .int 0, .int 0, .int 0, .int 0, .int 0])), (q_5, .inr (6, [.ref q_1_6, .ref q_2_6, .ref q_3_6, .ref q_4_6, .ref q_5_6, .ref q_6_6, .ref q_7_6, .ref q_8_6, .ref q_9_6, .int 0, .int 0, .int 0, .int 0, .int 0])), (q_7, .inr (6, [.ref q_1_8, .ref q_2_8, .ref q_3_8, .ref q_4_8, .ref q_5_8, .ref q_6_8, .ref q_7_8, .ref q_8_8, .ref q_9_8, .int 0, .int 0, .int 0, .int 0, .int 0]))] H := hP
  have hD : va_D A [(h0, .inr (3, [.ref h1, .ref h2, .ref q_1, .ref q_3, .ref q_5, .ref q_7, .ref q_9, .ref q_10, .int 0, .int 0, .int 0])), (q_1, .inr (4, [.null, .null, .null, .ref q_1_2, .ref q_2_2, .ref q_3_2, .ref q_4_2, .ref q_5_2, .ref q_6_2, .ref q_7_2, .ref q_8_2, .int 0, .int 0])), (q_3, .inr (6, [.ref q_1_4, .ref q_2_4, .ref q_3_4, .ref q_4_4, .ref q_5_4, .ref q_6_4, .ref q_7_4, .ref q_8_4, .ref q_9_4, .int 0, .int 0, .int 0, .int 0, .int 0])), (q_5, .inr (6, [.ref q_1_6, .ref q_2_6, .ref q_3_6, .ref q_4_6, .ref q_5_6, .ref q_6_6, .ref q_7_6, .ref q_8_6, .ref q_9_6, .int 0, .int 0, .int 0, .int 0, .int 0])), (q_7, .inr (6, [.ref q_1_8, .ref q_2_8, .ref q_3_8, .ref q_4_8, .ref q_5_8, .ref q_6_8, .ref q_7_8, .ref q_8_8, .ref q_9_8, .int 0, .int 0, .int 0, .int 0, .int 0]))] := hD
  refine W.widen (k := 41) (n := 1095) (Nat.le_of_ble_eq_true rfl) (Nat.le_of_ble_eq_true rfl) ?_
  have hP9 := hP.sub (ws' := [(h0, .inr (3, [.ref h1, .ref h2, .ref q_1, .ref q_3, .ref q_5, .ref q_7, .ref q_9, .ref q_10, .int 0, .int 0, .int 0]))]) [0] rfl
  have hD9 := hD.sub (ws' := [(h0, .inr (3, [.ref h1, .ref h2, .ref q_1, .ref q_3, .ref q_5, .ref q_7, .ref q_9, .ref q_10, .int 0, .int 0, .int 0]))]) [0] (by decide) rfl
  exact W.vret hx hb hr (fun t ht hW => ⟨⟨(), rfl, trivial, q_1, q_3, q_5, q_7, q_9, q_10, by rw [ht]; exact hP9, hD9⟩, hS.F ht⟩) hS.2.2 dX3_init_80
end
section
def u_c_X11_makes : List Cond := .code yX11_makes cX11_makes 4 (some .int) :: ([.fieldLink RX11 39 "CakePapers" "desk" "LCakePapers$Desk;", .code yX1_get cX1_get 2 (some (.object "CakePapers$Paper")), .fieldLink RX1 24 "CakePapers$Desk" "count" "I", .methodLink RX11 148 yX1_get, .instanceMethod yX1_get, .selects RX1 yX1_get yX1_get, .initialized RX1] ++ wsX110 ++ wsX10)
set_option maxRecDepth 20000 in
theorem g_c_X11_makes_c_X1_get_0 : GoodIn u_c_X11_makes (wsV RX11 148 RX1 yX1_get u_c_X1_get) := goodIn_of _ (by decide +kernel)
set_option maxHeartbeats 1000000 in
set_option maxRecDepth 100000 in
theorem c_X11_makes (l : Launch) (dC : Nat → ClassId) (dI : Nat → Nat → Nat) (sz : Nat) (h0 h1 : Nat) (fs : List Value) (hn_fs : fs.length = 16) (e_fs_5 : fs[5]? = some (.ref h1)) (gs : List Value) (hn_gs : gs.length = 3) (e_gs_2 : gs[2]? = some (.int 0)) (p0 : Int32) (p1 : Int32) : Met l yX11_makes u_c_X11_makes ({ frames := 1, cells := 0, slots := 0, locals := 21 }) (va_Pc [.ref h0, .int p0, .int p1] (fun U => U.heap.size = sz ∧ va_P (dC, dI) vwCl [(h0, .inr (11, fs)), (h1, .inr (1, gs))] U.heap ∧ va_K (dC, dI) vwCl [] U ∧ va_D (fun _ => True) [(h0, .inr (11, fs)), (h1, .inr (1, gs))])) (va_Qi (fun (r : Int32) (_ : Unit) => r = (-1)) (fun _ _ => True) (va_A [(h0, .inr (11, fs)), (h1, .inr (1, gs))] sz)) 0 0 (va_A [(h0, .inr (11, fs)), (h1, .inr (1, gs))] sz) := by
  refine Met.ofW (cc := cX11_makes) (maxL := 4) (ret := (some .int)) (by decide) rfl ?_
  intro p e s m args below meth c s₁ B hml hv
  obtain ⟨rfl, hsz, hP, hK, hD0⟩ := hv
  have hx := B.exec
  have hb := B.bytes
  have hr := B.returns
  have hts := atoms_spec (ws := u_c_X11_makes) B.pre
  have hown : s.vm.findClass RX11 = some m.cls := findClass_of_methodNamed B.named
  have hlocks := B.notSynchronized
  have hiX11 : ∀ w ∈ wsX110, w ∈ u_c_X11_makes := fun w h => List.mem_cons_of_mem _ (List.mem_append_left _ (List.mem_append_right _ h))
  have hiX1 : ∀ w ∈ wsX10, w ∈ u_c_X11_makes := fun w h => List.mem_cons_of_mem _ (List.mem_append_right _ h)
  subst hsz
  have hD := hD0.self (sz := s.heap.size)
  generalize hAe : va_A [(h0, .inr (11, fs)), (h1, .inr (1, gs))] s.heap.size = A at hD ⊢
  have hA : ∀ q : Nat, s.heap.size ≤ q → A q := fun q h => by rw [← hAe]; exact Or.inr h
  have hS : va_S A s.heap s.heap [] := va_S.rf
  obtain ⟨H, hH⟩ : ∃ H : Heap, H = s.heap := ⟨_, rfl⟩
  have hP : va_P (dC, dI) vwCl [(h0, .inr (11, fs)), (h1, .inr (1, gs))] H := by rw [hH]; exact hP
  have hS : va_S A s.heap H [] := by rw [hH]; exact hS
  have hl := lv_entry ([.ref h0, .int p0, .int p1]) (n := 4) (Nat.le_of_ble_eq_true rfl)
  rw [lg_entry_eq]
  generalize (lg_sl ([.ref h0, .int p0, .int p1]) ++ List.replicate (4 - (lg_sl ([.ref h0, .int p0, .int p1])).length) Slot.unset).toArray = ls at hl ⊢
  have hl : lv_has ls 4 [(0, .ref h0), (1, .int p0), (2, .int p1)] := hl
  suffices h9 : W p l e (headSpec u_c_X11_makes _).room s m _ below meth c H [] 0 0 _ (F0 m 0 ls []) by rw [hH] at h9; exact h9
  refine lv_aload_n hx hb dX11_makes_0 rfl (lv_at hl 0 rfl) ?_
  refine va_get (D := (dC, dI)) (ci := 11) (v := .ref h1) (C := RX11) (T := TX11) (N := 16) hx hb hts hiX11 hown hK hP 0 rfl rfl 5 (by decide) (hts (.fieldLink RX11 39 "CakePapers" "desk" "LCakePapers$Desk;") (by decide +kernel)) (fun _ h9 => h9) e_fs_5 dX11_makes_1 ?_
  refine lv_iload_n hx hb dX11_makes_4 rfl (lv_at hl 1 rfl) ?_
  have hPc := hP.sub (ws' := [(h1, .inr (1, gs))]) [1] rfl
  have hDc := hD.sub (ws' := [(h1, .inr (1, gs))]) [1] (by decide) rfl
  have hKc := hK.sub (tys' := []) [] rfl
  have hFc := va_free (wc := [(h1, .inr (1, gs))]) hD hS hA [1] rfl
  refine va_callq (va_runV (As := [.int p0]) (rest := []) ⟨hx, hb, hml, hown, hts⟩ (c_X1_get l dC dI H.size h1 gs hn_gs e_gs_2 p0) (cwV 1 hts g_c_X11_makes_c_X1_get_0 rfl rfl rfl (by decide +kernel) ⟨Nat.le_of_ble_eq_true rfl, Nat.le_of_ble_eq_true rfl⟩) ⟨fun a U g mk q => by obtain ⟨q0, q1, qP, qK, qD⟩ := q; exact ⟨q0, q1, qP, va_K.moved (u := U) (U := U.calling g mk a) (Vm.Alike.refl U.vm) qK, qD⟩, va_recv hKc hPc (ci := 1) (q0 := 0) rfl rfl, fun U hU hW => ⟨rfl, by rw [hU], by rw [hU]; exact hPc, va_K.moved hW.alike hKc, hDc.weaken (fun _ _ _ _ => trivial)⟩⟩ rfl rfl hl.1 rfl (lv_room (Nat.le_of_ble_eq_true rfl)) dX11_makes_5 ⟨Nat.le_of_ble_eq_true rfl, Nat.le_of_ble_eq_true rfl⟩) hS (fun q _ h => hFc q h) hFc (fun r_1 u t H1 locs ht hvm hw hB hz1 hk1 hS => ?_)
  obtain ⟨hP1, hD1⟩ := hB
  rw [ht] at hP1
  obtain ⟨hP, hD⟩ := va_join (wr := [(h0, .inr (11, fs))]) (w1 := [(h1, .inr (1, gs))]) hP hD [1] [0] rfl rfl (by decide) (by decide) hk1 hFc hP1 hD1
  generalize H1 = H at hP hS ⊢
  have hP : va_P (dC, dI) vwCl [(h0, .inr (11, fs)), (h1, .inr (1, gs))] H := hP
  have hD : va_D A [(h0, .inr (11, fs)), (h1, .inr (1, gs))] := hD
  refine W.widen (k := 0) (n := 0) (Nat.le_of_ble_eq_true rfl) (Nat.le_of_ble_eq_true rfl) ?_
  have e_1 : r_1 = none := hw
  subst e_1
  refine W.eq (g2 := F0 m 8 ls [.null]) rfl ?_
  refine lv_astore_nN (lv' := [(3, .null), (0, .ref h0), (1, .int p0), (2, .int p1)]) hx hb dX11_makes_8 rfl hl (by decide) rfl (fun ls hl => ?_)
  refine lv_aload_nN hx hb dX11_makes_9 rfl (lv_at hl 0 rfl) ?_
  refine lv_ifnonnullN hx hb dX11_makes_10 ?_
  refine lv_iconst (v := (-1)) hx hb dX11_makes_13 (by decide) ?_
  refine W.widen (k := 0) (n := 0) (Nat.le_of_ble_eq_true rfl) (Nat.le_of_ble_eq_true rfl) ?_
  exact W.iret (v := (-1)) hx hb hr (fun t ht hW => ⟨⟨(-1), (), rfl, rfl, trivial⟩, hS.F ht⟩) hS.2.2 dX11_makes_14
def u_c_X11_step : List Cond := .code yX11_step cX11_step 5 (some .int) :: ([.fieldLink RX11 39 "CakePapers" "desk" "LCakePapers$Desk;", .code yX1_get cX1_get 2 (some (.object "CakePapers$Paper")), .fieldLink RX1 24 "CakePapers$Desk" "count" "I", .methodLink RX11 148 yX1_get, .instanceMethod yX1_get, .selects RX1 yX1_get yX1_get, .initialized RX1] ++ wsX110 ++ wsX10)
set_option maxRecDepth 20000 in
theorem g_c_X11_step_c_X1_get_0 : GoodIn u_c_X11_step (wsV RX11 148 RX1 yX1_get u_c_X1_get) := goodIn_of _ (by decide +kernel)
set_option maxHeartbeats 1000000 in
set_option maxRecDepth 100000 in
theorem c_X11_step (l : Launch) (dC : Nat → ClassId) (dI : Nat → Nat → Nat) (sz : Nat) (h0 h1 : Nat) (fs : List Value) (hn_fs : fs.length = 16) (e_fs_5 : fs[5]? = some (.ref h1)) (gs : List Value) (hn_gs : gs.length = 3) (e_gs_2 : gs[2]? = some (.int 0)) (p0 : Int32) (p1 : Int32) (p2 : Int32) : Met l yX11_step u_c_X11_step ({ frames := 1, cells := 0, slots := 0, locals := 21 }) (va_Pc [.ref h0, .int p0, .int p1, .int p2] (fun U => U.heap.size = sz ∧ va_P (dC, dI) vwCl [(h0, .inr (11, fs)), (h1, .inr (1, gs))] U.heap ∧ va_K (dC, dI) vwCl [] U ∧ va_D (fun _ => True) [(h0, .inr (11, fs)), (h1, .inr (1, gs))])) (va_Qi (fun (r : Int32) (_ : Unit) => r = (-1)) (fun _ _ => True) (va_A [(h0, .inr (11, fs)), (h1, .inr (1, gs))] sz)) 0 0 (va_A [(h0, .inr (11, fs)), (h1, .inr (1, gs))] sz) := by
  refine Met.ofW (cc := cX11_step) (maxL := 5) (ret := (some .int)) (by decide) rfl ?_
  intro p e s m args below meth c s₁ B hml hv
  obtain ⟨rfl, hsz, hP, hK, hD0⟩ := hv
  have hx := B.exec
  have hb := B.bytes
  have hr := B.returns
  have hts := atoms_spec (ws := u_c_X11_step) B.pre
  have hown : s.vm.findClass RX11 = some m.cls := findClass_of_methodNamed B.named
  have hlocks := B.notSynchronized
  have hiX11 : ∀ w ∈ wsX110, w ∈ u_c_X11_step := fun w h => List.mem_cons_of_mem _ (List.mem_append_left _ (List.mem_append_right _ h))
  have hiX1 : ∀ w ∈ wsX10, w ∈ u_c_X11_step := fun w h => List.mem_cons_of_mem _ (List.mem_append_right _ h)
  subst hsz
  have hD := hD0.self (sz := s.heap.size)
  generalize hAe : va_A [(h0, .inr (11, fs)), (h1, .inr (1, gs))] s.heap.size = A at hD ⊢
  have hA : ∀ q : Nat, s.heap.size ≤ q → A q := fun q h => by rw [← hAe]; exact Or.inr h
  have hS : va_S A s.heap s.heap [] := va_S.rf
  obtain ⟨H, hH⟩ : ∃ H : Heap, H = s.heap := ⟨_, rfl⟩
  have hP : va_P (dC, dI) vwCl [(h0, .inr (11, fs)), (h1, .inr (1, gs))] H := by rw [hH]; exact hP
  have hS : va_S A s.heap H [] := by rw [hH]; exact hS
  have hl := lv_entry ([.ref h0, .int p0, .int p1, .int p2]) (n := 5) (Nat.le_of_ble_eq_true rfl)
  rw [lg_entry_eq]
  generalize (lg_sl ([.ref h0, .int p0, .int p1, .int p2]) ++ List.replicate (5 - (lg_sl ([.ref h0, .int p0, .int p1, .int p2])).length) Slot.unset).toArray = ls at hl ⊢
  have hl : lv_has ls 5 [(0, .ref h0), (1, .int p0), (2, .int p1), (3, .int p2)] := hl
  suffices h9 : W p l e (headSpec u_c_X11_step _).room s m _ below meth c H [] 0 0 _ (F0 m 0 ls []) by rw [hH] at h9; exact h9
  refine lv_aload_n hx hb dX11_step_0 rfl (lv_at hl 0 rfl) ?_
  refine va_get (D := (dC, dI)) (ci := 11) (v := .ref h1) (C := RX11) (T := TX11) (N := 16) hx hb hts hiX11 hown hK hP 0 rfl rfl 5 (by decide) (hts (.fieldLink RX11 39 "CakePapers" "desk" "LCakePapers$Desk;") (by decide +kernel)) (fun _ h9 => h9) e_fs_5 dX11_step_1 ?_
  refine lv_iload_n hx hb dX11_step_4 rfl (lv_at hl 1 rfl) ?_
  have hPc := hP.sub (ws' := [(h1, .inr (1, gs))]) [1] rfl
  have hDc := hD.sub (ws' := [(h1, .inr (1, gs))]) [1] (by decide) rfl
  have hKc := hK.sub (tys' := []) [] rfl
  have hFc := va_free (wc := [(h1, .inr (1, gs))]) hD hS hA [1] rfl
  refine va_callq (va_runV (As := [.int p0]) (rest := []) ⟨hx, hb, hml, hown, hts⟩ (c_X1_get l dC dI H.size h1 gs hn_gs e_gs_2 p0) (cwV 1 hts g_c_X11_step_c_X1_get_0 rfl rfl rfl (by decide +kernel) ⟨Nat.le_of_ble_eq_true rfl, Nat.le_of_ble_eq_true rfl⟩) ⟨fun a U g mk q => by obtain ⟨q0, q1, qP, qK, qD⟩ := q; exact ⟨q0, q1, qP, va_K.moved (u := U) (U := U.calling g mk a) (Vm.Alike.refl U.vm) qK, qD⟩, va_recv hKc hPc (ci := 1) (q0 := 0) rfl rfl, fun U hU hW => ⟨rfl, by rw [hU], by rw [hU]; exact hPc, va_K.moved hW.alike hKc, hDc.weaken (fun _ _ _ _ => trivial)⟩⟩ rfl rfl hl.1 rfl (lv_room (Nat.le_of_ble_eq_true rfl)) dX11_step_5 ⟨Nat.le_of_ble_eq_true rfl, Nat.le_of_ble_eq_true rfl⟩) hS (fun q _ h => hFc q h) hFc (fun r_1 u t H1 locs ht hvm hw hB hz1 hk1 hS => ?_)
  obtain ⟨hP1, hD1⟩ := hB
  rw [ht] at hP1
  obtain ⟨hP, hD⟩ := va_join (wr := [(h0, .inr (11, fs))]) (w1 := [(h1, .inr (1, gs))]) hP hD [1] [0] rfl rfl (by decide) (by decide) hk1 hFc hP1 hD1
  generalize H1 = H at hP hS ⊢
  have hP : va_P (dC, dI) vwCl [(h0, .inr (11, fs)), (h1, .inr (1, gs))] H := hP
  have hD : va_D A [(h0, .inr (11, fs)), (h1, .inr (1, gs))] := hD
  refine W.widen (k := 0) (n := 0) (Nat.le_of_ble_eq_true rfl) (Nat.le_of_ble_eq_true rfl) ?_
  have e_1 : r_1 = none := hw
  subst e_1
  refine W.eq (g2 := F0 m 8 ls [.null]) rfl ?_
  refine lv_astoreN (lv' := [(4, .null), (0, .ref h0), (1, .int p0), (2, .int p1), (3, .int p2)]) hx hb dX11_step_8 hl (by decide) rfl (fun ls hl => ?_)
  refine lv_aloadN hx hb dX11_step_10 (lv_at hl 0 rfl) ?_
  refine lv_ifnullN (tgt := 24) hx hb dX11_step_12 (by decide) ?_
  refine lv_iconst (v := (-1)) hx hb dX11_step_24 (by decide) ?_
  refine W.widen (k := 0) (n := 0) (Nat.le_of_ble_eq_true rfl) (Nat.le_of_ble_eq_true rfl) ?_
  exact W.iret (v := (-1)) hx hb hr (fun t ht hW => ⟨⟨(-1), (), rfl, rfl, trivial⟩, hS.F ht⟩) hS.2.2 dX11_step_25
def u_c_X11_same : List Cond := .code yX11_same cX11_same 5 (some .int) :: ([.fieldLink RX11 39 "CakePapers" "desk" "LCakePapers$Desk;", .code yX1_get cX1_get 2 (some (.object "CakePapers$Paper")), .fieldLink RX1 24 "CakePapers$Desk" "count" "I", .methodLink RX11 148 yX1_get, .instanceMethod yX1_get, .selects RX1 yX1_get yX1_get, .initialized RX1] ++ wsX110 ++ wsX10)
set_option maxRecDepth 20000 in
theorem g_c_X11_same_c_X1_get_0 : GoodIn u_c_X11_same (wsV RX11 148 RX1 yX1_get u_c_X1_get) := goodIn_of _ (by decide +kernel)
set_option maxHeartbeats 1000000 in
set_option maxRecDepth 100000 in
theorem c_X11_same (l : Launch) (dC : Nat → ClassId) (dI : Nat → Nat → Nat) (sz : Nat) (h0 h1 : Nat) (fs : List Value) (hn_fs : fs.length = 16) (e_fs_5 : fs[5]? = some (.ref h1)) (gs : List Value) (hn_gs : gs.length = 3) (e_gs_2 : gs[2]? = some (.int 0)) (p0 : Int32) (p1 : Int32) : Met l yX11_same u_c_X11_same ({ frames := 1, cells := 0, slots := 0, locals := 21 }) (va_Pc [.ref h0, .int p0, .int p1] (fun U => U.heap.size = sz ∧ va_P (dC, dI) vwCl [(h0, .inr (11, fs)), (h1, .inr (1, gs))] U.heap ∧ va_K (dC, dI) vwCl [] U ∧ va_D (fun _ => True) [(h0, .inr (11, fs)), (h1, .inr (1, gs))])) (va_Qi (fun (r : Int32) (_ : Unit) => r = (-1)) (fun _ _ => True) (va_A [(h0, .inr (11, fs)), (h1, .inr (1, gs))] sz)) 0 0 (va_A [(h0, .inr (11, fs)), (h1, .inr (1, gs))] sz) := by
  refine Met.ofW (cc := cX11_same) (maxL := 5) (ret := (some .int)) (by decide) rfl ?_
  intro p e s m args below meth c s₁ B hml hv
  obtain ⟨rfl, hsz, hP, hK, hD0⟩ := hv
  have hx := B.exec
  have hb := B.bytes
  have hr := B.returns
  have hts := atoms_spec (ws := u_c_X11_same) B.pre
  have hown : s.vm.findClass RX11 = some m.cls := findClass_of_methodNamed B.named
  have hlocks := B.notSynchronized
  have hiX11 : ∀ w ∈ wsX110, w ∈ u_c_X11_same := fun w h => List.mem_cons_of_mem _ (List.mem_append_left _ (List.mem_append_right _ h))
  have hiX1 : ∀ w ∈ wsX10, w ∈ u_c_X11_same := fun w h => List.mem_cons_of_mem _ (List.mem_append_right _ h)
  subst hsz
  have hD := hD0.self (sz := s.heap.size)
  generalize hAe : va_A [(h0, .inr (11, fs)), (h1, .inr (1, gs))] s.heap.size = A at hD ⊢
  have hA : ∀ q : Nat, s.heap.size ≤ q → A q := fun q h => by rw [← hAe]; exact Or.inr h
  have hS : va_S A s.heap s.heap [] := va_S.rf
  obtain ⟨H, hH⟩ : ∃ H : Heap, H = s.heap := ⟨_, rfl⟩
  have hP : va_P (dC, dI) vwCl [(h0, .inr (11, fs)), (h1, .inr (1, gs))] H := by rw [hH]; exact hP
  have hS : va_S A s.heap H [] := by rw [hH]; exact hS
  have hl := lv_entry ([.ref h0, .int p0, .int p1]) (n := 5) (Nat.le_of_ble_eq_true rfl)
  rw [lg_entry_eq]
  generalize (lg_sl ([.ref h0, .int p0, .int p1]) ++ List.replicate (5 - (lg_sl ([.ref h0, .int p0, .int p1])).length) Slot.unset).toArray = ls at hl ⊢
  have hl : lv_has ls 5 [(0, .ref h0), (1, .int p0), (2, .int p1)] := hl
  suffices h9 : W p l e (headSpec u_c_X11_same _).room s m _ below meth c H [] 0 0 _ (F0 m 0 ls []) by rw [hH] at h9; exact h9
  refine lv_aload_n hx hb dX11_same_0 rfl (lv_at hl 0 rfl) ?_
  refine va_get (D := (dC, dI)) (ci := 11) (v := .ref h1) (C := RX11) (T := TX11) (N := 16) hx hb hts hiX11 hown hK hP 0 rfl rfl 5 (by decide) (hts (.fieldLink RX11 39 "CakePapers" "desk" "LCakePapers$Desk;") (by decide +kernel)) (fun _ h9 => h9) e_fs_5 dX11_same_1 ?_
  refine lv_iload_n hx hb dX11_same_4 rfl (lv_at hl 1 rfl) ?_
  have hPc := hP.sub (ws' := [(h1, .inr (1, gs))]) [1] rfl
  have hDc := hD.sub (ws' := [(h1, .inr (1, gs))]) [1] (by decide) rfl
  have hKc := hK.sub (tys' := []) [] rfl
  have hFc := va_free (wc := [(h1, .inr (1, gs))]) hD hS hA [1] rfl
  refine va_callq (va_runV (As := [.int p0]) (rest := []) ⟨hx, hb, hml, hown, hts⟩ (c_X1_get l dC dI H.size h1 gs hn_gs e_gs_2 p0) (cwV 1 hts g_c_X11_same_c_X1_get_0 rfl rfl rfl (by decide +kernel) ⟨Nat.le_of_ble_eq_true rfl, Nat.le_of_ble_eq_true rfl⟩) ⟨fun a U g mk q => by obtain ⟨q0, q1, qP, qK, qD⟩ := q; exact ⟨q0, q1, qP, va_K.moved (u := U) (U := U.calling g mk a) (Vm.Alike.refl U.vm) qK, qD⟩, va_recv hKc hPc (ci := 1) (q0 := 0) rfl rfl, fun U hU hW => ⟨rfl, by rw [hU], by rw [hU]; exact hPc, va_K.moved hW.alike hKc, hDc.weaken (fun _ _ _ _ => trivial)⟩⟩ rfl rfl hl.1 rfl (lv_room (Nat.le_of_ble_eq_true rfl)) dX11_same_5 ⟨Nat.le_of_ble_eq_true rfl, Nat.le_of_ble_eq_true rfl⟩) hS (fun q _ h => hFc q h) hFc (fun r_1 u t H1 locs ht hvm hw hB hz1 hk1 hS => ?_)
  obtain ⟨hP1, hD1⟩ := hB
  rw [ht] at hP1
  obtain ⟨hP, hD⟩ := va_join (wr := [(h0, .inr (11, fs))]) (w1 := [(h1, .inr (1, gs))]) hP hD [1] [0] rfl rfl (by decide) (by decide) hk1 hFc hP1 hD1
  generalize H1 = H at hP hS ⊢
  have hP : va_P (dC, dI) vwCl [(h0, .inr (11, fs)), (h1, .inr (1, gs))] H := hP
  have hD : va_D A [(h0, .inr (11, fs)), (h1, .inr (1, gs))] := hD
  refine W.widen (k := 0) (n := 0) (Nat.le_of_ble_eq_true rfl) (Nat.le_of_ble_eq_true rfl) ?_
  have e_1 : r_1 = none := hw
  subst e_1
  refine W.eq (g2 := F0 m 8 ls [.null]) rfl ?_
  refine lv_astore_nN (lv' := [(3, .null), (0, .ref h0), (1, .int p0), (2, .int p1)]) hx hb dX11_same_8 rfl hl (by decide) rfl (fun ls hl => ?_)
  refine lv_aload_n hx hb dX11_same_9 rfl (lv_at hl 1 rfl) ?_
  refine va_get (D := (dC, dI)) (ci := 11) (v := .ref h1) (C := RX11) (T := TX11) (N := 16) hx hb hts hiX11 hown hK hP 0 rfl rfl 5 (by decide) (hts (.fieldLink RX11 39 "CakePapers" "desk" "LCakePapers$Desk;") (by decide +kernel)) (fun _ h9 => h9) e_fs_5 dX11_same_10 ?_
  refine lv_iload_n hx hb dX11_same_13 rfl (lv_at hl 3 rfl) ?_
  have hPc := hP.sub (ws' := [(h1, .inr (1, gs))]) [1] rfl
  have hDc := hD.sub (ws' := [(h1, .inr (1, gs))]) [1] (by decide) rfl
  have hKc := hK.sub (tys' := []) [] rfl
  have hFc := va_free (wc := [(h1, .inr (1, gs))]) hD hS hA [1] rfl
  refine va_callq (va_runV (As := [.int p1]) (rest := []) ⟨hx, hb, hml, hown, hts⟩ (c_X1_get l dC dI H.size h1 gs hn_gs e_gs_2 p1) (cwV 1 hts g_c_X11_same_c_X1_get_0 rfl rfl rfl (by decide +kernel) ⟨Nat.le_of_ble_eq_true rfl, Nat.le_of_ble_eq_true rfl⟩) ⟨fun a U g mk q => by obtain ⟨q0, q1, qP, qK, qD⟩ := q; exact ⟨q0, q1, qP, va_K.moved (u := U) (U := U.calling g mk a) (Vm.Alike.refl U.vm) qK, qD⟩, va_recv hKc hPc (ci := 1) (q0 := 0) rfl rfl, fun U hU hW => ⟨rfl, by rw [hU], by rw [hU]; exact hPc, va_K.moved hW.alike hKc, hDc.weaken (fun _ _ _ _ => trivial)⟩⟩ rfl rfl hl.1 rfl (lv_room (Nat.le_of_ble_eq_true rfl)) dX11_same_14 ⟨Nat.le_of_ble_eq_true rfl, Nat.le_of_ble_eq_true rfl⟩) hS (fun q _ h => hFc q h) hFc (fun r_2 u t H1 locs ht hvm hw hB hz1 hk1 hS => ?_)
  obtain ⟨hP1, hD1⟩ := hB
  rw [ht] at hP1
  obtain ⟨hP, hD⟩ := va_join (wr := [(h0, .inr (11, fs))]) (w1 := [(h1, .inr (1, gs))]) hP hD [1] [0] rfl rfl (by decide) (by decide) hk1 hFc hP1 hD1
  generalize H1 = H at hP hS ⊢
  have hP : va_P (dC, dI) vwCl [(h0, .inr (11, fs)), (h1, .inr (1, gs))] H := hP
  have hD : va_D A [(h0, .inr (11, fs)), (h1, .inr (1, gs))] := hD
  refine W.widen (k := 0) (n := 0) (Nat.le_of_ble_eq_true rfl) (Nat.le_of_ble_eq_true rfl) ?_
  have e_2 : r_2 = none := hw
  subst e_2
  refine W.eq (g2 := F0 m 17 ls [.null]) rfl ?_
  refine lv_astoreN (lv' := [(4, .null), (3, .null), (0, .ref h0), (1, .int p0), (2, .int p1)]) hx hb dX11_same_17 hl (by decide) rfl (fun ls hl => ?_)
  refine lv_aload_nN hx hb dX11_same_19 rfl (lv_at hl 1 rfl) ?_
  refine lv_ifnullN (tgt := 28) hx hb dX11_same_20 (by decide) ?_
  refine lv_iconst (v := (-1)) hx hb dX11_same_28 (by decide) ?_
  refine W.widen (k := 0) (n := 0) (Nat.le_of_ble_eq_true rfl) (Nat.le_of_ble_eq_true rfl) ?_
  exact W.iret (v := (-1)) hx hb hr (fun t ht hW => ⟨⟨(-1), (), rfl, rfl, trivial⟩, hS.F ht⟩) hS.2.2 dX11_same_29
def u_c_X11_alike : List Cond := .code yX11_alike cX11_alike 6 (some .int) :: ([.fieldLink RX11 39 "CakePapers" "desk" "LCakePapers$Desk;", .code yX1_get cX1_get 2 (some (.object "CakePapers$Paper")), .fieldLink RX1 24 "CakePapers$Desk" "count" "I", .methodLink RX11 148 yX1_get, .instanceMethod yX1_get, .selects RX1 yX1_get yX1_get, .initialized RX1] ++ wsX110 ++ wsX10)
set_option maxRecDepth 20000 in
theorem g_c_X11_alike_c_X1_get_0 : GoodIn u_c_X11_alike (wsV RX11 148 RX1 yX1_get u_c_X1_get) := goodIn_of _ (by decide +kernel)
set_option maxHeartbeats 1000000 in
set_option maxRecDepth 100000 in
theorem c_X11_alike (l : Launch) (dC : Nat → ClassId) (dI : Nat → Nat → Nat) (sz : Nat) (h0 h1 : Nat) (fs : List Value) (hn_fs : fs.length = 16) (e_fs_5 : fs[5]? = some (.ref h1)) (gs : List Value) (hn_gs : gs.length = 3) (e_gs_2 : gs[2]? = some (.int 0)) (p0 : Int32) (p1 : Int32) (p2 : Int32) : Met l yX11_alike u_c_X11_alike ({ frames := 1, cells := 0, slots := 0, locals := 21 }) (va_Pc [.ref h0, .int p0, .int p1, .int p2] (fun U => U.heap.size = sz ∧ va_P (dC, dI) vwCl [(h0, .inr (11, fs)), (h1, .inr (1, gs))] U.heap ∧ va_K (dC, dI) vwCl [] U ∧ va_D (fun _ => True) [(h0, .inr (11, fs)), (h1, .inr (1, gs))])) (va_Qi (fun (r : Int32) (_ : Unit) => r = (-1)) (fun _ _ => True) (va_A [(h0, .inr (11, fs)), (h1, .inr (1, gs))] sz)) 0 0 (va_A [(h0, .inr (11, fs)), (h1, .inr (1, gs))] sz) := by
  refine Met.ofW (cc := cX11_alike) (maxL := 6) (ret := (some .int)) (by decide) rfl ?_
  intro p e s m args below meth c s₁ B hml hv
  obtain ⟨rfl, hsz, hP, hK, hD0⟩ := hv
  have hx := B.exec
  have hb := B.bytes
  have hr := B.returns
  have hts := atoms_spec (ws := u_c_X11_alike) B.pre
  have hown : s.vm.findClass RX11 = some m.cls := findClass_of_methodNamed B.named
  have hlocks := B.notSynchronized
  have hiX11 : ∀ w ∈ wsX110, w ∈ u_c_X11_alike := fun w h => List.mem_cons_of_mem _ (List.mem_append_left _ (List.mem_append_right _ h))
  have hiX1 : ∀ w ∈ wsX10, w ∈ u_c_X11_alike := fun w h => List.mem_cons_of_mem _ (List.mem_append_right _ h)
  subst hsz
  have hD := hD0.self (sz := s.heap.size)
  generalize hAe : va_A [(h0, .inr (11, fs)), (h1, .inr (1, gs))] s.heap.size = A at hD ⊢
  have hA : ∀ q : Nat, s.heap.size ≤ q → A q := fun q h => by rw [← hAe]; exact Or.inr h
  have hS : va_S A s.heap s.heap [] := va_S.rf
  obtain ⟨H, hH⟩ : ∃ H : Heap, H = s.heap := ⟨_, rfl⟩
  have hP : va_P (dC, dI) vwCl [(h0, .inr (11, fs)), (h1, .inr (1, gs))] H := by rw [hH]; exact hP
  have hS : va_S A s.heap H [] := by rw [hH]; exact hS
  have hl := lv_entry ([.ref h0, .int p0, .int p1, .int p2]) (n := 6) (Nat.le_of_ble_eq_true rfl)
  rw [lg_entry_eq]
  generalize (lg_sl ([.ref h0, .int p0, .int p1, .int p2]) ++ List.replicate (6 - (lg_sl ([.ref h0, .int p0, .int p1, .int p2])).length) Slot.unset).toArray = ls at hl ⊢
  have hl : lv_has ls 6 [(0, .ref h0), (1, .int p0), (2, .int p1), (3, .int p2)] := hl
  suffices h9 : W p l e (headSpec u_c_X11_alike _).room s m _ below meth c H [] 0 0 _ (F0 m 0 ls []) by rw [hH] at h9; exact h9
  refine lv_aload_n hx hb dX11_alike_0 rfl (lv_at hl 0 rfl) ?_
  refine va_get (D := (dC, dI)) (ci := 11) (v := .ref h1) (C := RX11) (T := TX11) (N := 16) hx hb hts hiX11 hown hK hP 0 rfl rfl 5 (by decide) (hts (.fieldLink RX11 39 "CakePapers" "desk" "LCakePapers$Desk;") (by decide +kernel)) (fun _ h9 => h9) e_fs_5 dX11_alike_1 ?_
  refine lv_iload_n hx hb dX11_alike_4 rfl (lv_at hl 1 rfl) ?_
  have hPc := hP.sub (ws' := [(h1, .inr (1, gs))]) [1] rfl
  have hDc := hD.sub (ws' := [(h1, .inr (1, gs))]) [1] (by decide) rfl
  have hKc := hK.sub (tys' := []) [] rfl
  have hFc := va_free (wc := [(h1, .inr (1, gs))]) hD hS hA [1] rfl
  refine va_callq (va_runV (As := [.int p0]) (rest := []) ⟨hx, hb, hml, hown, hts⟩ (c_X1_get l dC dI H.size h1 gs hn_gs e_gs_2 p0) (cwV 1 hts g_c_X11_alike_c_X1_get_0 rfl rfl rfl (by decide +kernel) ⟨Nat.le_of_ble_eq_true rfl, Nat.le_of_ble_eq_true rfl⟩) ⟨fun a U g mk q => by obtain ⟨q0, q1, qP, qK, qD⟩ := q; exact ⟨q0, q1, qP, va_K.moved (u := U) (U := U.calling g mk a) (Vm.Alike.refl U.vm) qK, qD⟩, va_recv hKc hPc (ci := 1) (q0 := 0) rfl rfl, fun U hU hW => ⟨rfl, by rw [hU], by rw [hU]; exact hPc, va_K.moved hW.alike hKc, hDc.weaken (fun _ _ _ _ => trivial)⟩⟩ rfl rfl hl.1 rfl (lv_room (Nat.le_of_ble_eq_true rfl)) dX11_alike_5 ⟨Nat.le_of_ble_eq_true rfl, Nat.le_of_ble_eq_true rfl⟩) hS (fun q _ h => hFc q h) hFc (fun r_1 u t H1 locs ht hvm hw hB hz1 hk1 hS => ?_)
  obtain ⟨hP1, hD1⟩ := hB
  rw [ht] at hP1
  obtain ⟨hP, hD⟩ := va_join (wr := [(h0, .inr (11, fs))]) (w1 := [(h1, .inr (1, gs))]) hP hD [1] [0] rfl rfl (by decide) (by decide) hk1 hFc hP1 hD1
  generalize H1 = H at hP hS ⊢
  have hP : va_P (dC, dI) vwCl [(h0, .inr (11, fs)), (h1, .inr (1, gs))] H := hP
  have hD : va_D A [(h0, .inr (11, fs)), (h1, .inr (1, gs))] := hD
  refine W.widen (k := 0) (n := 0) (Nat.le_of_ble_eq_true rfl) (Nat.le_of_ble_eq_true rfl) ?_
  have e_1 : r_1 = none := hw
  subst e_1
  refine W.eq (g2 := F0 m 8 ls [.null]) rfl ?_
  refine lv_astoreN (lv' := [(4, .null), (0, .ref h0), (1, .int p0), (2, .int p1), (3, .int p2)]) hx hb dX11_alike_8 hl (by decide) rfl (fun ls hl => ?_)
  refine lv_aload_n hx hb dX11_alike_10 rfl (lv_at hl 1 rfl) ?_
  refine va_get (D := (dC, dI)) (ci := 11) (v := .ref h1) (C := RX11) (T := TX11) (N := 16) hx hb hts hiX11 hown hK hP 0 rfl rfl 5 (by decide) (hts (.fieldLink RX11 39 "CakePapers" "desk" "LCakePapers$Desk;") (by decide +kernel)) (fun _ h9 => h9) e_fs_5 dX11_alike_11 ?_
  refine lv_iload_n hx hb dX11_alike_14 rfl (lv_at hl 4 rfl) ?_
  have hPc := hP.sub (ws' := [(h1, .inr (1, gs))]) [1] rfl
  have hDc := hD.sub (ws' := [(h1, .inr (1, gs))]) [1] (by decide) rfl
  have hKc := hK.sub (tys' := []) [] rfl
  have hFc := va_free (wc := [(h1, .inr (1, gs))]) hD hS hA [1] rfl
  refine va_callq (va_runV (As := [.int p2]) (rest := []) ⟨hx, hb, hml, hown, hts⟩ (c_X1_get l dC dI H.size h1 gs hn_gs e_gs_2 p2) (cwV 1 hts g_c_X11_alike_c_X1_get_0 rfl rfl rfl (by decide +kernel) ⟨Nat.le_of_ble_eq_true rfl, Nat.le_of_ble_eq_true rfl⟩) ⟨fun a U g mk q => by obtain ⟨q0, q1, qP, qK, qD⟩ := q; exact ⟨q0, q1, qP, va_K.moved (u := U) (U := U.calling g mk a) (Vm.Alike.refl U.vm) qK, qD⟩, va_recv hKc hPc (ci := 1) (q0 := 0) rfl rfl, fun U hU hW => ⟨rfl, by rw [hU], by rw [hU]; exact hPc, va_K.moved hW.alike hKc, hDc.weaken (fun _ _ _ _ => trivial)⟩⟩ rfl rfl hl.1 rfl (lv_room (Nat.le_of_ble_eq_true rfl)) dX11_alike_15 ⟨Nat.le_of_ble_eq_true rfl, Nat.le_of_ble_eq_true rfl⟩) hS (fun q _ h => hFc q h) hFc (fun r_2 u t H1 locs ht hvm hw hB hz1 hk1 hS => ?_)
  obtain ⟨hP1, hD1⟩ := hB
  rw [ht] at hP1
  obtain ⟨hP, hD⟩ := va_join (wr := [(h0, .inr (11, fs))]) (w1 := [(h1, .inr (1, gs))]) hP hD [1] [0] rfl rfl (by decide) (by decide) hk1 hFc hP1 hD1
  generalize H1 = H at hP hS ⊢
  have hP : va_P (dC, dI) vwCl [(h0, .inr (11, fs)), (h1, .inr (1, gs))] H := hP
  have hD : va_D A [(h0, .inr (11, fs)), (h1, .inr (1, gs))] := hD
  refine W.widen (k := 0) (n := 0) (Nat.le_of_ble_eq_true rfl) (Nat.le_of_ble_eq_true rfl) ?_
  have e_2 : r_2 = none := hw
  subst e_2
  refine W.eq (g2 := F0 m 18 ls [.null]) rfl ?_
  refine lv_astoreN (lv' := [(5, .null), (4, .null), (0, .ref h0), (1, .int p0), (2, .int p1), (3, .int p2)]) hx hb dX11_alike_18 hl (by decide) rfl (fun ls hl => ?_)
  refine lv_aloadN hx hb dX11_alike_20 (lv_at hl 1 rfl) ?_
  refine lv_ifnullN (tgt := 39) hx hb dX11_alike_22 (by decide) ?_
  refine lv_iconst (v := (-1)) hx hb dX11_alike_39 (by decide) ?_
  refine W.widen (k := 0) (n := 0) (Nat.le_of_ble_eq_true rfl) (Nat.le_of_ble_eq_true rfl) ?_
  exact W.iret (v := (-1)) hx hb hr (fun t ht hW => ⟨⟨(-1), (), rfl, rfl, trivial⟩, hS.F ht⟩) hS.2.2 dX11_alike_40
def u_c_X11_least : List Cond := .code yX11_least cX11_least 5 (some .int) :: ([.fieldLink RX11 39 "CakePapers" "desk" "LCakePapers$Desk;", .code yX1_get cX1_get 2 (some (.object "CakePapers$Paper")), .fieldLink RX1 24 "CakePapers$Desk" "count" "I", .methodLink RX11 148 yX1_get, .instanceMethod yX1_get, .selects RX1 yX1_get yX1_get, .initialized RX1] ++ wsX110 ++ wsX10)
set_option maxRecDepth 20000 in
theorem g_c_X11_least_c_X1_get_0 : GoodIn u_c_X11_least (wsV RX11 148 RX1 yX1_get u_c_X1_get) := goodIn_of _ (by decide +kernel)
set_option maxHeartbeats 1000000 in
set_option maxRecDepth 100000 in
theorem c_X11_least (l : Launch) (dC : Nat → ClassId) (dI : Nat → Nat → Nat) (sz : Nat) (h0 h1 : Nat) (fs : List Value) (hn_fs : fs.length = 16) (e_fs_5 : fs[5]? = some (.ref h1)) (gs : List Value) (hn_gs : gs.length = 3) (e_gs_2 : gs[2]? = some (.int 0)) (p0 : Int32) (p1 : Int32) : Met l yX11_least u_c_X11_least ({ frames := 1, cells := 0, slots := 0, locals := 21 }) (va_Pc [.ref h0, .int p0, .int p1] (fun U => U.heap.size = sz ∧ va_P (dC, dI) vwCl [(h0, .inr (11, fs)), (h1, .inr (1, gs))] U.heap ∧ va_K (dC, dI) vwCl [] U ∧ va_D (fun _ => True) [(h0, .inr (11, fs)), (h1, .inr (1, gs))])) (va_Qi (fun (r : Int32) (_ : Unit) => r = (-1)) (fun _ _ => True) (va_A [(h0, .inr (11, fs)), (h1, .inr (1, gs))] sz)) 0 0 (va_A [(h0, .inr (11, fs)), (h1, .inr (1, gs))] sz) := by
  refine Met.ofW (cc := cX11_least) (maxL := 5) (ret := (some .int)) (by decide) rfl ?_
  intro p e s m args below meth c s₁ B hml hv
  obtain ⟨rfl, hsz, hP, hK, hD0⟩ := hv
  have hx := B.exec
  have hb := B.bytes
  have hr := B.returns
  have hts := atoms_spec (ws := u_c_X11_least) B.pre
  have hown : s.vm.findClass RX11 = some m.cls := findClass_of_methodNamed B.named
  have hlocks := B.notSynchronized
  have hiX11 : ∀ w ∈ wsX110, w ∈ u_c_X11_least := fun w h => List.mem_cons_of_mem _ (List.mem_append_left _ (List.mem_append_right _ h))
  have hiX1 : ∀ w ∈ wsX10, w ∈ u_c_X11_least := fun w h => List.mem_cons_of_mem _ (List.mem_append_right _ h)
  subst hsz
  have hD := hD0.self (sz := s.heap.size)
  generalize hAe : va_A [(h0, .inr (11, fs)), (h1, .inr (1, gs))] s.heap.size = A at hD ⊢
  have hA : ∀ q : Nat, s.heap.size ≤ q → A q := fun q h => by rw [← hAe]; exact Or.inr h
  have hS : va_S A s.heap s.heap [] := va_S.rf
  obtain ⟨H, hH⟩ : ∃ H : Heap, H = s.heap := ⟨_, rfl⟩
  have hP : va_P (dC, dI) vwCl [(h0, .inr (11, fs)), (h1, .inr (1, gs))] H := by rw [hH]; exact hP
  have hS : va_S A s.heap H [] := by rw [hH]; exact hS
  have hl := lv_entry ([.ref h0, .int p0, .int p1]) (n := 5) (Nat.le_of_ble_eq_true rfl)
  rw [lg_entry_eq]
  generalize (lg_sl ([.ref h0, .int p0, .int p1]) ++ List.replicate (5 - (lg_sl ([.ref h0, .int p0, .int p1])).length) Slot.unset).toArray = ls at hl ⊢
  have hl : lv_has ls 5 [(0, .ref h0), (1, .int p0), (2, .int p1)] := hl
  suffices h9 : W p l e (headSpec u_c_X11_least _).room s m _ below meth c H [] 0 0 _ (F0 m 0 ls []) by rw [hH] at h9; exact h9
  refine lv_aload_n hx hb dX11_least_0 rfl (lv_at hl 0 rfl) ?_
  refine va_get (D := (dC, dI)) (ci := 11) (v := .ref h1) (C := RX11) (T := TX11) (N := 16) hx hb hts hiX11 hown hK hP 0 rfl rfl 5 (by decide) (hts (.fieldLink RX11 39 "CakePapers" "desk" "LCakePapers$Desk;") (by decide +kernel)) (fun _ h9 => h9) e_fs_5 dX11_least_1 ?_
  refine lv_iload_n hx hb dX11_least_4 rfl (lv_at hl 1 rfl) ?_
  have hPc := hP.sub (ws' := [(h1, .inr (1, gs))]) [1] rfl
  have hDc := hD.sub (ws' := [(h1, .inr (1, gs))]) [1] (by decide) rfl
  have hKc := hK.sub (tys' := []) [] rfl
  have hFc := va_free (wc := [(h1, .inr (1, gs))]) hD hS hA [1] rfl
  refine va_callq (va_runV (As := [.int p0]) (rest := []) ⟨hx, hb, hml, hown, hts⟩ (c_X1_get l dC dI H.size h1 gs hn_gs e_gs_2 p0) (cwV 1 hts g_c_X11_least_c_X1_get_0 rfl rfl rfl (by decide +kernel) ⟨Nat.le_of_ble_eq_true rfl, Nat.le_of_ble_eq_true rfl⟩) ⟨fun a U g mk q => by obtain ⟨q0, q1, qP, qK, qD⟩ := q; exact ⟨q0, q1, qP, va_K.moved (u := U) (U := U.calling g mk a) (Vm.Alike.refl U.vm) qK, qD⟩, va_recv hKc hPc (ci := 1) (q0 := 0) rfl rfl, fun U hU hW => ⟨rfl, by rw [hU], by rw [hU]; exact hPc, va_K.moved hW.alike hKc, hDc.weaken (fun _ _ _ _ => trivial)⟩⟩ rfl rfl hl.1 rfl (lv_room (Nat.le_of_ble_eq_true rfl)) dX11_least_5 ⟨Nat.le_of_ble_eq_true rfl, Nat.le_of_ble_eq_true rfl⟩) hS (fun q _ h => hFc q h) hFc (fun r_1 u t H1 locs ht hvm hw hB hz1 hk1 hS => ?_)
  obtain ⟨hP1, hD1⟩ := hB
  rw [ht] at hP1
  obtain ⟨hP, hD⟩ := va_join (wr := [(h0, .inr (11, fs))]) (w1 := [(h1, .inr (1, gs))]) hP hD [1] [0] rfl rfl (by decide) (by decide) hk1 hFc hP1 hD1
  generalize H1 = H at hP hS ⊢
  have hP : va_P (dC, dI) vwCl [(h0, .inr (11, fs)), (h1, .inr (1, gs))] H := hP
  have hD : va_D A [(h0, .inr (11, fs)), (h1, .inr (1, gs))] := hD
  refine W.widen (k := 0) (n := 0) (Nat.le_of_ble_eq_true rfl) (Nat.le_of_ble_eq_true rfl) ?_
  have e_1 : r_1 = none := hw
  subst e_1
  refine W.eq (g2 := F0 m 8 ls [.null]) rfl ?_
  refine lv_astore_nN (lv' := [(3, .null), (0, .ref h0), (1, .int p0), (2, .int p1)]) hx hb dX11_least_8 rfl hl (by decide) rfl (fun ls hl => ?_)
  refine lv_aload_n hx hb dX11_least_9 rfl (lv_at hl 1 rfl) ?_
  refine va_get (D := (dC, dI)) (ci := 11) (v := .ref h1) (C := RX11) (T := TX11) (N := 16) hx hb hts hiX11 hown hK hP 0 rfl rfl 5 (by decide) (hts (.fieldLink RX11 39 "CakePapers" "desk" "LCakePapers$Desk;") (by decide +kernel)) (fun _ h9 => h9) e_fs_5 dX11_least_10 ?_
  refine lv_iload_n hx hb dX11_least_13 rfl (lv_at hl 3 rfl) ?_
  have hPc := hP.sub (ws' := [(h1, .inr (1, gs))]) [1] rfl
  have hDc := hD.sub (ws' := [(h1, .inr (1, gs))]) [1] (by decide) rfl
  have hKc := hK.sub (tys' := []) [] rfl
  have hFc := va_free (wc := [(h1, .inr (1, gs))]) hD hS hA [1] rfl
  refine va_callq (va_runV (As := [.int p1]) (rest := []) ⟨hx, hb, hml, hown, hts⟩ (c_X1_get l dC dI H.size h1 gs hn_gs e_gs_2 p1) (cwV 1 hts g_c_X11_least_c_X1_get_0 rfl rfl rfl (by decide +kernel) ⟨Nat.le_of_ble_eq_true rfl, Nat.le_of_ble_eq_true rfl⟩) ⟨fun a U g mk q => by obtain ⟨q0, q1, qP, qK, qD⟩ := q; exact ⟨q0, q1, qP, va_K.moved (u := U) (U := U.calling g mk a) (Vm.Alike.refl U.vm) qK, qD⟩, va_recv hKc hPc (ci := 1) (q0 := 0) rfl rfl, fun U hU hW => ⟨rfl, by rw [hU], by rw [hU]; exact hPc, va_K.moved hW.alike hKc, hDc.weaken (fun _ _ _ _ => trivial)⟩⟩ rfl rfl hl.1 rfl (lv_room (Nat.le_of_ble_eq_true rfl)) dX11_least_14 ⟨Nat.le_of_ble_eq_true rfl, Nat.le_of_ble_eq_true rfl⟩) hS (fun q _ h => hFc q h) hFc (fun r_2 u t H1 locs ht hvm hw hB hz1 hk1 hS => ?_)
  obtain ⟨hP1, hD1⟩ := hB
  rw [ht] at hP1
  obtain ⟨hP, hD⟩ := va_join (wr := [(h0, .inr (11, fs))]) (w1 := [(h1, .inr (1, gs))]) hP hD [1] [0] rfl rfl (by decide) (by decide) hk1 hFc hP1 hD1
  generalize H1 = H at hP hS ⊢
  have hP : va_P (dC, dI) vwCl [(h0, .inr (11, fs)), (h1, .inr (1, gs))] H := hP
  have hD : va_D A [(h0, .inr (11, fs)), (h1, .inr (1, gs))] := hD
  refine W.widen (k := 0) (n := 0) (Nat.le_of_ble_eq_true rfl) (Nat.le_of_ble_eq_true rfl) ?_
  have e_2 : r_2 = none := hw
  subst e_2
  refine W.eq (g2 := F0 m 17 ls [.null]) rfl ?_
  refine lv_astoreN (lv' := [(4, .null), (3, .null), (0, .ref h0), (1, .int p0), (2, .int p1)]) hx hb dX11_least_17 hl (by decide) rfl (fun ls hl => ?_)
  refine lv_aload_nN hx hb dX11_least_19 rfl (lv_at hl 1 rfl) ?_
  refine lv_ifnullN (tgt := 28) hx hb dX11_least_20 (by decide) ?_
  refine lv_iconst (v := (-1)) hx hb dX11_least_28 (by decide) ?_
  refine W.widen (k := 0) (n := 0) (Nat.le_of_ble_eq_true rfl) (Nat.le_of_ble_eq_true rfl) ?_
  exact W.iret (v := (-1)) hx hb hr (fun t ht hW => ⟨⟨(-1), (), rfl, rfl, trivial⟩, hS.F ht⟩) hS.2.2 dX11_least_29
def u_c_X11_join : List Cond := .code yX11_join cX11_join 7 (some .int) :: ([.fieldLink RX11 39 "CakePapers" "desk" "LCakePapers$Desk;", .code yX1_get cX1_get 2 (some (.object "CakePapers$Paper")), .fieldLink RX1 24 "CakePapers$Desk" "count" "I", .methodLink RX11 148 yX1_get, .instanceMethod yX1_get, .selects RX1 yX1_get yX1_get, .initialized RX1] ++ wsX110 ++ wsX10)
set_option maxRecDepth 20000 in
theorem g_c_X11_join_c_X1_get_0 : GoodIn u_c_X11_join (wsV RX11 148 RX1 yX1_get u_c_X1_get) := goodIn_of _ (by decide +kernel)
set_option maxHeartbeats 1000000 in
set_option maxRecDepth 100000 in
theorem c_X11_join (l : Launch) (dC : Nat → ClassId) (dI : Nat → Nat → Nat) (sz : Nat) (h0 h1 : Nat) (fs : List Value) (hn_fs : fs.length = 16) (e_fs_5 : fs[5]? = some (.ref h1)) (gs : List Value) (hn_gs : gs.length = 3) (e_gs_2 : gs[2]? = some (.int 0)) (p0 : Int32) (p1 : Int32) (p2 : Int32) : Met l yX11_join u_c_X11_join ({ frames := 1, cells := 0, slots := 0, locals := 21 }) (va_Pc [.ref h0, .int p0, .int p1, .int p2] (fun U => U.heap.size = sz ∧ va_P (dC, dI) vwCl [(h0, .inr (11, fs)), (h1, .inr (1, gs))] U.heap ∧ va_K (dC, dI) vwCl [] U ∧ va_D (fun _ => True) [(h0, .inr (11, fs)), (h1, .inr (1, gs))])) (va_Qi (fun (r : Int32) (_ : Unit) => r = (-1)) (fun _ _ => True) (va_A [(h0, .inr (11, fs)), (h1, .inr (1, gs))] sz)) 0 0 (va_A [(h0, .inr (11, fs)), (h1, .inr (1, gs))] sz) := by
  refine Met.ofW (cc := cX11_join) (maxL := 7) (ret := (some .int)) (by decide) rfl ?_
  intro p e s m args below meth c s₁ B hml hv
  obtain ⟨rfl, hsz, hP, hK, hD0⟩ := hv
  have hx := B.exec
  have hb := B.bytes
  have hr := B.returns
  have hts := atoms_spec (ws := u_c_X11_join) B.pre
  have hown : s.vm.findClass RX11 = some m.cls := findClass_of_methodNamed B.named
  have hlocks := B.notSynchronized
  have hiX11 : ∀ w ∈ wsX110, w ∈ u_c_X11_join := fun w h => List.mem_cons_of_mem _ (List.mem_append_left _ (List.mem_append_right _ h))
  have hiX1 : ∀ w ∈ wsX10, w ∈ u_c_X11_join := fun w h => List.mem_cons_of_mem _ (List.mem_append_right _ h)
  subst hsz
  have hD := hD0.self (sz := s.heap.size)
  generalize hAe : va_A [(h0, .inr (11, fs)), (h1, .inr (1, gs))] s.heap.size = A at hD ⊢
  have hA : ∀ q : Nat, s.heap.size ≤ q → A q := fun q h => by rw [← hAe]; exact Or.inr h
  have hS : va_S A s.heap s.heap [] := va_S.rf
  obtain ⟨H, hH⟩ : ∃ H : Heap, H = s.heap := ⟨_, rfl⟩
  have hP : va_P (dC, dI) vwCl [(h0, .inr (11, fs)), (h1, .inr (1, gs))] H := by rw [hH]; exact hP
  have hS : va_S A s.heap H [] := by rw [hH]; exact hS
  have hl := lv_entry ([.ref h0, .int p0, .int p1, .int p2]) (n := 7) (Nat.le_of_ble_eq_true rfl)
  rw [lg_entry_eq]
  generalize (lg_sl ([.ref h0, .int p0, .int p1, .int p2]) ++ List.replicate (7 - (lg_sl ([.ref h0, .int p0, .int p1, .int p2])).length) Slot.unset).toArray = ls at hl ⊢
  have hl : lv_has ls 7 [(0, .ref h0), (1, .int p0), (2, .int p1), (3, .int p2)] := hl
  suffices h9 : W p l e (headSpec u_c_X11_join _).room s m _ below meth c H [] 0 0 _ (F0 m 0 ls []) by rw [hH] at h9; exact h9
  refine lv_aload_n hx hb dX11_join_0 rfl (lv_at hl 0 rfl) ?_
  refine va_get (D := (dC, dI)) (ci := 11) (v := .ref h1) (C := RX11) (T := TX11) (N := 16) hx hb hts hiX11 hown hK hP 0 rfl rfl 5 (by decide) (hts (.fieldLink RX11 39 "CakePapers" "desk" "LCakePapers$Desk;") (by decide +kernel)) (fun _ h9 => h9) e_fs_5 dX11_join_1 ?_
  refine lv_iload_n hx hb dX11_join_4 rfl (lv_at hl 1 rfl) ?_
  have hPc := hP.sub (ws' := [(h1, .inr (1, gs))]) [1] rfl
  have hDc := hD.sub (ws' := [(h1, .inr (1, gs))]) [1] (by decide) rfl
  have hKc := hK.sub (tys' := []) [] rfl
  have hFc := va_free (wc := [(h1, .inr (1, gs))]) hD hS hA [1] rfl
  refine va_callq (va_runV (As := [.int p0]) (rest := []) ⟨hx, hb, hml, hown, hts⟩ (c_X1_get l dC dI H.size h1 gs hn_gs e_gs_2 p0) (cwV 1 hts g_c_X11_join_c_X1_get_0 rfl rfl rfl (by decide +kernel) ⟨Nat.le_of_ble_eq_true rfl, Nat.le_of_ble_eq_true rfl⟩) ⟨fun a U g mk q => by obtain ⟨q0, q1, qP, qK, qD⟩ := q; exact ⟨q0, q1, qP, va_K.moved (u := U) (U := U.calling g mk a) (Vm.Alike.refl U.vm) qK, qD⟩, va_recv hKc hPc (ci := 1) (q0 := 0) rfl rfl, fun U hU hW => ⟨rfl, by rw [hU], by rw [hU]; exact hPc, va_K.moved hW.alike hKc, hDc.weaken (fun _ _ _ _ => trivial)⟩⟩ rfl rfl hl.1 rfl (lv_room (Nat.le_of_ble_eq_true rfl)) dX11_join_5 ⟨Nat.le_of_ble_eq_true rfl, Nat.le_of_ble_eq_true rfl⟩) hS (fun q _ h => hFc q h) hFc (fun r_1 u t H1 locs ht hvm hw hB hz1 hk1 hS => ?_)
  obtain ⟨hP1, hD1⟩ := hB
  rw [ht] at hP1
  obtain ⟨hP, hD⟩ := va_join (wr := [(h0, .inr (11, fs))]) (w1 := [(h1, .inr (1, gs))]) hP hD [1] [0] rfl rfl (by decide) (by decide) hk1 hFc hP1 hD1
  generalize H1 = H at hP hS ⊢
  have hP : va_P (dC, dI) vwCl [(h0, .inr (11, fs)), (h1, .inr (1, gs))] H := hP
  have hD : va_D A [(h0, .inr (11, fs)), (h1, .inr (1, gs))] := hD
  refine W.widen (k := 0) (n := 0) (Nat.le_of_ble_eq_true rfl) (Nat.le_of_ble_eq_true rfl) ?_
  have e_1 : r_1 = none := hw
  subst e_1
  refine W.eq (g2 := F0 m 8 ls [.null]) rfl ?_
  refine lv_astoreN (lv' := [(4, .null), (0, .ref h0), (1, .int p0), (2, .int p1), (3, .int p2)]) hx hb dX11_join_8 hl (by decide) rfl (fun ls hl => ?_)
  refine lv_aload_n hx hb dX11_join_10 rfl (lv_at hl 1 rfl) ?_
  refine va_get (D := (dC, dI)) (ci := 11) (v := .ref h1) (C := RX11) (T := TX11) (N := 16) hx hb hts hiX11 hown hK hP 0 rfl rfl 5 (by decide) (hts (.fieldLink RX11 39 "CakePapers" "desk" "LCakePapers$Desk;") (by decide +kernel)) (fun _ h9 => h9) e_fs_5 dX11_join_11 ?_
  refine lv_iload_n hx hb dX11_join_14 rfl (lv_at hl 3 rfl) ?_
  have hPc := hP.sub (ws' := [(h1, .inr (1, gs))]) [1] rfl
  have hDc := hD.sub (ws' := [(h1, .inr (1, gs))]) [1] (by decide) rfl
  have hKc := hK.sub (tys' := []) [] rfl
  have hFc := va_free (wc := [(h1, .inr (1, gs))]) hD hS hA [1] rfl
  refine va_callq (va_runV (As := [.int p1]) (rest := []) ⟨hx, hb, hml, hown, hts⟩ (c_X1_get l dC dI H.size h1 gs hn_gs e_gs_2 p1) (cwV 1 hts g_c_X11_join_c_X1_get_0 rfl rfl rfl (by decide +kernel) ⟨Nat.le_of_ble_eq_true rfl, Nat.le_of_ble_eq_true rfl⟩) ⟨fun a U g mk q => by obtain ⟨q0, q1, qP, qK, qD⟩ := q; exact ⟨q0, q1, qP, va_K.moved (u := U) (U := U.calling g mk a) (Vm.Alike.refl U.vm) qK, qD⟩, va_recv hKc hPc (ci := 1) (q0 := 0) rfl rfl, fun U hU hW => ⟨rfl, by rw [hU], by rw [hU]; exact hPc, va_K.moved hW.alike hKc, hDc.weaken (fun _ _ _ _ => trivial)⟩⟩ rfl rfl hl.1 rfl (lv_room (Nat.le_of_ble_eq_true rfl)) dX11_join_15 ⟨Nat.le_of_ble_eq_true rfl, Nat.le_of_ble_eq_true rfl⟩) hS (fun q _ h => hFc q h) hFc (fun r_2 u t H1 locs ht hvm hw hB hz1 hk1 hS => ?_)
  obtain ⟨hP1, hD1⟩ := hB
  rw [ht] at hP1
  obtain ⟨hP, hD⟩ := va_join (wr := [(h0, .inr (11, fs))]) (w1 := [(h1, .inr (1, gs))]) hP hD [1] [0] rfl rfl (by decide) (by decide) hk1 hFc hP1 hD1
  generalize H1 = H at hP hS ⊢
  have hP : va_P (dC, dI) vwCl [(h0, .inr (11, fs)), (h1, .inr (1, gs))] H := hP
  have hD : va_D A [(h0, .inr (11, fs)), (h1, .inr (1, gs))] := hD
  refine W.widen (k := 0) (n := 0) (Nat.le_of_ble_eq_true rfl) (Nat.le_of_ble_eq_true rfl) ?_
  have e_2 : r_2 = none := hw
  subst e_2
  refine W.eq (g2 := F0 m 18 ls [.null]) rfl ?_
  refine lv_astoreN (lv' := [(5, .null), (4, .null), (0, .ref h0), (1, .int p0), (2, .int p1), (3, .int p2)]) hx hb dX11_join_18 hl (by decide) rfl (fun ls hl => ?_)
  refine lv_aload_n hx hb dX11_join_20 rfl (lv_at hl 2 rfl) ?_
  refine va_get (D := (dC, dI)) (ci := 11) (v := .ref h1) (C := RX11) (T := TX11) (N := 16) hx hb hts hiX11 hown hK hP 0 rfl rfl 5 (by decide) (hts (.fieldLink RX11 39 "CakePapers" "desk" "LCakePapers$Desk;") (by decide +kernel)) (fun _ h9 => h9) e_fs_5 dX11_join_21 ?_
  refine lv_iload_n hx hb dX11_join_24 rfl (lv_at hl 5 rfl) ?_
  have hPc := hP.sub (ws' := [(h1, .inr (1, gs))]) [1] rfl
  have hDc := hD.sub (ws' := [(h1, .inr (1, gs))]) [1] (by decide) rfl
  have hKc := hK.sub (tys' := []) [] rfl
  have hFc := va_free (wc := [(h1, .inr (1, gs))]) hD hS hA [1] rfl
  refine va_callq (va_runV (As := [.int p2]) (rest := []) ⟨hx, hb, hml, hown, hts⟩ (c_X1_get l dC dI H.size h1 gs hn_gs e_gs_2 p2) (cwV 1 hts g_c_X11_join_c_X1_get_0 rfl rfl rfl (by decide +kernel) ⟨Nat.le_of_ble_eq_true rfl, Nat.le_of_ble_eq_true rfl⟩) ⟨fun a U g mk q => by obtain ⟨q0, q1, qP, qK, qD⟩ := q; exact ⟨q0, q1, qP, va_K.moved (u := U) (U := U.calling g mk a) (Vm.Alike.refl U.vm) qK, qD⟩, va_recv hKc hPc (ci := 1) (q0 := 0) rfl rfl, fun U hU hW => ⟨rfl, by rw [hU], by rw [hU]; exact hPc, va_K.moved hW.alike hKc, hDc.weaken (fun _ _ _ _ => trivial)⟩⟩ rfl rfl hl.1 rfl (lv_room (Nat.le_of_ble_eq_true rfl)) dX11_join_25 ⟨Nat.le_of_ble_eq_true rfl, Nat.le_of_ble_eq_true rfl⟩) hS (fun q _ h => hFc q h) hFc (fun r_3 u t H1 locs ht hvm hw hB hz1 hk1 hS => ?_)
  obtain ⟨hP1, hD1⟩ := hB
  rw [ht] at hP1
  obtain ⟨hP, hD⟩ := va_join (wr := [(h0, .inr (11, fs))]) (w1 := [(h1, .inr (1, gs))]) hP hD [1] [0] rfl rfl (by decide) (by decide) hk1 hFc hP1 hD1
  generalize H1 = H at hP hS ⊢
  have hP : va_P (dC, dI) vwCl [(h0, .inr (11, fs)), (h1, .inr (1, gs))] H := hP
  have hD : va_D A [(h0, .inr (11, fs)), (h1, .inr (1, gs))] := hD
  refine W.widen (k := 0) (n := 0) (Nat.le_of_ble_eq_true rfl) (Nat.le_of_ble_eq_true rfl) ?_
  have e_3 : r_3 = none := hw
  subst e_3
  refine W.eq (g2 := F0 m 28 ls [.null]) rfl ?_
  refine lv_astoreN (lv' := [(6, .null), (5, .null), (4, .null), (0, .ref h0), (1, .int p0), (2, .int p1), (3, .int p2)]) hx hb dX11_join_28 hl (by decide) rfl (fun ls hl => ?_)
  refine lv_aloadN hx hb dX11_join_30 (lv_at hl 2 rfl) ?_
  refine lv_ifnullN (tgt := 45) hx hb dX11_join_32 (by decide) ?_
  refine lv_iconst (v := (-1)) hx hb dX11_join_45 (by decide) ?_
  refine W.widen (k := 0) (n := 0) (Nat.le_of_ble_eq_true rfl) (Nat.le_of_ble_eq_true rfl) ?_
  exact W.iret (v := (-1)) hx hb hr (fun t ht hW => ⟨⟨(-1), (), rfl, rfl, trivial⟩, hS.F ht⟩) hS.2.2 dX11_join_46
def u_c_X11_law : List Cond := .code yX11_law cX11_law 10 (some .int) :: ([.fieldLink RX11 39 "CakePapers" "desk" "LCakePapers$Desk;", .code yX1_get cX1_get 2 (some (.object "CakePapers$Paper")), .fieldLink RX1 24 "CakePapers$Desk" "count" "I", .methodLink RX11 148 yX1_get, .instanceMethod yX1_get, .selects RX1 yX1_get yX1_get, .initialized RX1] ++ wsX110 ++ wsX10)
set_option maxRecDepth 20000 in
theorem g_c_X11_law_c_X1_get_0 : GoodIn u_c_X11_law (wsV RX11 148 RX1 yX1_get u_c_X1_get) := goodIn_of _ (by decide +kernel)
set_option maxHeartbeats 1000000 in
set_option maxRecDepth 100000 in
theorem c_X11_law (l : Launch) (dC : Nat → ClassId) (dI : Nat → Nat → Nat) (sz : Nat) (h0 h1 : Nat) (fs : List Value) (hn_fs : fs.length = 16) (e_fs_5 : fs[5]? = some (.ref h1)) (gs : List Value) (hn_gs : gs.length = 3) (e_gs_2 : gs[2]? = some (.int 0)) (p0 : Int32) (p1 : Int32) (p2 : Int32) (p3 : Int32) (p4 : Int32) : Met l yX11_law u_c_X11_law ({ frames := 1, cells := 0, slots := 0, locals := 21 }) (va_Pc [.ref h0, .int p0, .int p1, .int p2, .int p3, .int p4] (fun U => U.heap.size = sz ∧ va_P (dC, dI) vwCl [(h0, .inr (11, fs)), (h1, .inr (1, gs))] U.heap ∧ va_K (dC, dI) vwCl [] U ∧ va_D (fun _ => True) [(h0, .inr (11, fs)), (h1, .inr (1, gs))])) (va_Qi (fun (r : Int32) (_ : Unit) => r = (-1)) (fun _ _ => True) (va_A [(h0, .inr (11, fs)), (h1, .inr (1, gs))] sz)) 0 0 (va_A [(h0, .inr (11, fs)), (h1, .inr (1, gs))] sz) := by
  refine Met.ofW (cc := cX11_law) (maxL := 10) (ret := (some .int)) (by decide) rfl ?_
  intro p e s m args below meth c s₁ B hml hv
  obtain ⟨rfl, hsz, hP, hK, hD0⟩ := hv
  have hx := B.exec
  have hb := B.bytes
  have hr := B.returns
  have hts := atoms_spec (ws := u_c_X11_law) B.pre
  have hown : s.vm.findClass RX11 = some m.cls := findClass_of_methodNamed B.named
  have hlocks := B.notSynchronized
  have hiX11 : ∀ w ∈ wsX110, w ∈ u_c_X11_law := fun w h => List.mem_cons_of_mem _ (List.mem_append_left _ (List.mem_append_right _ h))
  have hiX1 : ∀ w ∈ wsX10, w ∈ u_c_X11_law := fun w h => List.mem_cons_of_mem _ (List.mem_append_right _ h)
  subst hsz
  have hD := hD0.self (sz := s.heap.size)
  generalize hAe : va_A [(h0, .inr (11, fs)), (h1, .inr (1, gs))] s.heap.size = A at hD ⊢
  have hA : ∀ q : Nat, s.heap.size ≤ q → A q := fun q h => by rw [← hAe]; exact Or.inr h
  have hS : va_S A s.heap s.heap [] := va_S.rf
  obtain ⟨H, hH⟩ : ∃ H : Heap, H = s.heap := ⟨_, rfl⟩
  have hP : va_P (dC, dI) vwCl [(h0, .inr (11, fs)), (h1, .inr (1, gs))] H := by rw [hH]; exact hP
  have hS : va_S A s.heap H [] := by rw [hH]; exact hS
  have hl := lv_entry ([.ref h0, .int p0, .int p1, .int p2, .int p3, .int p4]) (n := 10) (Nat.le_of_ble_eq_true rfl)
  rw [lg_entry_eq]
  generalize (lg_sl ([.ref h0, .int p0, .int p1, .int p2, .int p3, .int p4]) ++ List.replicate (10 - (lg_sl ([.ref h0, .int p0, .int p1, .int p2, .int p3, .int p4])).length) Slot.unset).toArray = ls at hl ⊢
  have hl : lv_has ls 10 [(0, .ref h0), (1, .int p0), (2, .int p1), (3, .int p2), (4, .int p3), (5, .int p4)] := hl
  suffices h9 : W p l e (headSpec u_c_X11_law _).room s m _ below meth c H [] 0 0 _ (F0 m 0 ls []) by rw [hH] at h9; exact h9
  refine lv_aload_n hx hb dX11_law_0 rfl (lv_at hl 0 rfl) ?_
  refine va_get (D := (dC, dI)) (ci := 11) (v := .ref h1) (C := RX11) (T := TX11) (N := 16) hx hb hts hiX11 hown hK hP 0 rfl rfl 5 (by decide) (hts (.fieldLink RX11 39 "CakePapers" "desk" "LCakePapers$Desk;") (by decide +kernel)) (fun _ h9 => h9) e_fs_5 dX11_law_1 ?_
  refine lv_iload_n hx hb dX11_law_4 rfl (lv_at hl 2 rfl) ?_
  have hPc := hP.sub (ws' := [(h1, .inr (1, gs))]) [1] rfl
  have hDc := hD.sub (ws' := [(h1, .inr (1, gs))]) [1] (by decide) rfl
  have hKc := hK.sub (tys' := []) [] rfl
  have hFc := va_free (wc := [(h1, .inr (1, gs))]) hD hS hA [1] rfl
  refine va_callq (va_runV (As := [.int p1]) (rest := []) ⟨hx, hb, hml, hown, hts⟩ (c_X1_get l dC dI H.size h1 gs hn_gs e_gs_2 p1) (cwV 1 hts g_c_X11_law_c_X1_get_0 rfl rfl rfl (by decide +kernel) ⟨Nat.le_of_ble_eq_true rfl, Nat.le_of_ble_eq_true rfl⟩) ⟨fun a U g mk q => by obtain ⟨q0, q1, qP, qK, qD⟩ := q; exact ⟨q0, q1, qP, va_K.moved (u := U) (U := U.calling g mk a) (Vm.Alike.refl U.vm) qK, qD⟩, va_recv hKc hPc (ci := 1) (q0 := 0) rfl rfl, fun U hU hW => ⟨rfl, by rw [hU], by rw [hU]; exact hPc, va_K.moved hW.alike hKc, hDc.weaken (fun _ _ _ _ => trivial)⟩⟩ rfl rfl hl.1 rfl (lv_room (Nat.le_of_ble_eq_true rfl)) dX11_law_5 ⟨Nat.le_of_ble_eq_true rfl, Nat.le_of_ble_eq_true rfl⟩) hS (fun q _ h => hFc q h) hFc (fun r_1 u t H1 locs ht hvm hw hB hz1 hk1 hS => ?_)
  obtain ⟨hP1, hD1⟩ := hB
  rw [ht] at hP1
  obtain ⟨hP, hD⟩ := va_join (wr := [(h0, .inr (11, fs))]) (w1 := [(h1, .inr (1, gs))]) hP hD [1] [0] rfl rfl (by decide) (by decide) hk1 hFc hP1 hD1
  generalize H1 = H at hP hS ⊢
  have hP : va_P (dC, dI) vwCl [(h0, .inr (11, fs)), (h1, .inr (1, gs))] H := hP
  have hD : va_D A [(h0, .inr (11, fs)), (h1, .inr (1, gs))] := hD
  refine W.widen (k := 0) (n := 0) (Nat.le_of_ble_eq_true rfl) (Nat.le_of_ble_eq_true rfl) ?_
  have e_1 : r_1 = none := hw
  subst e_1
  refine W.eq (g2 := F0 m 8 ls [.null]) rfl ?_
  refine lv_astoreN (lv' := [(6, .null), (0, .ref h0), (1, .int p0), (2, .int p1), (3, .int p2), (4, .int p3), (5, .int p4)]) hx hb dX11_law_8 hl (by decide) rfl (fun ls hl => ?_)
  refine lv_aload_n hx hb dX11_law_10 rfl (lv_at hl 1 rfl) ?_
  refine va_get (D := (dC, dI)) (ci := 11) (v := .ref h1) (C := RX11) (T := TX11) (N := 16) hx hb hts hiX11 hown hK hP 0 rfl rfl 5 (by decide) (hts (.fieldLink RX11 39 "CakePapers" "desk" "LCakePapers$Desk;") (by decide +kernel)) (fun _ h9 => h9) e_fs_5 dX11_law_11 ?_
  refine lv_iload_n hx hb dX11_law_14 rfl (lv_at hl 4 rfl) ?_
  have hPc := hP.sub (ws' := [(h1, .inr (1, gs))]) [1] rfl
  have hDc := hD.sub (ws' := [(h1, .inr (1, gs))]) [1] (by decide) rfl
  have hKc := hK.sub (tys' := []) [] rfl
  have hFc := va_free (wc := [(h1, .inr (1, gs))]) hD hS hA [1] rfl
  refine va_callq (va_runV (As := [.int p2]) (rest := []) ⟨hx, hb, hml, hown, hts⟩ (c_X1_get l dC dI H.size h1 gs hn_gs e_gs_2 p2) (cwV 1 hts g_c_X11_law_c_X1_get_0 rfl rfl rfl (by decide +kernel) ⟨Nat.le_of_ble_eq_true rfl, Nat.le_of_ble_eq_true rfl⟩) ⟨fun a U g mk q => by obtain ⟨q0, q1, qP, qK, qD⟩ := q; exact ⟨q0, q1, qP, va_K.moved (u := U) (U := U.calling g mk a) (Vm.Alike.refl U.vm) qK, qD⟩, va_recv hKc hPc (ci := 1) (q0 := 0) rfl rfl, fun U hU hW => ⟨rfl, by rw [hU], by rw [hU]; exact hPc, va_K.moved hW.alike hKc, hDc.weaken (fun _ _ _ _ => trivial)⟩⟩ rfl rfl hl.1 rfl (lv_room (Nat.le_of_ble_eq_true rfl)) dX11_law_15 ⟨Nat.le_of_ble_eq_true rfl, Nat.le_of_ble_eq_true rfl⟩) hS (fun q _ h => hFc q h) hFc (fun r_2 u t H1 locs ht hvm hw hB hz1 hk1 hS => ?_)
  obtain ⟨hP1, hD1⟩ := hB
  rw [ht] at hP1
  obtain ⟨hP, hD⟩ := va_join (wr := [(h0, .inr (11, fs))]) (w1 := [(h1, .inr (1, gs))]) hP hD [1] [0] rfl rfl (by decide) (by decide) hk1 hFc hP1 hD1
  generalize H1 = H at hP hS ⊢
  have hP : va_P (dC, dI) vwCl [(h0, .inr (11, fs)), (h1, .inr (1, gs))] H := hP
  have hD : va_D A [(h0, .inr (11, fs)), (h1, .inr (1, gs))] := hD
  refine W.widen (k := 0) (n := 0) (Nat.le_of_ble_eq_true rfl) (Nat.le_of_ble_eq_true rfl) ?_
  have e_2 : r_2 = none := hw
  subst e_2
  refine W.eq (g2 := F0 m 18 ls [.null]) rfl ?_
  refine lv_astoreN (lv' := [(7, .null), (6, .null), (0, .ref h0), (1, .int p0), (2, .int p1), (3, .int p2), (4, .int p3), (5, .int p4)]) hx hb dX11_law_18 hl (by decide) rfl (fun ls hl => ?_)
  refine lv_iload_n hx hb dX11_law_20 rfl (lv_at hl 3 rfl) ?_
  refine lv_if_lt (tgt := 39) hx hb dX11_law_21 (by decide) (fun c_3 => ?_) (fun c_3 => ?_)
  · refine lv_iconst (v := (-1)) hx hb dX11_law_39 (by decide) ?_
    refine W.widen (k := 0) (n := 0) (Nat.le_of_ble_eq_true rfl) (Nat.le_of_ble_eq_true rfl) ?_
    exact W.iret (v := (-1)) hx hb hr (fun t ht hW => ⟨⟨(-1), (), rfl, rfl, trivial⟩, hS.F ht⟩) hS.2.2 dX11_law_40
  · refine lv_iload_n hx hb dX11_law_24 rfl (lv_at hl 3 rfl) ?_
    refine lv_iconst (v := 2) hx hb dX11_law_25 (by decide) ?_
    refine lv_icmp_gt (tgt := 39) hx hb dX11_law_26 (by decide) (fun c_4 => ?_) (fun c_4 => ?_)
    · refine lv_iconst (v := (-1)) hx hb dX11_law_39 (by decide) ?_
      refine W.widen (k := 0) (n := 0) (Nat.le_of_ble_eq_true rfl) (Nat.le_of_ble_eq_true rfl) ?_
      exact W.iret (v := (-1)) hx hb hr (fun t ht hW => ⟨⟨(-1), (), rfl, rfl, trivial⟩, hS.F ht⟩) hS.2.2 dX11_law_40
    · refine lv_aloadN hx hb dX11_law_29 (lv_at hl 1 rfl) ?_
      refine lv_ifnullN (tgt := 39) hx hb dX11_law_31 (by decide) ?_
      refine lv_iconst (v := (-1)) hx hb dX11_law_39 (by decide) ?_
      refine W.widen (k := 0) (n := 0) (Nat.le_of_ble_eq_true rfl) (Nat.le_of_ble_eq_true rfl) ?_
      exact W.iret (v := (-1)) hx hb hr (fun t ht hW => ⟨⟨(-1), (), rfl, rfl, trivial⟩, hS.F ht⟩) hS.2.2 dX11_law_40
def u_c_X11_three : List Cond := .code yX11_three cX11_three 10 (some .int) :: ([.fieldLink RX11 39 "CakePapers" "desk" "LCakePapers$Desk;", .code yX1_get cX1_get 2 (some (.object "CakePapers$Paper")), .fieldLink RX1 24 "CakePapers$Desk" "count" "I", .methodLink RX11 148 yX1_get, .instanceMethod yX1_get, .selects RX1 yX1_get yX1_get, .initialized RX1] ++ wsX110 ++ wsX10)
set_option maxRecDepth 20000 in
theorem g_c_X11_three_c_X1_get_0 : GoodIn u_c_X11_three (wsV RX11 148 RX1 yX1_get u_c_X1_get) := goodIn_of _ (by decide +kernel)
set_option maxHeartbeats 1000000 in
set_option maxRecDepth 100000 in
theorem c_X11_three (l : Launch) (dC : Nat → ClassId) (dI : Nat → Nat → Nat) (sz : Nat) (h0 h1 : Nat) (fs : List Value) (hn_fs : fs.length = 16) (e_fs_5 : fs[5]? = some (.ref h1)) (gs : List Value) (hn_gs : gs.length = 3) (e_gs_2 : gs[2]? = some (.int 0)) (p0 : Int32) (p1 : Int32) (p2 : Int32) (p3 : Int32) (p4 : Int32) : Met l yX11_three u_c_X11_three ({ frames := 1, cells := 0, slots := 0, locals := 21 }) (va_Pc [.ref h0, .int p0, .int p1, .int p2, .int p3, .int p4] (fun U => U.heap.size = sz ∧ va_P (dC, dI) vwCl [(h0, .inr (11, fs)), (h1, .inr (1, gs))] U.heap ∧ va_K (dC, dI) vwCl [] U ∧ va_D (fun _ => True) [(h0, .inr (11, fs)), (h1, .inr (1, gs))])) (va_Qi (fun (r : Int32) (_ : Unit) => r = (-1)) (fun _ _ => True) (va_A [(h0, .inr (11, fs)), (h1, .inr (1, gs))] sz)) 0 0 (va_A [(h0, .inr (11, fs)), (h1, .inr (1, gs))] sz) := by
  refine Met.ofW (cc := cX11_three) (maxL := 10) (ret := (some .int)) (by decide) rfl ?_
  intro p e s m args below meth c s₁ B hml hv
  obtain ⟨rfl, hsz, hP, hK, hD0⟩ := hv
  have hx := B.exec
  have hb := B.bytes
  have hr := B.returns
  have hts := atoms_spec (ws := u_c_X11_three) B.pre
  have hown : s.vm.findClass RX11 = some m.cls := findClass_of_methodNamed B.named
  have hlocks := B.notSynchronized
  have hiX11 : ∀ w ∈ wsX110, w ∈ u_c_X11_three := fun w h => List.mem_cons_of_mem _ (List.mem_append_left _ (List.mem_append_right _ h))
  have hiX1 : ∀ w ∈ wsX10, w ∈ u_c_X11_three := fun w h => List.mem_cons_of_mem _ (List.mem_append_right _ h)
  subst hsz
  have hD := hD0.self (sz := s.heap.size)
  generalize hAe : va_A [(h0, .inr (11, fs)), (h1, .inr (1, gs))] s.heap.size = A at hD ⊢
  have hA : ∀ q : Nat, s.heap.size ≤ q → A q := fun q h => by rw [← hAe]; exact Or.inr h
  have hS : va_S A s.heap s.heap [] := va_S.rf
  obtain ⟨H, hH⟩ : ∃ H : Heap, H = s.heap := ⟨_, rfl⟩
  have hP : va_P (dC, dI) vwCl [(h0, .inr (11, fs)), (h1, .inr (1, gs))] H := by rw [hH]; exact hP
  have hS : va_S A s.heap H [] := by rw [hH]; exact hS
  have hl := lv_entry ([.ref h0, .int p0, .int p1, .int p2, .int p3, .int p4]) (n := 10) (Nat.le_of_ble_eq_true rfl)
  rw [lg_entry_eq]
  generalize (lg_sl ([.ref h0, .int p0, .int p1, .int p2, .int p3, .int p4]) ++ List.replicate (10 - (lg_sl ([.ref h0, .int p0, .int p1, .int p2, .int p3, .int p4])).length) Slot.unset).toArray = ls at hl ⊢
  have hl : lv_has ls 10 [(0, .ref h0), (1, .int p0), (2, .int p1), (3, .int p2), (4, .int p3), (5, .int p4)] := hl
  suffices h9 : W p l e (headSpec u_c_X11_three _).room s m _ below meth c H [] 0 0 _ (F0 m 0 ls []) by rw [hH] at h9; exact h9
  refine lv_aload_n hx hb dX11_three_0 rfl (lv_at hl 0 rfl) ?_
  refine va_get (D := (dC, dI)) (ci := 11) (v := .ref h1) (C := RX11) (T := TX11) (N := 16) hx hb hts hiX11 hown hK hP 0 rfl rfl 5 (by decide) (hts (.fieldLink RX11 39 "CakePapers" "desk" "LCakePapers$Desk;") (by decide +kernel)) (fun _ h9 => h9) e_fs_5 dX11_three_1 ?_
  refine lv_iload_n hx hb dX11_three_4 rfl (lv_at hl 1 rfl) ?_
  have hPc := hP.sub (ws' := [(h1, .inr (1, gs))]) [1] rfl
  have hDc := hD.sub (ws' := [(h1, .inr (1, gs))]) [1] (by decide) rfl
  have hKc := hK.sub (tys' := []) [] rfl
  have hFc := va_free (wc := [(h1, .inr (1, gs))]) hD hS hA [1] rfl
  refine va_callq (va_runV (As := [.int p0]) (rest := []) ⟨hx, hb, hml, hown, hts⟩ (c_X1_get l dC dI H.size h1 gs hn_gs e_gs_2 p0) (cwV 1 hts g_c_X11_three_c_X1_get_0 rfl rfl rfl (by decide +kernel) ⟨Nat.le_of_ble_eq_true rfl, Nat.le_of_ble_eq_true rfl⟩) ⟨fun a U g mk q => by obtain ⟨q0, q1, qP, qK, qD⟩ := q; exact ⟨q0, q1, qP, va_K.moved (u := U) (U := U.calling g mk a) (Vm.Alike.refl U.vm) qK, qD⟩, va_recv hKc hPc (ci := 1) (q0 := 0) rfl rfl, fun U hU hW => ⟨rfl, by rw [hU], by rw [hU]; exact hPc, va_K.moved hW.alike hKc, hDc.weaken (fun _ _ _ _ => trivial)⟩⟩ rfl rfl hl.1 rfl (lv_room (Nat.le_of_ble_eq_true rfl)) dX11_three_5 ⟨Nat.le_of_ble_eq_true rfl, Nat.le_of_ble_eq_true rfl⟩) hS (fun q _ h => hFc q h) hFc (fun r_1 u t H1 locs ht hvm hw hB hz1 hk1 hS => ?_)
  obtain ⟨hP1, hD1⟩ := hB
  rw [ht] at hP1
  obtain ⟨hP, hD⟩ := va_join (wr := [(h0, .inr (11, fs))]) (w1 := [(h1, .inr (1, gs))]) hP hD [1] [0] rfl rfl (by decide) (by decide) hk1 hFc hP1 hD1
  generalize H1 = H at hP hS ⊢
  have hP : va_P (dC, dI) vwCl [(h0, .inr (11, fs)), (h1, .inr (1, gs))] H := hP
  have hD : va_D A [(h0, .inr (11, fs)), (h1, .inr (1, gs))] := hD
  refine W.widen (k := 0) (n := 0) (Nat.le_of_ble_eq_true rfl) (Nat.le_of_ble_eq_true rfl) ?_
  have e_1 : r_1 = none := hw
  subst e_1
  refine W.eq (g2 := F0 m 8 ls [.null]) rfl ?_
  refine lv_astoreN (lv' := [(6, .null), (0, .ref h0), (1, .int p0), (2, .int p1), (3, .int p2), (4, .int p3), (5, .int p4)]) hx hb dX11_three_8 hl (by decide) rfl (fun ls hl => ?_)
  refine lv_aload_n hx hb dX11_three_10 rfl (lv_at hl 1 rfl) ?_
  refine va_get (D := (dC, dI)) (ci := 11) (v := .ref h1) (C := RX11) (T := TX11) (N := 16) hx hb hts hiX11 hown hK hP 0 rfl rfl 5 (by decide) (hts (.fieldLink RX11 39 "CakePapers" "desk" "LCakePapers$Desk;") (by decide +kernel)) (fun _ h9 => h9) e_fs_5 dX11_three_11 ?_
  refine lv_iload_n hx hb dX11_three_14 rfl (lv_at hl 3 rfl) ?_
  have hPc := hP.sub (ws' := [(h1, .inr (1, gs))]) [1] rfl
  have hDc := hD.sub (ws' := [(h1, .inr (1, gs))]) [1] (by decide) rfl
  have hKc := hK.sub (tys' := []) [] rfl
  have hFc := va_free (wc := [(h1, .inr (1, gs))]) hD hS hA [1] rfl
  refine va_callq (va_runV (As := [.int p1]) (rest := []) ⟨hx, hb, hml, hown, hts⟩ (c_X1_get l dC dI H.size h1 gs hn_gs e_gs_2 p1) (cwV 1 hts g_c_X11_three_c_X1_get_0 rfl rfl rfl (by decide +kernel) ⟨Nat.le_of_ble_eq_true rfl, Nat.le_of_ble_eq_true rfl⟩) ⟨fun a U g mk q => by obtain ⟨q0, q1, qP, qK, qD⟩ := q; exact ⟨q0, q1, qP, va_K.moved (u := U) (U := U.calling g mk a) (Vm.Alike.refl U.vm) qK, qD⟩, va_recv hKc hPc (ci := 1) (q0 := 0) rfl rfl, fun U hU hW => ⟨rfl, by rw [hU], by rw [hU]; exact hPc, va_K.moved hW.alike hKc, hDc.weaken (fun _ _ _ _ => trivial)⟩⟩ rfl rfl hl.1 rfl (lv_room (Nat.le_of_ble_eq_true rfl)) dX11_three_15 ⟨Nat.le_of_ble_eq_true rfl, Nat.le_of_ble_eq_true rfl⟩) hS (fun q _ h => hFc q h) hFc (fun r_2 u t H1 locs ht hvm hw hB hz1 hk1 hS => ?_)
  obtain ⟨hP1, hD1⟩ := hB
  rw [ht] at hP1
  obtain ⟨hP, hD⟩ := va_join (wr := [(h0, .inr (11, fs))]) (w1 := [(h1, .inr (1, gs))]) hP hD [1] [0] rfl rfl (by decide) (by decide) hk1 hFc hP1 hD1
  generalize H1 = H at hP hS ⊢
  have hP : va_P (dC, dI) vwCl [(h0, .inr (11, fs)), (h1, .inr (1, gs))] H := hP
  have hD : va_D A [(h0, .inr (11, fs)), (h1, .inr (1, gs))] := hD
  refine W.widen (k := 0) (n := 0) (Nat.le_of_ble_eq_true rfl) (Nat.le_of_ble_eq_true rfl) ?_
  have e_2 : r_2 = none := hw
  subst e_2
  refine W.eq (g2 := F0 m 18 ls [.null]) rfl ?_
  refine lv_astoreN (lv' := [(7, .null), (6, .null), (0, .ref h0), (1, .int p0), (2, .int p1), (3, .int p2), (4, .int p3), (5, .int p4)]) hx hb dX11_three_18 hl (by decide) rfl (fun ls hl => ?_)
  refine lv_aload_n hx hb dX11_three_20 rfl (lv_at hl 2 rfl) ?_
  refine va_get (D := (dC, dI)) (ci := 11) (v := .ref h1) (C := RX11) (T := TX11) (N := 16) hx hb hts hiX11 hown hK hP 0 rfl rfl 5 (by decide) (hts (.fieldLink RX11 39 "CakePapers" "desk" "LCakePapers$Desk;") (by decide +kernel)) (fun _ h9 => h9) e_fs_5 dX11_three_21 ?_
  refine lv_iload_n hx hb dX11_three_24 rfl (lv_at hl 5 rfl) ?_
  have hPc := hP.sub (ws' := [(h1, .inr (1, gs))]) [1] rfl
  have hDc := hD.sub (ws' := [(h1, .inr (1, gs))]) [1] (by decide) rfl
  have hKc := hK.sub (tys' := []) [] rfl
  have hFc := va_free (wc := [(h1, .inr (1, gs))]) hD hS hA [1] rfl
  refine va_callq (va_runV (As := [.int p2]) (rest := []) ⟨hx, hb, hml, hown, hts⟩ (c_X1_get l dC dI H.size h1 gs hn_gs e_gs_2 p2) (cwV 1 hts g_c_X11_three_c_X1_get_0 rfl rfl rfl (by decide +kernel) ⟨Nat.le_of_ble_eq_true rfl, Nat.le_of_ble_eq_true rfl⟩) ⟨fun a U g mk q => by obtain ⟨q0, q1, qP, qK, qD⟩ := q; exact ⟨q0, q1, qP, va_K.moved (u := U) (U := U.calling g mk a) (Vm.Alike.refl U.vm) qK, qD⟩, va_recv hKc hPc (ci := 1) (q0 := 0) rfl rfl, fun U hU hW => ⟨rfl, by rw [hU], by rw [hU]; exact hPc, va_K.moved hW.alike hKc, hDc.weaken (fun _ _ _ _ => trivial)⟩⟩ rfl rfl hl.1 rfl (lv_room (Nat.le_of_ble_eq_true rfl)) dX11_three_25 ⟨Nat.le_of_ble_eq_true rfl, Nat.le_of_ble_eq_true rfl⟩) hS (fun q _ h => hFc q h) hFc (fun r_3 u t H1 locs ht hvm hw hB hz1 hk1 hS => ?_)
  obtain ⟨hP1, hD1⟩ := hB
  rw [ht] at hP1
  obtain ⟨hP, hD⟩ := va_join (wr := [(h0, .inr (11, fs))]) (w1 := [(h1, .inr (1, gs))]) hP hD [1] [0] rfl rfl (by decide) (by decide) hk1 hFc hP1 hD1
  generalize H1 = H at hP hS ⊢
  have hP : va_P (dC, dI) vwCl [(h0, .inr (11, fs)), (h1, .inr (1, gs))] H := hP
  have hD : va_D A [(h0, .inr (11, fs)), (h1, .inr (1, gs))] := hD
  refine W.widen (k := 0) (n := 0) (Nat.le_of_ble_eq_true rfl) (Nat.le_of_ble_eq_true rfl) ?_
  have e_3 : r_3 = none := hw
  subst e_3
  refine W.eq (g2 := F0 m 28 ls [.null]) rfl ?_
  refine lv_astoreN (lv' := [(8, .null), (7, .null), (6, .null), (0, .ref h0), (1, .int p0), (2, .int p1), (3, .int p2), (4, .int p3), (5, .int p4)]) hx hb dX11_three_28 hl (by decide) rfl (fun ls hl => ?_)
  refine lv_aload_n hx hb dX11_three_30 rfl (lv_at hl 3 rfl) ?_
  refine va_get (D := (dC, dI)) (ci := 11) (v := .ref h1) (C := RX11) (T := TX11) (N := 16) hx hb hts hiX11 hown hK hP 0 rfl rfl 5 (by decide) (hts (.fieldLink RX11 39 "CakePapers" "desk" "LCakePapers$Desk;") (by decide +kernel)) (fun _ h9 => h9) e_fs_5 dX11_three_31 ?_
  refine lv_iload hx hb dX11_three_34 (lv_at hl 7 rfl) ?_
  have hPc := hP.sub (ws' := [(h1, .inr (1, gs))]) [1] rfl
  have hDc := hD.sub (ws' := [(h1, .inr (1, gs))]) [1] (by decide) rfl
  have hKc := hK.sub (tys' := []) [] rfl
  have hFc := va_free (wc := [(h1, .inr (1, gs))]) hD hS hA [1] rfl
  refine va_callq (va_runV (As := [.int p3]) (rest := []) ⟨hx, hb, hml, hown, hts⟩ (c_X1_get l dC dI H.size h1 gs hn_gs e_gs_2 p3) (cwV 1 hts g_c_X11_three_c_X1_get_0 rfl rfl rfl (by decide +kernel) ⟨Nat.le_of_ble_eq_true rfl, Nat.le_of_ble_eq_true rfl⟩) ⟨fun a U g mk q => by obtain ⟨q0, q1, qP, qK, qD⟩ := q; exact ⟨q0, q1, qP, va_K.moved (u := U) (U := U.calling g mk a) (Vm.Alike.refl U.vm) qK, qD⟩, va_recv hKc hPc (ci := 1) (q0 := 0) rfl rfl, fun U hU hW => ⟨rfl, by rw [hU], by rw [hU]; exact hPc, va_K.moved hW.alike hKc, hDc.weaken (fun _ _ _ _ => trivial)⟩⟩ rfl rfl hl.1 rfl (lv_room (Nat.le_of_ble_eq_true rfl)) dX11_three_36 ⟨Nat.le_of_ble_eq_true rfl, Nat.le_of_ble_eq_true rfl⟩) hS (fun q _ h => hFc q h) hFc (fun r_4 u t H1 locs ht hvm hw hB hz1 hk1 hS => ?_)
  obtain ⟨hP1, hD1⟩ := hB
  rw [ht] at hP1
  obtain ⟨hP, hD⟩ := va_join (wr := [(h0, .inr (11, fs))]) (w1 := [(h1, .inr (1, gs))]) hP hD [1] [0] rfl rfl (by decide) (by decide) hk1 hFc hP1 hD1
  generalize H1 = H at hP hS ⊢
  have hP : va_P (dC, dI) vwCl [(h0, .inr (11, fs)), (h1, .inr (1, gs))] H := hP
  have hD : va_D A [(h0, .inr (11, fs)), (h1, .inr (1, gs))] := hD
  refine W.widen (k := 0) (n := 0) (Nat.le_of_ble_eq_true rfl) (Nat.le_of_ble_eq_true rfl) ?_
  have e_4 : r_4 = none := hw
  subst e_4
  refine W.eq (g2 := F0 m 39 ls [.null]) rfl ?_
  refine lv_astoreN (lv' := [(9, .null), (8, .null), (7, .null), (6, .null), (0, .ref h0), (1, .int p0), (2, .int p1), (3, .int p2), (4, .int p3), (5, .int p4)]) hx hb dX11_three_39 hl (by decide) rfl (fun ls hl => ?_)
  refine lv_aloadN hx hb dX11_three_41 (lv_at hl 3 rfl) ?_
  refine lv_ifnullN (tgt := 61) hx hb dX11_three_43 (by decide) ?_
  refine lv_iconst (v := (-1)) hx hb dX11_three_61 (by decide) ?_
  refine W.widen (k := 0) (n := 0) (Nat.le_of_ble_eq_true rfl) (Nat.le_of_ble_eq_true rfl) ?_
  exact W.iret (v := (-1)) hx hb hr (fun t ht hW => ⟨⟨(-1), (), rfl, rfl, trivial⟩, hS.F ht⟩) hS.2.2 dX11_three_62
def u_c_X11_begun : List Cond := .code yX11_begun cX11_begun 7 (some .int) :: ([.fieldLink RX11 39 "CakePapers" "desk" "LCakePapers$Desk;", .code yX1_get cX1_get 2 (some (.object "CakePapers$Paper")), .fieldLink RX1 24 "CakePapers$Desk" "count" "I", .methodLink RX11 148 yX1_get, .instanceMethod yX1_get, .selects RX1 yX1_get yX1_get, .initialized RX1] ++ wsX110 ++ wsX10)
set_option maxRecDepth 20000 in
theorem g_c_X11_begun_c_X1_get_0 : GoodIn u_c_X11_begun (wsV RX11 148 RX1 yX1_get u_c_X1_get) := goodIn_of _ (by decide +kernel)
set_option maxHeartbeats 1000000 in
set_option maxRecDepth 100000 in
theorem c_X11_begun (l : Launch) (dC : Nat → ClassId) (dI : Nat → Nat → Nat) (sz : Nat) (h0 h1 : Nat) (fs : List Value) (hn_fs : fs.length = 16) (e_fs_5 : fs[5]? = some (.ref h1)) (gs : List Value) (hn_gs : gs.length = 3) (e_gs_2 : gs[2]? = some (.int 0)) (p0 : Int32) (p1 : Int32) (p2 : Int32) (p3 : Int32) : Met l yX11_begun u_c_X11_begun ({ frames := 1, cells := 0, slots := 0, locals := 21 }) (va_Pc [.ref h0, .int p0, .int p1, .int p2, .int p3] (fun U => U.heap.size = sz ∧ va_P (dC, dI) vwCl [(h0, .inr (11, fs)), (h1, .inr (1, gs))] U.heap ∧ va_K (dC, dI) vwCl [] U ∧ va_D (fun _ => True) [(h0, .inr (11, fs)), (h1, .inr (1, gs))])) (va_Qi (fun (r : Int32) (_ : Unit) => r = (-1)) (fun _ _ => True) (va_A [(h0, .inr (11, fs)), (h1, .inr (1, gs))] sz)) 0 0 (va_A [(h0, .inr (11, fs)), (h1, .inr (1, gs))] sz) := by
  refine Met.ofW (cc := cX11_begun) (maxL := 7) (ret := (some .int)) (by decide) rfl ?_
  intro p e s m args below meth c s₁ B hml hv
  obtain ⟨rfl, hsz, hP, hK, hD0⟩ := hv
  have hx := B.exec
  have hb := B.bytes
  have hr := B.returns
  have hts := atoms_spec (ws := u_c_X11_begun) B.pre
  have hown : s.vm.findClass RX11 = some m.cls := findClass_of_methodNamed B.named
  have hlocks := B.notSynchronized
  have hiX11 : ∀ w ∈ wsX110, w ∈ u_c_X11_begun := fun w h => List.mem_cons_of_mem _ (List.mem_append_left _ (List.mem_append_right _ h))
  have hiX1 : ∀ w ∈ wsX10, w ∈ u_c_X11_begun := fun w h => List.mem_cons_of_mem _ (List.mem_append_right _ h)
  subst hsz
  have hD := hD0.self (sz := s.heap.size)
  generalize hAe : va_A [(h0, .inr (11, fs)), (h1, .inr (1, gs))] s.heap.size = A at hD ⊢
  have hA : ∀ q : Nat, s.heap.size ≤ q → A q := fun q h => by rw [← hAe]; exact Or.inr h
  have hS : va_S A s.heap s.heap [] := va_S.rf
  obtain ⟨H, hH⟩ : ∃ H : Heap, H = s.heap := ⟨_, rfl⟩
  have hP : va_P (dC, dI) vwCl [(h0, .inr (11, fs)), (h1, .inr (1, gs))] H := by rw [hH]; exact hP
  have hS : va_S A s.heap H [] := by rw [hH]; exact hS
  have hl := lv_entry ([.ref h0, .int p0, .int p1, .int p2, .int p3]) (n := 7) (Nat.le_of_ble_eq_true rfl)
  rw [lg_entry_eq]
  generalize (lg_sl ([.ref h0, .int p0, .int p1, .int p2, .int p3]) ++ List.replicate (7 - (lg_sl ([.ref h0, .int p0, .int p1, .int p2, .int p3])).length) Slot.unset).toArray = ls at hl ⊢
  have hl : lv_has ls 7 [(0, .ref h0), (1, .int p0), (2, .int p1), (3, .int p2), (4, .int p3)] := hl
  suffices h9 : W p l e (headSpec u_c_X11_begun _).room s m _ below meth c H [] 0 0 _ (F0 m 0 ls []) by rw [hH] at h9; exact h9
  refine lv_aload_n hx hb dX11_begun_0 rfl (lv_at hl 0 rfl) ?_
  refine va_get (D := (dC, dI)) (ci := 11) (v := .ref h1) (C := RX11) (T := TX11) (N := 16) hx hb hts hiX11 hown hK hP 0 rfl rfl 5 (by decide) (hts (.fieldLink RX11 39 "CakePapers" "desk" "LCakePapers$Desk;") (by decide +kernel)) (fun _ h9 => h9) e_fs_5 dX11_begun_1 ?_
  refine lv_iload_n hx hb dX11_begun_4 rfl (lv_at hl 1 rfl) ?_
  have hPc := hP.sub (ws' := [(h1, .inr (1, gs))]) [1] rfl
  have hDc := hD.sub (ws' := [(h1, .inr (1, gs))]) [1] (by decide) rfl
  have hKc := hK.sub (tys' := []) [] rfl
  have hFc := va_free (wc := [(h1, .inr (1, gs))]) hD hS hA [1] rfl
  refine va_callq (va_runV (As := [.int p0]) (rest := []) ⟨hx, hb, hml, hown, hts⟩ (c_X1_get l dC dI H.size h1 gs hn_gs e_gs_2 p0) (cwV 1 hts g_c_X11_begun_c_X1_get_0 rfl rfl rfl (by decide +kernel) ⟨Nat.le_of_ble_eq_true rfl, Nat.le_of_ble_eq_true rfl⟩) ⟨fun a U g mk q => by obtain ⟨q0, q1, qP, qK, qD⟩ := q; exact ⟨q0, q1, qP, va_K.moved (u := U) (U := U.calling g mk a) (Vm.Alike.refl U.vm) qK, qD⟩, va_recv hKc hPc (ci := 1) (q0 := 0) rfl rfl, fun U hU hW => ⟨rfl, by rw [hU], by rw [hU]; exact hPc, va_K.moved hW.alike hKc, hDc.weaken (fun _ _ _ _ => trivial)⟩⟩ rfl rfl hl.1 rfl (lv_room (Nat.le_of_ble_eq_true rfl)) dX11_begun_5 ⟨Nat.le_of_ble_eq_true rfl, Nat.le_of_ble_eq_true rfl⟩) hS (fun q _ h => hFc q h) hFc (fun r_1 u t H1 locs ht hvm hw hB hz1 hk1 hS => ?_)
  obtain ⟨hP1, hD1⟩ := hB
  rw [ht] at hP1
  obtain ⟨hP, hD⟩ := va_join (wr := [(h0, .inr (11, fs))]) (w1 := [(h1, .inr (1, gs))]) hP hD [1] [0] rfl rfl (by decide) (by decide) hk1 hFc hP1 hD1
  generalize H1 = H at hP hS ⊢
  have hP : va_P (dC, dI) vwCl [(h0, .inr (11, fs)), (h1, .inr (1, gs))] H := hP
  have hD : va_D A [(h0, .inr (11, fs)), (h1, .inr (1, gs))] := hD
  refine W.widen (k := 0) (n := 0) (Nat.le_of_ble_eq_true rfl) (Nat.le_of_ble_eq_true rfl) ?_
  have e_1 : r_1 = none := hw
  subst e_1
  refine W.eq (g2 := F0 m 8 ls [.null]) rfl ?_
  refine lv_astoreN (lv' := [(5, .null), (0, .ref h0), (1, .int p0), (2, .int p1), (3, .int p2), (4, .int p3)]) hx hb dX11_begun_8 hl (by decide) rfl (fun ls hl => ?_)
  refine lv_aload_n hx hb dX11_begun_10 rfl (lv_at hl 1 rfl) ?_
  refine va_get (D := (dC, dI)) (ci := 11) (v := .ref h1) (C := RX11) (T := TX11) (N := 16) hx hb hts hiX11 hown hK hP 0 rfl rfl 5 (by decide) (hts (.fieldLink RX11 39 "CakePapers" "desk" "LCakePapers$Desk;") (by decide +kernel)) (fun _ h9 => h9) e_fs_5 dX11_begun_11 ?_
  refine lv_iload_n hx hb dX11_begun_14 rfl (lv_at hl 4 rfl) ?_
  have hPc := hP.sub (ws' := [(h1, .inr (1, gs))]) [1] rfl
  have hDc := hD.sub (ws' := [(h1, .inr (1, gs))]) [1] (by decide) rfl
  have hKc := hK.sub (tys' := []) [] rfl
  have hFc := va_free (wc := [(h1, .inr (1, gs))]) hD hS hA [1] rfl
  refine va_callq (va_runV (As := [.int p2]) (rest := []) ⟨hx, hb, hml, hown, hts⟩ (c_X1_get l dC dI H.size h1 gs hn_gs e_gs_2 p2) (cwV 1 hts g_c_X11_begun_c_X1_get_0 rfl rfl rfl (by decide +kernel) ⟨Nat.le_of_ble_eq_true rfl, Nat.le_of_ble_eq_true rfl⟩) ⟨fun a U g mk q => by obtain ⟨q0, q1, qP, qK, qD⟩ := q; exact ⟨q0, q1, qP, va_K.moved (u := U) (U := U.calling g mk a) (Vm.Alike.refl U.vm) qK, qD⟩, va_recv hKc hPc (ci := 1) (q0 := 0) rfl rfl, fun U hU hW => ⟨rfl, by rw [hU], by rw [hU]; exact hPc, va_K.moved hW.alike hKc, hDc.weaken (fun _ _ _ _ => trivial)⟩⟩ rfl rfl hl.1 rfl (lv_room (Nat.le_of_ble_eq_true rfl)) dX11_begun_15 ⟨Nat.le_of_ble_eq_true rfl, Nat.le_of_ble_eq_true rfl⟩) hS (fun q _ h => hFc q h) hFc (fun r_2 u t H1 locs ht hvm hw hB hz1 hk1 hS => ?_)
  obtain ⟨hP1, hD1⟩ := hB
  rw [ht] at hP1
  obtain ⟨hP, hD⟩ := va_join (wr := [(h0, .inr (11, fs))]) (w1 := [(h1, .inr (1, gs))]) hP hD [1] [0] rfl rfl (by decide) (by decide) hk1 hFc hP1 hD1
  generalize H1 = H at hP hS ⊢
  have hP : va_P (dC, dI) vwCl [(h0, .inr (11, fs)), (h1, .inr (1, gs))] H := hP
  have hD : va_D A [(h0, .inr (11, fs)), (h1, .inr (1, gs))] := hD
  refine W.widen (k := 0) (n := 0) (Nat.le_of_ble_eq_true rfl) (Nat.le_of_ble_eq_true rfl) ?_
  have e_2 : r_2 = none := hw
  subst e_2
  refine W.eq (g2 := F0 m 18 ls [.null]) rfl ?_
  refine lv_astoreN (lv' := [(6, .null), (5, .null), (0, .ref h0), (1, .int p0), (2, .int p1), (3, .int p2), (4, .int p3)]) hx hb dX11_begun_18 hl (by decide) rfl (fun ls hl => ?_)
  refine lv_aloadN hx hb dX11_begun_20 (lv_at hl 1 rfl) ?_
  refine lv_ifnullN (tgt := 43) hx hb dX11_begun_22 (by decide) ?_
  refine lv_iconst (v := (-1)) hx hb dX11_begun_43 (by decide) ?_
  refine W.widen (k := 0) (n := 0) (Nat.le_of_ble_eq_true rfl) (Nat.le_of_ble_eq_true rfl) ?_
  exact W.iret (v := (-1)) hx hb hr (fun t ht hW => ⟨⟨(-1), (), rfl, rfl, trivial⟩, hS.F ht⟩) hS.2.2 dX11_begun_44
def u_c_X11_tear : List Cond := .code yX11_tear cX11_tear 2 (some .boolean) :: ([.fieldLink RX11 39 "CakePapers" "desk" "LCakePapers$Desk;", .code yX1_get cX1_get 2 (some (.object "CakePapers$Paper")), .fieldLink RX1 24 "CakePapers$Desk" "count" "I", .methodLink RX11 148 yX1_get, .instanceMethod yX1_get, .selects RX1 yX1_get yX1_get, .initialized RX1] ++ wsX110 ++ wsX10)
set_option maxRecDepth 20000 in
theorem g_c_X11_tear_c_X1_get_0 : GoodIn u_c_X11_tear (wsV RX11 148 RX1 yX1_get u_c_X1_get) := goodIn_of _ (by decide +kernel)
set_option maxHeartbeats 1000000 in
set_option maxRecDepth 100000 in
theorem c_X11_tear (l : Launch) (dC : Nat → ClassId) (dI : Nat → Nat → Nat) (sz : Nat) (h0 h1 : Nat) (fs : List Value) (hn_fs : fs.length = 16) (e_fs_5 : fs[5]? = some (.ref h1)) (gs : List Value) (hn_gs : gs.length = 3) (e_gs_2 : gs[2]? = some (.int 0)) (p0 : Int32) : Met l yX11_tear u_c_X11_tear ({ frames := 1, cells := 0, slots := 0, locals := 21 }) (va_Pc [.ref h0, .int p0] (fun U => U.heap.size = sz ∧ va_P (dC, dI) vwCl [(h0, .inr (11, fs)), (h1, .inr (1, gs))] U.heap ∧ va_K (dC, dI) vwCl [] U ∧ va_D (fun _ => True) [(h0, .inr (11, fs)), (h1, .inr (1, gs))])) (va_Qi (fun (r : Int32) (_ : Unit) => r = 0) (fun _ _ => True) (va_A [(h0, .inr (11, fs)), (h1, .inr (1, gs))] sz)) 0 0 (va_A [(h0, .inr (11, fs)), (h1, .inr (1, gs))] sz) := by
  refine Met.ofW (cc := cX11_tear) (maxL := 2) (ret := (some .boolean)) (by decide) rfl ?_
  intro p e s m args below meth c s₁ B hml hv
  obtain ⟨rfl, hsz, hP, hK, hD0⟩ := hv
  have hx := B.exec
  have hb := B.bytes
  have hr := B.returns
  have hts := atoms_spec (ws := u_c_X11_tear) B.pre
  have hown : s.vm.findClass RX11 = some m.cls := findClass_of_methodNamed B.named
  have hlocks := B.notSynchronized
  have hiX11 : ∀ w ∈ wsX110, w ∈ u_c_X11_tear := fun w h => List.mem_cons_of_mem _ (List.mem_append_left _ (List.mem_append_right _ h))
  have hiX1 : ∀ w ∈ wsX10, w ∈ u_c_X11_tear := fun w h => List.mem_cons_of_mem _ (List.mem_append_right _ h)
  subst hsz
  have hD := hD0.self (sz := s.heap.size)
  generalize hAe : va_A [(h0, .inr (11, fs)), (h1, .inr (1, gs))] s.heap.size = A at hD ⊢
  have hA : ∀ q : Nat, s.heap.size ≤ q → A q := fun q h => by rw [← hAe]; exact Or.inr h
  have hS : va_S A s.heap s.heap [] := va_S.rf
  obtain ⟨H, hH⟩ : ∃ H : Heap, H = s.heap := ⟨_, rfl⟩
  have hP : va_P (dC, dI) vwCl [(h0, .inr (11, fs)), (h1, .inr (1, gs))] H := by rw [hH]; exact hP
  have hS : va_S A s.heap H [] := by rw [hH]; exact hS
  have hl := lv_entry ([.ref h0, .int p0]) (n := 2) (Nat.le_of_ble_eq_true rfl)
  rw [lg_entry_eq]
  generalize (lg_sl ([.ref h0, .int p0]) ++ List.replicate (2 - (lg_sl ([.ref h0, .int p0])).length) Slot.unset).toArray = ls at hl ⊢
  have hl : lv_has ls 2 [(0, .ref h0), (1, .int p0)] := hl
  suffices h9 : W p l e (headSpec u_c_X11_tear _).room s m _ below meth c H [] 0 0 _ (F0 m 0 ls []) by rw [hH] at h9; exact h9
  refine lv_aload_n hx hb dX11_tear_0 rfl (lv_at hl 0 rfl) ?_
  refine va_get (D := (dC, dI)) (ci := 11) (v := .ref h1) (C := RX11) (T := TX11) (N := 16) hx hb hts hiX11 hown hK hP 0 rfl rfl 5 (by decide) (hts (.fieldLink RX11 39 "CakePapers" "desk" "LCakePapers$Desk;") (by decide +kernel)) (fun _ h9 => h9) e_fs_5 dX11_tear_1 ?_
  refine lv_iload_n hx hb dX11_tear_4 rfl (lv_at hl 1 rfl) ?_
  have hPc := hP.sub (ws' := [(h1, .inr (1, gs))]) [1] rfl
  have hDc := hD.sub (ws' := [(h1, .inr (1, gs))]) [1] (by decide) rfl
  have hKc := hK.sub (tys' := []) [] rfl
  have hFc := va_free (wc := [(h1, .inr (1, gs))]) hD hS hA [1] rfl
  refine va_callq (va_runV (As := [.int p0]) (rest := []) ⟨hx, hb, hml, hown, hts⟩ (c_X1_get l dC dI H.size h1 gs hn_gs e_gs_2 p0) (cwV 1 hts g_c_X11_tear_c_X1_get_0 rfl rfl rfl (by decide +kernel) ⟨Nat.le_of_ble_eq_true rfl, Nat.le_of_ble_eq_true rfl⟩) ⟨fun a U g mk q => by obtain ⟨q0, q1, qP, qK, qD⟩ := q; exact ⟨q0, q1, qP, va_K.moved (u := U) (U := U.calling g mk a) (Vm.Alike.refl U.vm) qK, qD⟩, va_recv hKc hPc (ci := 1) (q0 := 0) rfl rfl, fun U hU hW => ⟨rfl, by rw [hU], by rw [hU]; exact hPc, va_K.moved hW.alike hKc, hDc.weaken (fun _ _ _ _ => trivial)⟩⟩ rfl rfl hl.1 rfl (lv_room (Nat.le_of_ble_eq_true rfl)) dX11_tear_5 ⟨Nat.le_of_ble_eq_true rfl, Nat.le_of_ble_eq_true rfl⟩) hS (fun q _ h => hFc q h) hFc (fun r_1 u t H1 locs ht hvm hw hB hz1 hk1 hS => ?_)
  obtain ⟨hP1, hD1⟩ := hB
  rw [ht] at hP1
  obtain ⟨hP, hD⟩ := va_join (wr := [(h0, .inr (11, fs))]) (w1 := [(h1, .inr (1, gs))]) hP hD [1] [0] rfl rfl (by decide) (by decide) hk1 hFc hP1 hD1
  generalize H1 = H at hP hS ⊢
  have hP : va_P (dC, dI) vwCl [(h0, .inr (11, fs)), (h1, .inr (1, gs))] H := hP
  have hD : va_D A [(h0, .inr (11, fs)), (h1, .inr (1, gs))] := hD
  refine W.widen (k := 0) (n := 0) (Nat.le_of_ble_eq_true rfl) (Nat.le_of_ble_eq_true rfl) ?_
  have e_1 : r_1 = none := hw
  subst e_1
  refine W.eq (g2 := F0 m 8 ls [.null]) rfl ?_
  refine lv_ifnonnullN hx hb dX11_tear_8 ?_
  refine lv_iconst (v := 0) hx hb dX11_tear_11 (by decide) ?_
  refine W.widen (k := 0) (n := 0) (Nat.le_of_ble_eq_true rfl) (Nat.le_of_ble_eq_true rfl) ?_
  exact W.zret (v := 0) hx hb hr (rfl) (fun t ht hW => ⟨⟨0, (), rfl, rfl, trivial⟩, hS.F ht⟩) hS.2.2 dX11_tear_12
def u_c_X11_listChanges : List Cond := .code yX11_listChanges cX11_listChanges 6 (some .boolean) :: ([.fieldLink RX11 39 "CakePapers" "desk" "LCakePapers$Desk;", .code yX1_get cX1_get 2 (some (.object "CakePapers$Paper")), .fieldLink RX1 24 "CakePapers$Desk" "count" "I", .methodLink RX11 148 yX1_get, .instanceMethod yX1_get, .selects RX1 yX1_get yX1_get, .initialized RX1] ++ wsX110 ++ wsX10)
set_option maxRecDepth 20000 in
theorem g_c_X11_listChanges_c_X1_get_0 : GoodIn u_c_X11_listChanges (wsV RX11 148 RX1 yX1_get u_c_X1_get) := goodIn_of _ (by decide +kernel)
set_option maxHeartbeats 1000000 in
set_option maxRecDepth 100000 in
theorem c_X11_listChanges (l : Launch) (dC : Nat → ClassId) (dI : Nat → Nat → Nat) (sz : Nat) (h0 h2 h1 : Nat) (fs : List Value) (hn_fs : fs.length = 16) (e_fs_5 : fs[5]? = some (.ref h1)) (gs : List Value) (hn_gs : gs.length = 3) (e_gs_2 : gs[2]? = some (.int 0)) (p0 : Int32) (p1 : Int32) : Met l yX11_listChanges u_c_X11_listChanges ({ frames := 1, cells := 0, slots := 0, locals := 21 }) (va_Pc [.ref h0, .ref h2, .int p0, .int p1] (fun U => U.heap.size = sz ∧ va_P (dC, dI) vwCl [(h0, .inr (11, fs)), (h1, .inr (1, gs))] U.heap ∧ va_K (dC, dI) vwCl [] U ∧ va_D (fun _ => True) [(h0, .inr (11, fs)), (h1, .inr (1, gs))])) (va_Qi (fun (r : Int32) (_ : Unit) => r = 0) (fun _ t => va_P (dC, dI) vwCl [(h0, .inr (11, fs)), (h1, .inr (1, gs))] t.heap ∧ va_D (va_A [(h0, .inr (11, fs)), (h1, .inr (1, gs))] sz) [(h0, .inr (11, fs)), (h1, .inr (1, gs))]) (va_A [(h0, .inr (11, fs)), (h1, .inr (1, gs))] sz)) 0 0 (va_A [(h0, .inr (11, fs)), (h1, .inr (1, gs))] sz) := by
  refine Met.ofW (cc := cX11_listChanges) (maxL := 6) (ret := (some .boolean)) (by decide) rfl ?_
  intro p e s m args below meth c s₁ B hml hv
  obtain ⟨rfl, hsz, hP, hK, hD0⟩ := hv
  have hx := B.exec
  have hb := B.bytes
  have hr := B.returns
  have hts := atoms_spec (ws := u_c_X11_listChanges) B.pre
  have hown : s.vm.findClass RX11 = some m.cls := findClass_of_methodNamed B.named
  have hlocks := B.notSynchronized
  have hiX11 : ∀ w ∈ wsX110, w ∈ u_c_X11_listChanges := fun w h => List.mem_cons_of_mem _ (List.mem_append_left _ (List.mem_append_right _ h))
  have hiX1 : ∀ w ∈ wsX10, w ∈ u_c_X11_listChanges := fun w h => List.mem_cons_of_mem _ (List.mem_append_right _ h)
  subst hsz
  have hD := hD0.self (sz := s.heap.size)
  generalize hAe : va_A [(h0, .inr (11, fs)), (h1, .inr (1, gs))] s.heap.size = A at hD ⊢
  have hA : ∀ q : Nat, s.heap.size ≤ q → A q := fun q h => by rw [← hAe]; exact Or.inr h
  have hS : va_S A s.heap s.heap [] := va_S.rf
  obtain ⟨H, hH⟩ : ∃ H : Heap, H = s.heap := ⟨_, rfl⟩
  have hP : va_P (dC, dI) vwCl [(h0, .inr (11, fs)), (h1, .inr (1, gs))] H := by rw [hH]; exact hP
  have hS : va_S A s.heap H [] := by rw [hH]; exact hS
  have hl := lv_entry ([.ref h0, .ref h2, .int p0, .int p1]) (n := 6) (Nat.le_of_ble_eq_true rfl)
  rw [lg_entry_eq]
  generalize (lg_sl ([.ref h0, .ref h2, .int p0, .int p1]) ++ List.replicate (6 - (lg_sl ([.ref h0, .ref h2, .int p0, .int p1])).length) Slot.unset).toArray = ls at hl ⊢
  have hl : lv_has ls 6 [(0, .ref h0), (1, .ref h2), (2, .int p0), (3, .int p1)] := hl
  suffices h9 : W p l e (headSpec u_c_X11_listChanges _).room s m _ below meth c H [] 0 0 _ (F0 m 0 ls []) by rw [hH] at h9; exact h9
  refine lv_aload_n hx hb dX11_listChanges_0 rfl (lv_at hl 0 rfl) ?_
  refine va_get (D := (dC, dI)) (ci := 11) (v := .ref h1) (C := RX11) (T := TX11) (N := 16) hx hb hts hiX11 hown hK hP 0 rfl rfl 5 (by decide) (hts (.fieldLink RX11 39 "CakePapers" "desk" "LCakePapers$Desk;") (by decide +kernel)) (fun _ h9 => h9) e_fs_5 dX11_listChanges_1 ?_
  refine lv_iload_n hx hb dX11_listChanges_4 rfl (lv_at hl 2 rfl) ?_
  have hPc := hP.sub (ws' := [(h1, .inr (1, gs))]) [1] rfl
  have hDc := hD.sub (ws' := [(h1, .inr (1, gs))]) [1] (by decide) rfl
  have hKc := hK.sub (tys' := []) [] rfl
  have hFc := va_free (wc := [(h1, .inr (1, gs))]) hD hS hA [1] rfl
  refine va_callq (va_runV (As := [.int p0]) (rest := []) ⟨hx, hb, hml, hown, hts⟩ (c_X1_get l dC dI H.size h1 gs hn_gs e_gs_2 p0) (cwV 1 hts g_c_X11_listChanges_c_X1_get_0 rfl rfl rfl (by decide +kernel) ⟨Nat.le_of_ble_eq_true rfl, Nat.le_of_ble_eq_true rfl⟩) ⟨fun a U g mk q => by obtain ⟨q0, q1, qP, qK, qD⟩ := q; exact ⟨q0, q1, qP, va_K.moved (u := U) (U := U.calling g mk a) (Vm.Alike.refl U.vm) qK, qD⟩, va_recv hKc hPc (ci := 1) (q0 := 0) rfl rfl, fun U hU hW => ⟨rfl, by rw [hU], by rw [hU]; exact hPc, va_K.moved hW.alike hKc, hDc.weaken (fun _ _ _ _ => trivial)⟩⟩ rfl rfl hl.1 rfl (lv_room (Nat.le_of_ble_eq_true rfl)) dX11_listChanges_5 ⟨Nat.le_of_ble_eq_true rfl, Nat.le_of_ble_eq_true rfl⟩) hS (fun q _ h => hFc q h) hFc (fun r_1 u t H1 locs ht hvm hw hB hz1 hk1 hS => ?_)
  obtain ⟨hP1, hD1⟩ := hB
  rw [ht] at hP1
  obtain ⟨hP, hD⟩ := va_join (wr := [(h0, .inr (11, fs))]) (w1 := [(h1, .inr (1, gs))]) hP hD [1] [0] rfl rfl (by decide) (by decide) hk1 hFc hP1 hD1
  generalize H1 = H at hP hS ⊢
  have hP : va_P (dC, dI) vwCl [(h0, .inr (11, fs)), (h1, .inr (1, gs))] H := hP
  have hD : va_D A [(h0, .inr (11, fs)), (h1, .inr (1, gs))] := hD
  refine W.widen (k := 0) (n := 0) (Nat.le_of_ble_eq_true rfl) (Nat.le_of_ble_eq_true rfl) ?_
  have e_1 : r_1 = none := hw
  subst e_1
  refine W.eq (g2 := F0 m 8 ls [.null]) rfl ?_
  refine lv_astoreN (lv' := [(4, .null), (0, .ref h0), (1, .ref h2), (2, .int p0), (3, .int p1)]) hx hb dX11_listChanges_8 hl (by decide) rfl (fun ls hl => ?_)
  refine lv_aload_n hx hb dX11_listChanges_10 rfl (lv_at hl 1 rfl) ?_
  refine va_get (D := (dC, dI)) (ci := 11) (v := .ref h1) (C := RX11) (T := TX11) (N := 16) hx hb hts hiX11 hown hK hP 0 rfl rfl 5 (by decide) (hts (.fieldLink RX11 39 "CakePapers" "desk" "LCakePapers$Desk;") (by decide +kernel)) (fun _ h9 => h9) e_fs_5 dX11_listChanges_11 ?_
  refine lv_iload_n hx hb dX11_listChanges_14 rfl (lv_at hl 4 rfl) ?_
  have hPc := hP.sub (ws' := [(h1, .inr (1, gs))]) [1] rfl
  have hDc := hD.sub (ws' := [(h1, .inr (1, gs))]) [1] (by decide) rfl
  have hKc := hK.sub (tys' := []) [] rfl
  have hFc := va_free (wc := [(h1, .inr (1, gs))]) hD hS hA [1] rfl
  refine va_callq (va_runV (As := [.int p1]) (rest := []) ⟨hx, hb, hml, hown, hts⟩ (c_X1_get l dC dI H.size h1 gs hn_gs e_gs_2 p1) (cwV 1 hts g_c_X11_listChanges_c_X1_get_0 rfl rfl rfl (by decide +kernel) ⟨Nat.le_of_ble_eq_true rfl, Nat.le_of_ble_eq_true rfl⟩) ⟨fun a U g mk q => by obtain ⟨q0, q1, qP, qK, qD⟩ := q; exact ⟨q0, q1, qP, va_K.moved (u := U) (U := U.calling g mk a) (Vm.Alike.refl U.vm) qK, qD⟩, va_recv hKc hPc (ci := 1) (q0 := 0) rfl rfl, fun U hU hW => ⟨rfl, by rw [hU], by rw [hU]; exact hPc, va_K.moved hW.alike hKc, hDc.weaken (fun _ _ _ _ => trivial)⟩⟩ rfl rfl hl.1 rfl (lv_room (Nat.le_of_ble_eq_true rfl)) dX11_listChanges_15 ⟨Nat.le_of_ble_eq_true rfl, Nat.le_of_ble_eq_true rfl⟩) hS (fun q _ h => hFc q h) hFc (fun r_2 u t H1 locs ht hvm hw hB hz1 hk1 hS => ?_)
  obtain ⟨hP1, hD1⟩ := hB
  rw [ht] at hP1
  obtain ⟨hP, hD⟩ := va_join (wr := [(h0, .inr (11, fs))]) (w1 := [(h1, .inr (1, gs))]) hP hD [1] [0] rfl rfl (by decide) (by decide) hk1 hFc hP1 hD1
  generalize H1 = H at hP hS ⊢
  have hP : va_P (dC, dI) vwCl [(h0, .inr (11, fs)), (h1, .inr (1, gs))] H := hP
  have hD : va_D A [(h0, .inr (11, fs)), (h1, .inr (1, gs))] := hD
  refine W.widen (k := 0) (n := 0) (Nat.le_of_ble_eq_true rfl) (Nat.le_of_ble_eq_true rfl) ?_
  have e_2 : r_2 = none := hw
  subst e_2
  refine W.eq (g2 := F0 m 18 ls [.null]) rfl ?_
  refine lv_astoreN (lv' := [(5, .null), (4, .null), (0, .ref h0), (1, .ref h2), (2, .int p0), (3, .int p1)]) hx hb dX11_listChanges_18 hl (by decide) rfl (fun ls hl => ?_)
  refine lv_aloadN hx hb dX11_listChanges_20 (lv_at hl 1 rfl) ?_
  refine lv_ifnullN (tgt := 30) hx hb dX11_listChanges_22 (by decide) ?_
  refine lv_iconst (v := 0) hx hb dX11_listChanges_30 (by decide) ?_
  refine W.widen (k := 0) (n := 0) (Nat.le_of_ble_eq_true rfl) (Nat.le_of_ble_eq_true rfl) ?_
  have hP9 := hP.sub (ws' := [(h0, .inr (11, fs)), (h1, .inr (1, gs))]) [0, 1] rfl
  have hD9 := hD.sub (ws' := [(h0, .inr (11, fs)), (h1, .inr (1, gs))]) [0, 1] (by decide) rfl
  exact W.zret (v := 0) hx hb hr (rfl) (fun t ht hW => ⟨⟨0, (), rfl, rfl, by rw [ht]; exact hP9, hD9⟩, hS.F ht⟩) hS.2.2 dX11_listChanges_31
def u_c_X11_changes : List Cond := .code yX11_changes cX11_changes 3 (some .int) :: ([.fieldLink RX11 96 "CakePapers" "changesOfOne" "LCakePapers$Changes;", .code yX11_listChanges cX11_listChanges 6 (some .boolean), .fieldLink RX11 39 "CakePapers" "desk" "LCakePapers$Desk;", .code yX1_get cX1_get 2 (some (.object "CakePapers$Paper")), .fieldLink RX1 24 "CakePapers$Desk" "count" "I", .methodLink RX11 148 yX1_get, .instanceMethod yX1_get, .selects RX1 yX1_get yX1_get, .initialized RX1, .methodLink RX11 201 yX11_listChanges, .instanceMethod yX11_listChanges, .selects RX11 yX11_listChanges yX11_listChanges, .initialized RX11] ++ wsX110 ++ wsX10)
set_option maxRecDepth 20000 in
theorem g_c_X11_changes_c_X11_listChanges_0 : GoodIn u_c_X11_changes (wsV RX11 201 RX11 yX11_listChanges u_c_X11_listChanges) := goodIn_of _ (by decide +kernel)
set_option maxHeartbeats 1000000 in
set_option maxRecDepth 100000 in
theorem c_X11_changes (l : Launch) (dC : Nat → ClassId) (dI : Nat → Nat → Nat) (sz : Nat) (h0 h1 h3 : Nat) (fs : List Value) (hn_fs : fs.length = 16) (e_fs_5 : fs[5]? = some (.ref h1)) (e_fs_12 : fs[12]? = some (.ref h3)) (gs : List Value) (hn_gs : gs.length = 3) (e_gs_2 : gs[2]? = some (.int 0)) (p0 : Int32) (p1 : Int32) : Met l yX11_changes u_c_X11_changes ({ frames := 2, cells := 0, slots := 0, locals := 46 }) (va_Pc [.ref h0, .int p0, .int p1] (fun U => U.heap.size = sz ∧ va_P (dC, dI) vwCl [(h0, .inr (11, fs)), (h1, .inr (1, gs))] U.heap ∧ va_K (dC, dI) vwCl [] U ∧ va_D (fun _ => True) [(h0, .inr (11, fs)), (h1, .inr (1, gs))])) (va_Qi (fun (r : Int32) (_ : Unit) => r = (-1)) (fun _ _ => True) (va_A [(h0, .inr (11, fs)), (h1, .inr (1, gs))] sz)) 0 0 (va_A [(h0, .inr (11, fs)), (h1, .inr (1, gs))] sz) := by
  refine Met.ofW (cc := cX11_changes) (maxL := 3) (ret := (some .int)) (by decide) rfl ?_
  intro p e s m args below meth c s₁ B hml hv
  obtain ⟨rfl, hsz, hP, hK, hD0⟩ := hv
  have hx := B.exec
  have hb := B.bytes
  have hr := B.returns
  have hts := atoms_spec (ws := u_c_X11_changes) B.pre
  have hown : s.vm.findClass RX11 = some m.cls := findClass_of_methodNamed B.named
  have hlocks := B.notSynchronized
  have hiX11 : ∀ w ∈ wsX110, w ∈ u_c_X11_changes := fun w h => List.mem_cons_of_mem _ (List.mem_append_left _ (List.mem_append_right _ h))
  have hiX1 : ∀ w ∈ wsX10, w ∈ u_c_X11_changes := fun w h => List.mem_cons_of_mem _ (List.mem_append_right _ h)
  subst hsz
  have hD := hD0.self (sz := s.heap.size)
  generalize hAe : va_A [(h0, .inr (11, fs)), (h1, .inr (1, gs))] s.heap.size = A at hD ⊢
  have hA : ∀ q : Nat, s.heap.size ≤ q → A q := fun q h => by rw [← hAe]; exact Or.inr h
  have hS : va_S A s.heap s.heap [] := va_S.rf
  obtain ⟨H, hH⟩ : ∃ H : Heap, H = s.heap := ⟨_, rfl⟩
  have hP : va_P (dC, dI) vwCl [(h0, .inr (11, fs)), (h1, .inr (1, gs))] H := by rw [hH]; exact hP
  have hS : va_S A s.heap H [] := by rw [hH]; exact hS
  have hl := lv_entry ([.ref h0, .int p0, .int p1]) (n := 3) (Nat.le_of_ble_eq_true rfl)
  rw [lg_entry_eq]
  generalize (lg_sl ([.ref h0, .int p0, .int p1]) ++ List.replicate (3 - (lg_sl ([.ref h0, .int p0, .int p1])).length) Slot.unset).toArray = ls at hl ⊢
  have hl : lv_has ls 3 [(0, .ref h0), (1, .int p0), (2, .int p1)] := hl
  suffices h9 : W p l e (headSpec u_c_X11_changes _).room s m _ below meth c H [] 0 0 _ (F0 m 0 ls []) by rw [hH] at h9; exact h9
  refine lv_aload_n hx hb dX11_changes_0 rfl (lv_at hl 0 rfl) ?_
  refine lv_aload_n hx hb dX11_changes_1 rfl (lv_at hl 0 rfl) ?_
  refine va_get (D := (dC, dI)) (ci := 11) (v := .ref h3) (C := RX11) (T := TX11) (N := 16) hx hb hts hiX11 hown hK hP 0 rfl rfl 12 (by decide) (hts (.fieldLink RX11 96 "CakePapers" "changesOfOne" "LCakePapers$Changes;") (by decide +kernel)) (fun _ h9 => h9) e_fs_12 dX11_changes_2 ?_
  refine lv_iload_n hx hb dX11_changes_5 rfl (lv_at hl 1 rfl) ?_
  refine lv_iload_n hx hb dX11_changes_6 rfl (lv_at hl 2 rfl) ?_
  have hPc := hP.sub (ws' := [(h0, .inr (11, fs)), (h1, .inr (1, gs))]) [0, 1] rfl
  have hDc := hD.sub (ws' := [(h0, .inr (11, fs)), (h1, .inr (1, gs))]) [0, 1] (by decide) rfl
  have hKc := hK.sub (tys' := []) [] rfl
  have hFc := va_free (wc := [(h0, .inr (11, fs)), (h1, .inr (1, gs))]) hD hS hA [0, 1] rfl
  refine va_calli (va_runV (As := [.ref h3, .int p0, .int p1]) (rest := []) ⟨hx, hb, hml, hown, hts⟩ (c_X11_listChanges l dC dI H.size h0 h3 h1 fs hn_fs e_fs_5 gs hn_gs e_gs_2 p0 p1) (cwV 3 hts g_c_X11_changes_c_X11_listChanges_0 rfl rfl rfl (by decide +kernel) ⟨Nat.le_of_ble_eq_true rfl, Nat.le_of_ble_eq_true rfl⟩) ⟨fun a U g mk q => by obtain ⟨q0, q1, qP, qK, qD⟩ := q; exact ⟨q0, q1, qP, va_K.moved (u := U) (U := U.calling g mk a) (Vm.Alike.refl U.vm) qK, qD⟩, va_recv hKc hPc (ci := 11) (q0 := 0) rfl rfl, fun U hU hW => ⟨rfl, by rw [hU], by rw [hU]; exact hPc, va_K.moved hW.alike hKc, hDc.weaken (fun _ _ _ _ => trivial)⟩⟩ rfl rfl hl.1 rfl (lv_room (Nat.le_of_ble_eq_true rfl)) dX11_changes_7 ⟨Nat.le_of_ble_eq_true rfl, Nat.le_of_ble_eq_true rfl⟩) hS (fun q _ h => hFc q h) hFc (fun r_1 u t H1 locs ht hvm hw hB hz1 hk1 hS => ?_)
  obtain ⟨hP1, hD1⟩ := hB
  rw [ht] at hP1
  obtain ⟨hP, hD⟩ := va_join (wr := []) (w1 := [(h0, .inr (11, fs)), (h1, .inr (1, gs))]) hP hD [0, 1] [] rfl rfl (by decide) (by decide) hk1 hFc hP1 hD1
  generalize H1 = H at hP hS ⊢
  have hP : va_P (dC, dI) vwCl [(h0, .inr (11, fs)), (h1, .inr (1, gs))] H := hP
  have hD : va_D A [(h0, .inr (11, fs)), (h1, .inr (1, gs))] := hD
  refine W.widen (k := 0) (n := 0) (Nat.le_of_ble_eq_true rfl) (Nat.le_of_ble_eq_true rfl) ?_
  refine zz_ci (y := 0) hw ?_
  refine lv_if_eq (tgt := 23) hx hb dX11_changes_10 (by decide) (fun c_2 => ?_) (fun c_2 => absurd c_2 (by decide))
  refine lv_iconst (v := (-1)) hx hb dX11_changes_23 (by decide) ?_
  refine W.widen (k := 0) (n := 0) (Nat.le_of_ble_eq_true rfl) (Nat.le_of_ble_eq_true rfl) ?_
  exact W.iret (v := (-1)) hx hb hr (fun t ht hW => ⟨⟨(-1), (), rfl, rfl, trivial⟩, hS.F ht⟩) hS.2.2 dX11_changes_24
def u_c_X11_change : List Cond := .code yX11_change cX11_change 5 (some .int) :: ([.fieldLink RX11 96 "CakePapers" "changesOfOne" "LCakePapers$Changes;", .code yX11_listChanges cX11_listChanges 6 (some .boolean), .fieldLink RX11 39 "CakePapers" "desk" "LCakePapers$Desk;", .code yX1_get cX1_get 2 (some (.object "CakePapers$Paper")), .fieldLink RX1 24 "CakePapers$Desk" "count" "I", .methodLink RX11 148 yX1_get, .instanceMethod yX1_get, .selects RX1 yX1_get yX1_get, .initialized RX1, .methodLink RX11 201 yX11_listChanges, .instanceMethod yX11_listChanges, .selects RX11 yX11_listChanges yX11_listChanges, .initialized RX11] ++ wsX110 ++ wsX10)
set_option maxRecDepth 20000 in
theorem g_c_X11_change_c_X11_listChanges_0 : GoodIn u_c_X11_change (wsV RX11 201 RX11 yX11_listChanges u_c_X11_listChanges) := goodIn_of _ (by decide +kernel)
set_option maxHeartbeats 1000000 in
set_option maxRecDepth 100000 in
theorem c_X11_change (l : Launch) (dC : Nat → ClassId) (dI : Nat → Nat → Nat) (sz : Nat) (h0 h1 h3 : Nat) (fs : List Value) (hn_fs : fs.length = 16) (e_fs_5 : fs[5]? = some (.ref h1)) (e_fs_12 : fs[12]? = some (.ref h3)) (gs : List Value) (hn_gs : gs.length = 3) (e_gs_2 : gs[2]? = some (.int 0)) (p0 : Int32) (p1 : Int32) (p2 : Int32) (p3 : Int32) : Met l yX11_change u_c_X11_change ({ frames := 2, cells := 0, slots := 0, locals := 46 }) (va_Pc [.ref h0, .int p0, .int p1, .int p2, .int p3] (fun U => U.heap.size = sz ∧ va_P (dC, dI) vwCl [(h0, .inr (11, fs)), (h1, .inr (1, gs))] U.heap ∧ va_K (dC, dI) vwCl [] U ∧ va_D (fun _ => True) [(h0, .inr (11, fs)), (h1, .inr (1, gs))])) (va_Qi (fun (r : Int32) (_ : Unit) => r = (-1)) (fun _ _ => True) (va_A [(h0, .inr (11, fs)), (h1, .inr (1, gs))] sz)) 0 0 (va_A [(h0, .inr (11, fs)), (h1, .inr (1, gs))] sz) := by
  refine Met.ofW (cc := cX11_change) (maxL := 5) (ret := (some .int)) (by decide) rfl ?_
  intro p e s m args below meth c s₁ B hml hv
  obtain ⟨rfl, hsz, hP, hK, hD0⟩ := hv
  have hx := B.exec
  have hb := B.bytes
  have hr := B.returns
  have hts := atoms_spec (ws := u_c_X11_change) B.pre
  have hown : s.vm.findClass RX11 = some m.cls := findClass_of_methodNamed B.named
  have hlocks := B.notSynchronized
  have hiX11 : ∀ w ∈ wsX110, w ∈ u_c_X11_change := fun w h => List.mem_cons_of_mem _ (List.mem_append_left _ (List.mem_append_right _ h))
  have hiX1 : ∀ w ∈ wsX10, w ∈ u_c_X11_change := fun w h => List.mem_cons_of_mem _ (List.mem_append_right _ h)
  subst hsz
  have hD := hD0.self (sz := s.heap.size)
  generalize hAe : va_A [(h0, .inr (11, fs)), (h1, .inr (1, gs))] s.heap.size = A at hD ⊢
  have hA : ∀ q : Nat, s.heap.size ≤ q → A q := fun q h => by rw [← hAe]; exact Or.inr h
  have hS : va_S A s.heap s.heap [] := va_S.rf
  obtain ⟨H, hH⟩ : ∃ H : Heap, H = s.heap := ⟨_, rfl⟩
  have hP : va_P (dC, dI) vwCl [(h0, .inr (11, fs)), (h1, .inr (1, gs))] H := by rw [hH]; exact hP
  have hS : va_S A s.heap H [] := by rw [hH]; exact hS
  have hl := lv_entry ([.ref h0, .int p0, .int p1, .int p2, .int p3]) (n := 5) (Nat.le_of_ble_eq_true rfl)
  rw [lg_entry_eq]
  generalize (lg_sl ([.ref h0, .int p0, .int p1, .int p2, .int p3]) ++ List.replicate (5 - (lg_sl ([.ref h0, .int p0, .int p1, .int p2, .int p3])).length) Slot.unset).toArray = ls at hl ⊢
  have hl : lv_has ls 5 [(0, .ref h0), (1, .int p0), (2, .int p1), (3, .int p2), (4, .int p3)] := hl
  suffices h9 : W p l e (headSpec u_c_X11_change _).room s m _ below meth c H [] 0 0 _ (F0 m 0 ls []) by rw [hH] at h9; exact h9
  refine lv_aload_n hx hb dX11_change_0 rfl (lv_at hl 0 rfl) ?_
  refine lv_aload_n hx hb dX11_change_1 rfl (lv_at hl 0 rfl) ?_
  refine va_get (D := (dC, dI)) (ci := 11) (v := .ref h3) (C := RX11) (T := TX11) (N := 16) hx hb hts hiX11 hown hK hP 0 rfl rfl 12 (by decide) (hts (.fieldLink RX11 96 "CakePapers" "changesOfOne" "LCakePapers$Changes;") (by decide +kernel)) (fun _ h9 => h9) e_fs_12 dX11_change_2 ?_
  refine lv_iload_n hx hb dX11_change_5 rfl (lv_at hl 1 rfl) ?_
  refine lv_iload_n hx hb dX11_change_6 rfl (lv_at hl 2 rfl) ?_
  have hPc := hP.sub (ws' := [(h0, .inr (11, fs)), (h1, .inr (1, gs))]) [0, 1] rfl
  have hDc := hD.sub (ws' := [(h0, .inr (11, fs)), (h1, .inr (1, gs))]) [0, 1] (by decide) rfl
  have hKc := hK.sub (tys' := []) [] rfl
  have hFc := va_free (wc := [(h0, .inr (11, fs)), (h1, .inr (1, gs))]) hD hS hA [0, 1] rfl
  refine va_calli (va_runV (As := [.ref h3, .int p0, .int p1]) (rest := []) ⟨hx, hb, hml, hown, hts⟩ (c_X11_listChanges l dC dI H.size h0 h3 h1 fs hn_fs e_fs_5 gs hn_gs e_gs_2 p0 p1) (cwV 3 hts g_c_X11_change_c_X11_listChanges_0 rfl rfl rfl (by decide +kernel) ⟨Nat.le_of_ble_eq_true rfl, Nat.le_of_ble_eq_true rfl⟩) ⟨fun a U g mk q => by obtain ⟨q0, q1, qP, qK, qD⟩ := q; exact ⟨q0, q1, qP, va_K.moved (u := U) (U := U.calling g mk a) (Vm.Alike.refl U.vm) qK, qD⟩, va_recv hKc hPc (ci := 11) (q0 := 0) rfl rfl, fun U hU hW => ⟨rfl, by rw [hU], by rw [hU]; exact hPc, va_K.moved hW.alike hKc, hDc.weaken (fun _ _ _ _ => trivial)⟩⟩ rfl rfl hl.1 rfl (lv_room (Nat.le_of_ble_eq_true rfl)) dX11_change_7 ⟨Nat.le_of_ble_eq_true rfl, Nat.le_of_ble_eq_true rfl⟩) hS (fun q _ h => hFc q h) hFc (fun r_1 u t H1 locs ht hvm hw hB hz1 hk1 hS => ?_)
  obtain ⟨hP1, hD1⟩ := hB
  rw [ht] at hP1
  obtain ⟨hP, hD⟩ := va_join (wr := []) (w1 := [(h0, .inr (11, fs)), (h1, .inr (1, gs))]) hP hD [0, 1] [] rfl rfl (by decide) (by decide) hk1 hFc hP1 hD1
  generalize H1 = H at hP hS ⊢
  have hP : va_P (dC, dI) vwCl [(h0, .inr (11, fs)), (h1, .inr (1, gs))] H := hP
  have hD : va_D A [(h0, .inr (11, fs)), (h1, .inr (1, gs))] := hD
  refine W.widen (k := 0) (n := 0) (Nat.le_of_ble_eq_true rfl) (Nat.le_of_ble_eq_true rfl) ?_
  refine zz_ci (y := 0) hw ?_
  refine lv_if_eq (tgt := 24) hx hb dX11_change_10 (by decide) (fun c_2 => ?_) (fun c_2 => absurd c_2 (by decide))
  refine lv_iconst (v := (-1)) hx hb dX11_change_24 (by decide) ?_
  refine W.widen (k := 0) (n := 0) (Nat.le_of_ble_eq_true rfl) (Nat.le_of_ble_eq_true rfl) ?_
  exact W.iret (v := (-1)) hx hb hr (fun t ht hW => ⟨⟨(-1), (), rfl, rfl, trivial⟩, hS.F ht⟩) hS.2.2 dX11_change_25
def u_c_X11_does : List Cond := .code yX11_does cX11_does 6 (some .int) :: ([.fieldLink RX11 96 "CakePapers" "changesOfOne" "LCakePapers$Changes;", .code yX11_listChanges cX11_listChanges 6 (some .boolean), .fieldLink RX11 39 "CakePapers" "desk" "LCakePapers$Desk;", .code yX1_get cX1_get 2 (some (.object "CakePapers$Paper")), .fieldLink RX1 24 "CakePapers$Desk" "count" "I", .methodLink RX11 148 yX1_get, .instanceMethod yX1_get, .selects RX1 yX1_get yX1_get, .initialized RX1, .methodLink RX11 201 yX11_listChanges, .instanceMethod yX11_listChanges, .selects RX11 yX11_listChanges yX11_listChanges, .initialized RX11, .constant RX11 224 (-1000000)] ++ wsX110 ++ wsX10)
set_option maxRecDepth 20000 in
theorem g_c_X11_does_c_X11_listChanges_0 : GoodIn u_c_X11_does (wsV RX11 201 RX11 yX11_listChanges u_c_X11_listChanges) := goodIn_of _ (by decide +kernel)
set_option maxHeartbeats 1000000 in
set_option maxRecDepth 100000 in
theorem c_X11_does (l : Launch) (dC : Nat → ClassId) (dI : Nat → Nat → Nat) (sz : Nat) (h0 h1 h3 : Nat) (fs : List Value) (hn_fs : fs.length = 16) (e_fs_5 : fs[5]? = some (.ref h1)) (e_fs_12 : fs[12]? = some (.ref h3)) (gs : List Value) (hn_gs : gs.length = 3) (e_gs_2 : gs[2]? = some (.int 0)) (p0 : Int32) (p1 : Int32) (p2 : Int32) : Met l yX11_does u_c_X11_does ({ frames := 2, cells := 0, slots := 0, locals := 46 }) (va_Pc [.ref h0, .int p0, .int p1, .int p2] (fun U => U.heap.size = sz ∧ va_P (dC, dI) vwCl [(h0, .inr (11, fs)), (h1, .inr (1, gs))] U.heap ∧ va_K (dC, dI) vwCl [] U ∧ va_D (fun _ => True) [(h0, .inr (11, fs)), (h1, .inr (1, gs))])) (va_Qi (fun (r : Int32) (_ : Unit) => r = (-1000000)) (fun _ _ => True) (va_A [(h0, .inr (11, fs)), (h1, .inr (1, gs))] sz)) 0 0 (va_A [(h0, .inr (11, fs)), (h1, .inr (1, gs))] sz) := by
  refine Met.ofW (cc := cX11_does) (maxL := 6) (ret := (some .int)) (by decide) rfl ?_
  intro p e s m args below meth c s₁ B hml hv
  obtain ⟨rfl, hsz, hP, hK, hD0⟩ := hv
  have hx := B.exec
  have hb := B.bytes
  have hr := B.returns
  have hts := atoms_spec (ws := u_c_X11_does) B.pre
  have hown : s.vm.findClass RX11 = some m.cls := findClass_of_methodNamed B.named
  have hlocks := B.notSynchronized
  have hiX11 : ∀ w ∈ wsX110, w ∈ u_c_X11_does := fun w h => List.mem_cons_of_mem _ (List.mem_append_left _ (List.mem_append_right _ h))
  have hiX1 : ∀ w ∈ wsX10, w ∈ u_c_X11_does := fun w h => List.mem_cons_of_mem _ (List.mem_append_right _ h)
  subst hsz
  have hD := hD0.self (sz := s.heap.size)
  generalize hAe : va_A [(h0, .inr (11, fs)), (h1, .inr (1, gs))] s.heap.size = A at hD ⊢
  have hA : ∀ q : Nat, s.heap.size ≤ q → A q := fun q h => by rw [← hAe]; exact Or.inr h
  have hS : va_S A s.heap s.heap [] := va_S.rf
  obtain ⟨H, hH⟩ : ∃ H : Heap, H = s.heap := ⟨_, rfl⟩
  have hP : va_P (dC, dI) vwCl [(h0, .inr (11, fs)), (h1, .inr (1, gs))] H := by rw [hH]; exact hP
  have hS : va_S A s.heap H [] := by rw [hH]; exact hS
  have hl := lv_entry ([.ref h0, .int p0, .int p1, .int p2]) (n := 6) (Nat.le_of_ble_eq_true rfl)
  rw [lg_entry_eq]
  generalize (lg_sl ([.ref h0, .int p0, .int p1, .int p2]) ++ List.replicate (6 - (lg_sl ([.ref h0, .int p0, .int p1, .int p2])).length) Slot.unset).toArray = ls at hl ⊢
  have hl : lv_has ls 6 [(0, .ref h0), (1, .int p0), (2, .int p1), (3, .int p2)] := hl
  suffices h9 : W p l e (headSpec u_c_X11_does _).room s m _ below meth c H [] 0 0 _ (F0 m 0 ls []) by rw [hH] at h9; exact h9
  refine lv_aload_n hx hb dX11_does_0 rfl (lv_at hl 0 rfl) ?_
  refine lv_aload_n hx hb dX11_does_1 rfl (lv_at hl 0 rfl) ?_
  refine va_get (D := (dC, dI)) (ci := 11) (v := .ref h3) (C := RX11) (T := TX11) (N := 16) hx hb hts hiX11 hown hK hP 0 rfl rfl 12 (by decide) (hts (.fieldLink RX11 96 "CakePapers" "changesOfOne" "LCakePapers$Changes;") (by decide +kernel)) (fun _ h9 => h9) e_fs_12 dX11_does_2 ?_
  refine lv_iload_n hx hb dX11_does_5 rfl (lv_at hl 1 rfl) ?_
  refine lv_iload_n hx hb dX11_does_6 rfl (lv_at hl 2 rfl) ?_
  have hPc := hP.sub (ws' := [(h0, .inr (11, fs)), (h1, .inr (1, gs))]) [0, 1] rfl
  have hDc := hD.sub (ws' := [(h0, .inr (11, fs)), (h1, .inr (1, gs))]) [0, 1] (by decide) rfl
  have hKc := hK.sub (tys' := []) [] rfl
  have hFc := va_free (wc := [(h0, .inr (11, fs)), (h1, .inr (1, gs))]) hD hS hA [0, 1] rfl
  refine va_calli (va_runV (As := [.ref h3, .int p0, .int p1]) (rest := []) ⟨hx, hb, hml, hown, hts⟩ (c_X11_listChanges l dC dI H.size h0 h3 h1 fs hn_fs e_fs_5 gs hn_gs e_gs_2 p0 p1) (cwV 3 hts g_c_X11_does_c_X11_listChanges_0 rfl rfl rfl (by decide +kernel) ⟨Nat.le_of_ble_eq_true rfl, Nat.le_of_ble_eq_true rfl⟩) ⟨fun a U g mk q => by obtain ⟨q0, q1, qP, qK, qD⟩ := q; exact ⟨q0, q1, qP, va_K.moved (u := U) (U := U.calling g mk a) (Vm.Alike.refl U.vm) qK, qD⟩, va_recv hKc hPc (ci := 11) (q0 := 0) rfl rfl, fun U hU hW => ⟨rfl, by rw [hU], by rw [hU]; exact hPc, va_K.moved hW.alike hKc, hDc.weaken (fun _ _ _ _ => trivial)⟩⟩ rfl rfl hl.1 rfl (lv_room (Nat.le_of_ble_eq_true rfl)) dX11_does_7 ⟨Nat.le_of_ble_eq_true rfl, Nat.le_of_ble_eq_true rfl⟩) hS (fun q _ h => hFc q h) hFc (fun r_1 u t H1 locs ht hvm hw hB hz1 hk1 hS => ?_)
  obtain ⟨hP1, hD1⟩ := hB
  rw [ht] at hP1
  obtain ⟨hP, hD⟩ := va_join (wr := []) (w1 := [(h0, .inr (11, fs)), (h1, .inr (1, gs))]) hP hD [0, 1] [] rfl rfl (by decide) (by decide) hk1 hFc hP1 hD1
  generalize H1 = H at hP hS ⊢
  have hP : va_P (dC, dI) vwCl [(h0, .inr (11, fs)), (h1, .inr (1, gs))] H := hP
  have hD : va_D A [(h0, .inr (11, fs)), (h1, .inr (1, gs))] := hD
  refine W.widen (k := 0) (n := 0) (Nat.le_of_ble_eq_true rfl) (Nat.le_of_ble_eq_true rfl) ?_
  refine zz_ci (y := 0) hw ?_
  refine lv_if_ne (tgt := 16) hx hb dX11_does_10 (by decide) (fun c_2 => absurd c_2 (by decide)) (fun c_2 => ?_)
  refine lv_ldc (v := (-1000000)) hx hb hown (hts (.constant RX11 224 (-1000000)) (by decide +kernel)) dX11_does_13 ?_
  refine W.widen (k := 0) (n := 0) (Nat.le_of_ble_eq_true rfl) (Nat.le_of_ble_eq_true rfl) ?_
  exact W.iret (v := (-1000000)) hx hb hr (fun t ht hW => ⟨⟨(-1000000), (), rfl, rfl, trivial⟩, hS.F ht⟩) hS.2.2 dX11_does_15
def u_c_X11_ruin : List Cond := .code yX11_ruin cX11_ruin 9 (some .int) :: ([.fieldLink RX11 96 "CakePapers" "changesOfOne" "LCakePapers$Changes;", .code yX11_listChanges cX11_listChanges 6 (some .boolean), .fieldLink RX11 39 "CakePapers" "desk" "LCakePapers$Desk;", .code yX1_get cX1_get 2 (some (.object "CakePapers$Paper")), .fieldLink RX1 24 "CakePapers$Desk" "count" "I", .methodLink RX11 148 yX1_get, .instanceMethod yX1_get, .selects RX1 yX1_get yX1_get, .initialized RX1, .methodLink RX11 201 yX11_listChanges, .instanceMethod yX11_listChanges, .selects RX11 yX11_listChanges yX11_listChanges, .initialized RX11] ++ wsX110 ++ wsX10)
set_option maxRecDepth 20000 in
theorem g_c_X11_ruin_c_X11_listChanges_0 : GoodIn u_c_X11_ruin (wsV RX11 201 RX11 yX11_listChanges u_c_X11_listChanges) := goodIn_of _ (by decide +kernel)
set_option maxHeartbeats 1000000 in
set_option maxRecDepth 100000 in
theorem c_X11_ruin (l : Launch) (dC : Nat → ClassId) (dI : Nat → Nat → Nat) (sz : Nat) (h0 h1 h3 : Nat) (fs : List Value) (hn_fs : fs.length = 16) (e_fs_5 : fs[5]? = some (.ref h1)) (e_fs_12 : fs[12]? = some (.ref h3)) (gs : List Value) (hn_gs : gs.length = 3) (e_gs_2 : gs[2]? = some (.int 0)) (p0 : Int32) (p1 : Int32) (p2 : Int32) (p3 : Int32) : Met l yX11_ruin u_c_X11_ruin ({ frames := 2, cells := 0, slots := 0, locals := 46 }) (va_Pc [.ref h0, .int p0, .int p1, .int p2, .int p3] (fun U => U.heap.size = sz ∧ va_P (dC, dI) vwCl [(h0, .inr (11, fs)), (h1, .inr (1, gs))] U.heap ∧ va_K (dC, dI) vwCl [] U ∧ va_D (fun _ => True) [(h0, .inr (11, fs)), (h1, .inr (1, gs))])) (va_Qi (fun (r : Int32) (_ : Unit) => r = (-1)) (fun _ _ => True) (va_A [(h0, .inr (11, fs)), (h1, .inr (1, gs))] sz)) 0 0 (va_A [(h0, .inr (11, fs)), (h1, .inr (1, gs))] sz) := by
  refine Met.ofW (cc := cX11_ruin) (maxL := 9) (ret := (some .int)) (by decide) rfl ?_
  intro p e s m args below meth c s₁ B hml hv
  obtain ⟨rfl, hsz, hP, hK, hD0⟩ := hv
  have hx := B.exec
  have hb := B.bytes
  have hr := B.returns
  have hts := atoms_spec (ws := u_c_X11_ruin) B.pre
  have hown : s.vm.findClass RX11 = some m.cls := findClass_of_methodNamed B.named
  have hlocks := B.notSynchronized
  have hiX11 : ∀ w ∈ wsX110, w ∈ u_c_X11_ruin := fun w h => List.mem_cons_of_mem _ (List.mem_append_left _ (List.mem_append_right _ h))
  have hiX1 : ∀ w ∈ wsX10, w ∈ u_c_X11_ruin := fun w h => List.mem_cons_of_mem _ (List.mem_append_right _ h)
  subst hsz
  have hD := hD0.self (sz := s.heap.size)
  generalize hAe : va_A [(h0, .inr (11, fs)), (h1, .inr (1, gs))] s.heap.size = A at hD ⊢
  have hA : ∀ q : Nat, s.heap.size ≤ q → A q := fun q h => by rw [← hAe]; exact Or.inr h
  have hS : va_S A s.heap s.heap [] := va_S.rf
  obtain ⟨H, hH⟩ : ∃ H : Heap, H = s.heap := ⟨_, rfl⟩
  have hP : va_P (dC, dI) vwCl [(h0, .inr (11, fs)), (h1, .inr (1, gs))] H := by rw [hH]; exact hP
  have hS : va_S A s.heap H [] := by rw [hH]; exact hS
  have hl := lv_entry ([.ref h0, .int p0, .int p1, .int p2, .int p3]) (n := 9) (Nat.le_of_ble_eq_true rfl)
  rw [lg_entry_eq]
  generalize (lg_sl ([.ref h0, .int p0, .int p1, .int p2, .int p3]) ++ List.replicate (9 - (lg_sl ([.ref h0, .int p0, .int p1, .int p2, .int p3])).length) Slot.unset).toArray = ls at hl ⊢
  have hl : lv_has ls 9 [(0, .ref h0), (1, .int p0), (2, .int p1), (3, .int p2), (4, .int p3)] := hl
  suffices h9 : W p l e (headSpec u_c_X11_ruin _).room s m _ below meth c H [] 0 0 _ (F0 m 0 ls []) by rw [hH] at h9; exact h9
  refine lv_aload_n hx hb dX11_ruin_0 rfl (lv_at hl 0 rfl) ?_
  refine lv_aload_n hx hb dX11_ruin_1 rfl (lv_at hl 0 rfl) ?_
  refine va_get (D := (dC, dI)) (ci := 11) (v := .ref h3) (C := RX11) (T := TX11) (N := 16) hx hb hts hiX11 hown hK hP 0 rfl rfl 12 (by decide) (hts (.fieldLink RX11 96 "CakePapers" "changesOfOne" "LCakePapers$Changes;") (by decide +kernel)) (fun _ h9 => h9) e_fs_12 dX11_ruin_2 ?_
  refine lv_iload_n hx hb dX11_ruin_5 rfl (lv_at hl 1 rfl) ?_
  refine lv_iload_n hx hb dX11_ruin_6 rfl (lv_at hl 2 rfl) ?_
  have hPc := hP.sub (ws' := [(h0, .inr (11, fs)), (h1, .inr (1, gs))]) [0, 1] rfl
  have hDc := hD.sub (ws' := [(h0, .inr (11, fs)), (h1, .inr (1, gs))]) [0, 1] (by decide) rfl
  have hKc := hK.sub (tys' := []) [] rfl
  have hFc := va_free (wc := [(h0, .inr (11, fs)), (h1, .inr (1, gs))]) hD hS hA [0, 1] rfl
  refine va_calli (va_runV (As := [.ref h3, .int p0, .int p1]) (rest := []) ⟨hx, hb, hml, hown, hts⟩ (c_X11_listChanges l dC dI H.size h0 h3 h1 fs hn_fs e_fs_5 gs hn_gs e_gs_2 p0 p1) (cwV 3 hts g_c_X11_ruin_c_X11_listChanges_0 rfl rfl rfl (by decide +kernel) ⟨Nat.le_of_ble_eq_true rfl, Nat.le_of_ble_eq_true rfl⟩) ⟨fun a U g mk q => by obtain ⟨q0, q1, qP, qK, qD⟩ := q; exact ⟨q0, q1, qP, va_K.moved (u := U) (U := U.calling g mk a) (Vm.Alike.refl U.vm) qK, qD⟩, va_recv hKc hPc (ci := 11) (q0 := 0) rfl rfl, fun U hU hW => ⟨rfl, by rw [hU], by rw [hU]; exact hPc, va_K.moved hW.alike hKc, hDc.weaken (fun _ _ _ _ => trivial)⟩⟩ rfl rfl hl.1 rfl (lv_room (Nat.le_of_ble_eq_true rfl)) dX11_ruin_7 ⟨Nat.le_of_ble_eq_true rfl, Nat.le_of_ble_eq_true rfl⟩) hS (fun q _ h => hFc q h) hFc (fun r_1 u t H1 locs ht hvm hw hB hz1 hk1 hS => ?_)
  obtain ⟨hP1, hD1⟩ := hB
  rw [ht] at hP1
  obtain ⟨hP, hD⟩ := va_join (wr := []) (w1 := [(h0, .inr (11, fs)), (h1, .inr (1, gs))]) hP hD [0, 1] [] rfl rfl (by decide) (by decide) hk1 hFc hP1 hD1
  generalize H1 = H at hP hS ⊢
  have hP : va_P (dC, dI) vwCl [(h0, .inr (11, fs)), (h1, .inr (1, gs))] H := hP
  have hD : va_D A [(h0, .inr (11, fs)), (h1, .inr (1, gs))] := hD
  refine W.widen (k := 0) (n := 0) (Nat.le_of_ble_eq_true rfl) (Nat.le_of_ble_eq_true rfl) ?_
  refine zz_ci (y := 0) hw ?_
  refine lv_if_eq (tgt := 26) hx hb dX11_ruin_10 (by decide) (fun c_2 => ?_) (fun c_2 => absurd c_2 (by decide))
  refine lv_iconst (v := (-1)) hx hb dX11_ruin_26 (by decide) ?_
  refine W.widen (k := 0) (n := 0) (Nat.le_of_ble_eq_true rfl) (Nat.le_of_ble_eq_true rfl) ?_
  exact W.iret (v := (-1)) hx hb hr (fun t ht hW => ⟨⟨(-1), (), rfl, rfl, trivial⟩, hS.F ht⟩) hS.2.2 dX11_ruin_27
def u_c_X11_leans : List Cond := .code yX11_leans cX11_leans 7 (some .int) :: ([.fieldLink RX11 96 "CakePapers" "changesOfOne" "LCakePapers$Changes;", .code yX11_listChanges cX11_listChanges 6 (some .boolean), .fieldLink RX11 39 "CakePapers" "desk" "LCakePapers$Desk;", .code yX1_get cX1_get 2 (some (.object "CakePapers$Paper")), .fieldLink RX1 24 "CakePapers$Desk" "count" "I", .methodLink RX11 148 yX1_get, .instanceMethod yX1_get, .selects RX1 yX1_get yX1_get, .initialized RX1, .methodLink RX11 201 yX11_listChanges, .instanceMethod yX11_listChanges, .selects RX11 yX11_listChanges yX11_listChanges, .initialized RX11] ++ wsX110 ++ wsX10)
set_option maxRecDepth 20000 in
theorem g_c_X11_leans_c_X11_listChanges_0 : GoodIn u_c_X11_leans (wsV RX11 201 RX11 yX11_listChanges u_c_X11_listChanges) := goodIn_of _ (by decide +kernel)
set_option maxHeartbeats 1000000 in
set_option maxRecDepth 100000 in
theorem c_X11_leans (l : Launch) (dC : Nat → ClassId) (dI : Nat → Nat → Nat) (sz : Nat) (h0 h1 h3 : Nat) (fs : List Value) (hn_fs : fs.length = 16) (e_fs_5 : fs[5]? = some (.ref h1)) (e_fs_12 : fs[12]? = some (.ref h3)) (gs : List Value) (hn_gs : gs.length = 3) (e_gs_2 : gs[2]? = some (.int 0)) (p0 : Int32) (p1 : Int32) (p2 : Int32) : Met l yX11_leans u_c_X11_leans ({ frames := 2, cells := 0, slots := 0, locals := 46 }) (va_Pc [.ref h0, .int p0, .int p1, .int p2] (fun U => U.heap.size = sz ∧ va_P (dC, dI) vwCl [(h0, .inr (11, fs)), (h1, .inr (1, gs))] U.heap ∧ va_K (dC, dI) vwCl [] U ∧ va_D (fun _ => True) [(h0, .inr (11, fs)), (h1, .inr (1, gs))])) (va_Qi (fun (r : Int32) (_ : Unit) => r = (-1)) (fun _ _ => True) (va_A [(h0, .inr (11, fs)), (h1, .inr (1, gs))] sz)) 0 0 (va_A [(h0, .inr (11, fs)), (h1, .inr (1, gs))] sz) := by
  refine Met.ofW (cc := cX11_leans) (maxL := 7) (ret := (some .int)) (by decide) rfl ?_
  intro p e s m args below meth c s₁ B hml hv
  obtain ⟨rfl, hsz, hP, hK, hD0⟩ := hv
  have hx := B.exec
  have hb := B.bytes
  have hr := B.returns
  have hts := atoms_spec (ws := u_c_X11_leans) B.pre
  have hown : s.vm.findClass RX11 = some m.cls := findClass_of_methodNamed B.named
  have hlocks := B.notSynchronized
  have hiX11 : ∀ w ∈ wsX110, w ∈ u_c_X11_leans := fun w h => List.mem_cons_of_mem _ (List.mem_append_left _ (List.mem_append_right _ h))
  have hiX1 : ∀ w ∈ wsX10, w ∈ u_c_X11_leans := fun w h => List.mem_cons_of_mem _ (List.mem_append_right _ h)
  subst hsz
  have hD := hD0.self (sz := s.heap.size)
  generalize hAe : va_A [(h0, .inr (11, fs)), (h1, .inr (1, gs))] s.heap.size = A at hD ⊢
  have hA : ∀ q : Nat, s.heap.size ≤ q → A q := fun q h => by rw [← hAe]; exact Or.inr h
  have hS : va_S A s.heap s.heap [] := va_S.rf
  obtain ⟨H, hH⟩ : ∃ H : Heap, H = s.heap := ⟨_, rfl⟩
  have hP : va_P (dC, dI) vwCl [(h0, .inr (11, fs)), (h1, .inr (1, gs))] H := by rw [hH]; exact hP
  have hS : va_S A s.heap H [] := by rw [hH]; exact hS
  have hl := lv_entry ([.ref h0, .int p0, .int p1, .int p2]) (n := 7) (Nat.le_of_ble_eq_true rfl)
  rw [lg_entry_eq]
  generalize (lg_sl ([.ref h0, .int p0, .int p1, .int p2]) ++ List.replicate (7 - (lg_sl ([.ref h0, .int p0, .int p1, .int p2])).length) Slot.unset).toArray = ls at hl ⊢
  have hl : lv_has ls 7 [(0, .ref h0), (1, .int p0), (2, .int p1), (3, .int p2)] := hl
  suffices h9 : W p l e (headSpec u_c_X11_leans _).room s m _ below meth c H [] 0 0 _ (F0 m 0 ls []) by rw [hH] at h9; exact h9
  refine lv_aload_n hx hb dX11_leans_0 rfl (lv_at hl 0 rfl) ?_
  refine lv_aload_n hx hb dX11_leans_1 rfl (lv_at hl 0 rfl) ?_
  refine va_get (D := (dC, dI)) (ci := 11) (v := .ref h3) (C := RX11) (T := TX11) (N := 16) hx hb hts hiX11 hown hK hP 0 rfl rfl 12 (by decide) (hts (.fieldLink RX11 96 "CakePapers" "changesOfOne" "LCakePapers$Changes;") (by decide +kernel)) (fun _ h9 => h9) e_fs_12 dX11_leans_2 ?_
  refine lv_iload_n hx hb dX11_leans_5 rfl (lv_at hl 1 rfl) ?_
  refine lv_iload_n hx hb dX11_leans_6 rfl (lv_at hl 2 rfl) ?_
  have hPc := hP.sub (ws' := [(h0, .inr (11, fs)), (h1, .inr (1, gs))]) [0, 1] rfl
  have hDc := hD.sub (ws' := [(h0, .inr (11, fs)), (h1, .inr (1, gs))]) [0, 1] (by decide) rfl
  have hKc := hK.sub (tys' := []) [] rfl
  have hFc := va_free (wc := [(h0, .inr (11, fs)), (h1, .inr (1, gs))]) hD hS hA [0, 1] rfl
  refine va_calli (va_runV (As := [.ref h3, .int p0, .int p1]) (rest := []) ⟨hx, hb, hml, hown, hts⟩ (c_X11_listChanges l dC dI H.size h0 h3 h1 fs hn_fs e_fs_5 gs hn_gs e_gs_2 p0 p1) (cwV 3 hts g_c_X11_leans_c_X11_listChanges_0 rfl rfl rfl (by decide +kernel) ⟨Nat.le_of_ble_eq_true rfl, Nat.le_of_ble_eq_true rfl⟩) ⟨fun a U g mk q => by obtain ⟨q0, q1, qP, qK, qD⟩ := q; exact ⟨q0, q1, qP, va_K.moved (u := U) (U := U.calling g mk a) (Vm.Alike.refl U.vm) qK, qD⟩, va_recv hKc hPc (ci := 11) (q0 := 0) rfl rfl, fun U hU hW => ⟨rfl, by rw [hU], by rw [hU]; exact hPc, va_K.moved hW.alike hKc, hDc.weaken (fun _ _ _ _ => trivial)⟩⟩ rfl rfl hl.1 rfl (lv_room (Nat.le_of_ble_eq_true rfl)) dX11_leans_7 ⟨Nat.le_of_ble_eq_true rfl, Nat.le_of_ble_eq_true rfl⟩) hS (fun q _ h => hFc q h) hFc (fun r_1 u t H1 locs ht hvm hw hB hz1 hk1 hS => ?_)
  obtain ⟨hP1, hD1⟩ := hB
  rw [ht] at hP1
  obtain ⟨hP, hD⟩ := va_join (wr := []) (w1 := [(h0, .inr (11, fs)), (h1, .inr (1, gs))]) hP hD [0, 1] [] rfl rfl (by decide) (by decide) hk1 hFc hP1 hD1
  generalize H1 = H at hP hS ⊢
  have hP : va_P (dC, dI) vwCl [(h0, .inr (11, fs)), (h1, .inr (1, gs))] H := hP
  have hD : va_D A [(h0, .inr (11, fs)), (h1, .inr (1, gs))] := hD
  refine W.widen (k := 0) (n := 0) (Nat.le_of_ble_eq_true rfl) (Nat.le_of_ble_eq_true rfl) ?_
  refine zz_ci (y := 0) hw ?_
  refine lv_if_eq (tgt := 24) hx hb dX11_leans_10 (by decide) (fun c_2 => ?_) (fun c_2 => absurd c_2 (by decide))
  refine lv_iconst (v := (-1)) hx hb dX11_leans_24 (by decide) ?_
  refine W.widen (k := 0) (n := 0) (Nat.le_of_ble_eq_true rfl) (Nat.le_of_ble_eq_true rfl) ?_
  exact W.iret (v := (-1)) hx hb hr (fun t ht hW => ⟨⟨(-1), (), rfl, rfl, trivial⟩, hS.F ht⟩) hS.2.2 dX11_leans_25
def u_c_X11_quarrel : List Cond := .code yX11_quarrel cX11_quarrel 4 (some .int) :: ([.fieldLink RX11 39 "CakePapers" "desk" "LCakePapers$Desk;", .fieldLink RX11 251 "CakePapers$Desk" "joining" "LCakePapers$Joining;", .code yX4_hasQuarrel cX4_hasQuarrel 2 (some .boolean), .fieldLink RX4 48 "CakePapers$Joining" "quarrels" "I", .methodLink RX11 264 yX4_hasQuarrel, .instanceMethod yX4_hasQuarrel, .selects RX4 yX4_hasQuarrel yX4_hasQuarrel, .initialized RX4] ++ wsX110 ++ wsX10 ++ wsX40)
set_option maxRecDepth 20000 in
theorem g_c_X11_quarrel_c_X4_hasQuarrel_0 : GoodIn u_c_X11_quarrel (wsV RX11 264 RX4 yX4_hasQuarrel u_c_X4_hasQuarrel) := goodIn_of _ (by decide +kernel)
set_option maxHeartbeats 1000000 in
set_option maxRecDepth 100000 in
theorem c_X11_quarrel (l : Launch) (dC : Nat → ClassId) (dI : Nat → Nat → Nat) (sz : Nat) (h0 h1 h2 : Nat) (fs : List Value) (hn_fs : fs.length = 16) (e_fs_5 : fs[5]? = some (.ref h1)) (gs : List Value) (hn_gs : gs.length = 3) (e_gs_1 : gs[1]? = some (.ref h2)) (e_gs_2 : gs[2]? = some (.int 0)) (js : List Value) (hn_js : js.length = 13) (e_js_0 : js[0]? = some .null) (e_js_12 : js[12]? = some (.int 0)) (p0 : Int32) (p1 : Int32) : Met l yX11_quarrel u_c_X11_quarrel ({ frames := 1, cells := 0, slots := 0, locals := 21 }) (va_Pc [.ref h0, .int p0, .int p1] (fun U => U.heap.size = sz ∧ va_P (dC, dI) vwCl [(h0, .inr (11, fs)), (h1, .inr (1, gs)), (h2, .inr (4, js))] U.heap ∧ va_K (dC, dI) vwCl [] U ∧ va_D (fun _ => True) [(h0, .inr (11, fs)), (h1, .inr (1, gs)), (h2, .inr (4, js))])) (va_Qi (fun (r : Int32) (_ : Unit) => r = (-1)) (fun _ _ => True) (va_A [(h0, .inr (11, fs)), (h1, .inr (1, gs)), (h2, .inr (4, js))] sz)) 0 0 (va_A [(h0, .inr (11, fs)), (h1, .inr (1, gs)), (h2, .inr (4, js))] sz) := by
  refine Met.ofW (cc := cX11_quarrel) (maxL := 4) (ret := (some .int)) (by decide) rfl ?_
  intro p e s m args below meth c s₁ B hml hv
  obtain ⟨rfl, hsz, hP, hK, hD0⟩ := hv
  have hx := B.exec
  have hb := B.bytes
  have hr := B.returns
  have hts := atoms_spec (ws := u_c_X11_quarrel) B.pre
  have hown : s.vm.findClass RX11 = some m.cls := findClass_of_methodNamed B.named
  have hlocks := B.notSynchronized
  have hiX11 : ∀ w ∈ wsX110, w ∈ u_c_X11_quarrel := fun w h => List.mem_cons_of_mem _ (List.mem_append_left _ (List.mem_append_left _ (List.mem_append_right _ h)))
  have hiX1 : ∀ w ∈ wsX10, w ∈ u_c_X11_quarrel := fun w h => List.mem_cons_of_mem _ (List.mem_append_left _ (List.mem_append_right _ h))
  have hiX4 : ∀ w ∈ wsX40, w ∈ u_c_X11_quarrel := fun w h => List.mem_cons_of_mem _ (List.mem_append_right _ h)
  subst hsz
  have hD := hD0.self (sz := s.heap.size)
  generalize hAe : va_A [(h0, .inr (11, fs)), (h1, .inr (1, gs)), (h2, .inr (4, js))] s.heap.size = A at hD ⊢
  have hA : ∀ q : Nat, s.heap.size ≤ q → A q := fun q h => by rw [← hAe]; exact Or.inr h
  have hS : va_S A s.heap s.heap [] := va_S.rf
  obtain ⟨H, hH⟩ : ∃ H : Heap, H = s.heap := ⟨_, rfl⟩
  have hP : va_P (dC, dI) vwCl [(h0, .inr (11, fs)), (h1, .inr (1, gs)), (h2, .inr (4, js))] H := by rw [hH]; exact hP
  have hS : va_S A s.heap H [] := by rw [hH]; exact hS
  have hl := lv_entry ([.ref h0, .int p0, .int p1]) (n := 4) (Nat.le_of_ble_eq_true rfl)
  rw [lg_entry_eq]
  generalize (lg_sl ([.ref h0, .int p0, .int p1]) ++ List.replicate (4 - (lg_sl ([.ref h0, .int p0, .int p1])).length) Slot.unset).toArray = ls at hl ⊢
  have hl : lv_has ls 4 [(0, .ref h0), (1, .int p0), (2, .int p1)] := hl
  suffices h9 : W p l e (headSpec u_c_X11_quarrel _).room s m _ below meth c H [] 0 0 _ (F0 m 0 ls []) by rw [hH] at h9; exact h9
  refine lv_aload_n hx hb dX11_quarrel_0 rfl (lv_at hl 0 rfl) ?_
  refine va_get (D := (dC, dI)) (ci := 11) (v := .ref h1) (C := RX11) (T := TX11) (N := 16) hx hb hts hiX11 hown hK hP 0 rfl rfl 5 (by decide) (hts (.fieldLink RX11 39 "CakePapers" "desk" "LCakePapers$Desk;") (by decide +kernel)) (fun _ h9 => h9) e_fs_5 dX11_quarrel_1 ?_
  refine va_get (D := (dC, dI)) (ci := 1) (v := .ref h2) (C := RX1) (T := TX1) (N := 3) hx hb hts hiX1 hown hK hP 1 rfl rfl 1 (by decide) (hts (.fieldLink RX11 251 "CakePapers$Desk" "joining" "LCakePapers$Joining;") (by decide +kernel)) (fun _ h9 => h9) e_gs_1 dX11_quarrel_4 ?_
  refine lv_astore_n (lv' := [(3, .ref h2), (0, .ref h0), (1, .int p0), (2, .int p1)]) hx hb dX11_quarrel_7 rfl hl (by decide) rfl (fun ls hl => ?_)
  refine lv_aload_n hx hb dX11_quarrel_8 rfl (lv_at hl 0 rfl) ?_
  refine lv_iload_n hx hb dX11_quarrel_9 rfl (lv_at hl 2 rfl) ?_
  have hPc := hP.sub (ws' := [(h2, .inr (4, js))]) [2] rfl
  have hDc := hD.sub (ws' := [(h2, .inr (4, js))]) [2] (by decide) rfl
  have hKc := hK.sub (tys' := []) [] rfl
  have hFc := va_free (wc := [(h2, .inr (4, js))]) hD hS hA [2] rfl
  refine va_calli (va_runV (As := [.int p0]) (rest := []) ⟨hx, hb, hml, hown, hts⟩ (c_X4_hasQuarrel l dC dI H.size h2 js hn_js e_js_12 p0) (cwV 1 hts g_c_X11_quarrel_c_X4_hasQuarrel_0 rfl rfl rfl (by decide +kernel) ⟨Nat.le_of_ble_eq_true rfl, Nat.le_of_ble_eq_true rfl⟩) ⟨fun a U g mk q => by obtain ⟨q0, q1, qP, qK, qD⟩ := q; exact ⟨q0, q1, qP, va_K.moved (u := U) (U := U.calling g mk a) (Vm.Alike.refl U.vm) qK, qD⟩, va_recv hKc hPc (ci := 4) (q0 := 0) rfl rfl, fun U hU hW => ⟨rfl, by rw [hU], by rw [hU]; exact hPc, va_K.moved hW.alike hKc, hDc.weaken (fun _ _ _ _ => trivial)⟩⟩ rfl rfl hl.1 rfl (lv_room (Nat.le_of_ble_eq_true rfl)) dX11_quarrel_10 ⟨Nat.le_of_ble_eq_true rfl, Nat.le_of_ble_eq_true rfl⟩) hS (fun q _ h => hFc q h) hFc (fun r_1 u t H1 locs ht hvm hw hB hz1 hk1 hS => ?_)
  obtain ⟨hP1, hD1⟩ := hB
  rw [ht] at hP1
  obtain ⟨hP, hD⟩ := va_join (wr := [(h0, .inr (11, fs)), (h1, .inr (1, gs))]) (w1 := [(h2, .inr (4, js))]) hP hD [2] [0, 1] rfl rfl (by decide) (by decide) hk1 hFc hP1 hD1
  generalize H1 = H at hP hS ⊢
  have hP : va_P (dC, dI) vwCl [(h0, .inr (11, fs)), (h1, .inr (1, gs)), (h2, .inr (4, js))] H := hP
  have hD : va_D A [(h0, .inr (11, fs)), (h1, .inr (1, gs)), (h2, .inr (4, js))] := hD
  refine W.widen (k := 0) (n := 0) (Nat.le_of_ble_eq_true rfl) (Nat.le_of_ble_eq_true rfl) ?_
  refine zz_ci (y := 0) hw ?_
  refine lv_if_ne (tgt := 18) hx hb dX11_quarrel_13 (by decide) (fun c_2 => absurd c_2 (by decide)) (fun c_2 => ?_)
  refine lv_iconst (v := (-1)) hx hb dX11_quarrel_16 (by decide) ?_
  refine W.widen (k := 0) (n := 0) (Nat.le_of_ble_eq_true rfl) (Nat.le_of_ble_eq_true rfl) ?_
  exact W.iret (v := (-1)) hx hb hr (fun t ht hW => ⟨⟨(-1), (), rfl, rfl, trivial⟩, hS.F ht⟩) hS.2.2 dX11_quarrel_17
def u_c_X11_settle : List Cond := .code yX11_settle cX11_settle 3 (some .boolean) :: ([.fieldLink RX11 39 "CakePapers" "desk" "LCakePapers$Desk;", .fieldLink RX11 251 "CakePapers$Desk" "joining" "LCakePapers$Joining;", .code yX4_hasQuarrel cX4_hasQuarrel 2 (some .boolean), .fieldLink RX4 48 "CakePapers$Joining" "quarrels" "I", .methodLink RX11 264 yX4_hasQuarrel, .instanceMethod yX4_hasQuarrel, .selects RX4 yX4_hasQuarrel yX4_hasQuarrel, .initialized RX4] ++ wsX110 ++ wsX10 ++ wsX40)
set_option maxRecDepth 20000 in
theorem g_c_X11_settle_c_X4_hasQuarrel_0 : GoodIn u_c_X11_settle (wsV RX11 264 RX4 yX4_hasQuarrel u_c_X4_hasQuarrel) := goodIn_of _ (by decide +kernel)
set_option maxHeartbeats 1000000 in
set_option maxRecDepth 100000 in
theorem c_X11_settle (l : Launch) (dC : Nat → ClassId) (dI : Nat → Nat → Nat) (sz : Nat) (h0 h1 h2 : Nat) (fs : List Value) (hn_fs : fs.length = 16) (e_fs_5 : fs[5]? = some (.ref h1)) (gs : List Value) (hn_gs : gs.length = 3) (e_gs_1 : gs[1]? = some (.ref h2)) (e_gs_2 : gs[2]? = some (.int 0)) (js : List Value) (hn_js : js.length = 13) (e_js_0 : js[0]? = some .null) (e_js_12 : js[12]? = some (.int 0)) (p0 : Int32) (p1 : Int32) : Met l yX11_settle u_c_X11_settle ({ frames := 1, cells := 0, slots := 0, locals := 21 }) (va_Pc [.ref h0, .int p0, .int p1] (fun U => U.heap.size = sz ∧ va_P (dC, dI) vwCl [(h0, .inr (11, fs)), (h1, .inr (1, gs)), (h2, .inr (4, js))] U.heap ∧ va_K (dC, dI) vwCl [] U ∧ va_D (fun _ => True) [(h0, .inr (11, fs)), (h1, .inr (1, gs)), (h2, .inr (4, js))])) (va_Qi (fun (r : Int32) (_ : Unit) => r = 0) (fun _ _ => True) (va_A [(h0, .inr (11, fs)), (h1, .inr (1, gs)), (h2, .inr (4, js))] sz)) 0 0 (va_A [(h0, .inr (11, fs)), (h1, .inr (1, gs)), (h2, .inr (4, js))] sz) := by
  refine Met.ofW (cc := cX11_settle) (maxL := 3) (ret := (some .boolean)) (by decide) rfl ?_
  intro p e s m args below meth c s₁ B hml hv
  obtain ⟨rfl, hsz, hP, hK, hD0⟩ := hv
  have hx := B.exec
  have hb := B.bytes
  have hr := B.returns
  have hts := atoms_spec (ws := u_c_X11_settle) B.pre
  have hown : s.vm.findClass RX11 = some m.cls := findClass_of_methodNamed B.named
  have hlocks := B.notSynchronized
  have hiX11 : ∀ w ∈ wsX110, w ∈ u_c_X11_settle := fun w h => List.mem_cons_of_mem _ (List.mem_append_left _ (List.mem_append_left _ (List.mem_append_right _ h)))
  have hiX1 : ∀ w ∈ wsX10, w ∈ u_c_X11_settle := fun w h => List.mem_cons_of_mem _ (List.mem_append_left _ (List.mem_append_right _ h))
  have hiX4 : ∀ w ∈ wsX40, w ∈ u_c_X11_settle := fun w h => List.mem_cons_of_mem _ (List.mem_append_right _ h)
  subst hsz
  have hD := hD0.self (sz := s.heap.size)
  generalize hAe : va_A [(h0, .inr (11, fs)), (h1, .inr (1, gs)), (h2, .inr (4, js))] s.heap.size = A at hD ⊢
  have hA : ∀ q : Nat, s.heap.size ≤ q → A q := fun q h => by rw [← hAe]; exact Or.inr h
  have hS : va_S A s.heap s.heap [] := va_S.rf
  obtain ⟨H, hH⟩ : ∃ H : Heap, H = s.heap := ⟨_, rfl⟩
  have hP : va_P (dC, dI) vwCl [(h0, .inr (11, fs)), (h1, .inr (1, gs)), (h2, .inr (4, js))] H := by rw [hH]; exact hP
  have hS : va_S A s.heap H [] := by rw [hH]; exact hS
  have hl := lv_entry ([.ref h0, .int p0, .int p1]) (n := 3) (Nat.le_of_ble_eq_true rfl)
  rw [lg_entry_eq]
  generalize (lg_sl ([.ref h0, .int p0, .int p1]) ++ List.replicate (3 - (lg_sl ([.ref h0, .int p0, .int p1])).length) Slot.unset).toArray = ls at hl ⊢
  have hl : lv_has ls 3 [(0, .ref h0), (1, .int p0), (2, .int p1)] := hl
  suffices h9 : W p l e (headSpec u_c_X11_settle _).room s m _ below meth c H [] 0 0 _ (F0 m 0 ls []) by rw [hH] at h9; exact h9
  refine lv_aload_n hx hb dX11_settle_0 rfl (lv_at hl 0 rfl) ?_
  refine va_get (D := (dC, dI)) (ci := 11) (v := .ref h1) (C := RX11) (T := TX11) (N := 16) hx hb hts hiX11 hown hK hP 0 rfl rfl 5 (by decide) (hts (.fieldLink RX11 39 "CakePapers" "desk" "LCakePapers$Desk;") (by decide +kernel)) (fun _ h9 => h9) e_fs_5 dX11_settle_1 ?_
  refine va_get (D := (dC, dI)) (ci := 1) (v := .ref h2) (C := RX1) (T := TX1) (N := 3) hx hb hts hiX1 hown hK hP 1 rfl rfl 1 (by decide) (hts (.fieldLink RX11 251 "CakePapers$Desk" "joining" "LCakePapers$Joining;") (by decide +kernel)) (fun _ h9 => h9) e_gs_1 dX11_settle_4 ?_
  refine lv_iload_n hx hb dX11_settle_7 rfl (lv_at hl 1 rfl) ?_
  have hPc := hP.sub (ws' := [(h2, .inr (4, js))]) [2] rfl
  have hDc := hD.sub (ws' := [(h2, .inr (4, js))]) [2] (by decide) rfl
  have hKc := hK.sub (tys' := []) [] rfl
  have hFc := va_free (wc := [(h2, .inr (4, js))]) hD hS hA [2] rfl
  refine va_calli (va_runV (As := [.int p0]) (rest := []) ⟨hx, hb, hml, hown, hts⟩ (c_X4_hasQuarrel l dC dI H.size h2 js hn_js e_js_12 p0) (cwV 1 hts g_c_X11_settle_c_X4_hasQuarrel_0 rfl rfl rfl (by decide +kernel) ⟨Nat.le_of_ble_eq_true rfl, Nat.le_of_ble_eq_true rfl⟩) ⟨fun a U g mk q => by obtain ⟨q0, q1, qP, qK, qD⟩ := q; exact ⟨q0, q1, qP, va_K.moved (u := U) (U := U.calling g mk a) (Vm.Alike.refl U.vm) qK, qD⟩, va_recv hKc hPc (ci := 4) (q0 := 0) rfl rfl, fun U hU hW => ⟨rfl, by rw [hU], by rw [hU]; exact hPc, va_K.moved hW.alike hKc, hDc.weaken (fun _ _ _ _ => trivial)⟩⟩ rfl rfl hl.1 rfl (lv_room (Nat.le_of_ble_eq_true rfl)) dX11_settle_8 ⟨Nat.le_of_ble_eq_true rfl, Nat.le_of_ble_eq_true rfl⟩) hS (fun q _ h => hFc q h) hFc (fun r_1 u t H1 locs ht hvm hw hB hz1 hk1 hS => ?_)
  obtain ⟨hP1, hD1⟩ := hB
  rw [ht] at hP1
  obtain ⟨hP, hD⟩ := va_join (wr := [(h0, .inr (11, fs)), (h1, .inr (1, gs))]) (w1 := [(h2, .inr (4, js))]) hP hD [2] [0, 1] rfl rfl (by decide) (by decide) hk1 hFc hP1 hD1
  generalize H1 = H at hP hS ⊢
  have hP : va_P (dC, dI) vwCl [(h0, .inr (11, fs)), (h1, .inr (1, gs)), (h2, .inr (4, js))] H := hP
  have hD : va_D A [(h0, .inr (11, fs)), (h1, .inr (1, gs)), (h2, .inr (4, js))] := hD
  refine W.widen (k := 0) (n := 0) (Nat.le_of_ble_eq_true rfl) (Nat.le_of_ble_eq_true rfl) ?_
  refine zz_ci (y := 0) hw ?_
  refine lv_if_eq (tgt := 23) hx hb dX11_settle_11 (by decide) (fun c_2 => ?_) (fun c_2 => absurd c_2 (by decide))
  refine lv_iconst (v := 0) hx hb dX11_settle_23 (by decide) ?_
  refine W.widen (k := 0) (n := 0) (Nat.le_of_ble_eq_true rfl) (Nat.le_of_ble_eq_true rfl) ?_
  exact W.zret (v := 0) hx hb hr (rfl) (fun t ht hW => ⟨⟨0, (), rfl, rfl, trivial⟩, hS.F ht⟩) hS.2.2 dX11_settle_24
def u_c_X11_joined : List Cond := .code yX11_joined cX11_joined 2 (some .int) :: ([.fieldLink RX11 39 "CakePapers" "desk" "LCakePapers$Desk;", .fieldLink RX11 251 "CakePapers$Desk" "joining" "LCakePapers$Joining;", .code yX4_isThere cX4_isThere 1 (some .boolean), .fieldLink RX4 38 "CakePapers$Joining" "base" "LCakePapers$Paper;", .methodLink RX11 280 yX4_isThere, .instanceMethod yX4_isThere, .selects RX4 yX4_isThere yX4_isThere, .initialized RX4] ++ wsX110 ++ wsX10 ++ wsX40)
set_option maxRecDepth 20000 in
theorem g_c_X11_joined_c_X4_isThere_0 : GoodIn u_c_X11_joined (wsV RX11 280 RX4 yX4_isThere u_c_X4_isThere) := goodIn_of _ (by decide +kernel)
set_option maxHeartbeats 1000000 in
set_option maxRecDepth 100000 in
theorem c_X11_joined (l : Launch) (dC : Nat → ClassId) (dI : Nat → Nat → Nat) (sz : Nat) (h0 h1 h2 : Nat) (fs : List Value) (hn_fs : fs.length = 16) (e_fs_5 : fs[5]? = some (.ref h1)) (gs : List Value) (hn_gs : gs.length = 3) (e_gs_1 : gs[1]? = some (.ref h2)) (e_gs_2 : gs[2]? = some (.int 0)) (js : List Value) (hn_js : js.length = 13) (e_js_0 : js[0]? = some .null) (e_js_12 : js[12]? = some (.int 0)) : Met l yX11_joined u_c_X11_joined ({ frames := 1, cells := 0, slots := 0, locals := 20 }) (va_Pc [.ref h0] (fun U => U.heap.size = sz ∧ va_P (dC, dI) vwCl [(h0, .inr (11, fs)), (h1, .inr (1, gs)), (h2, .inr (4, js))] U.heap ∧ va_K (dC, dI) vwCl [] U ∧ va_D (fun _ => True) [(h0, .inr (11, fs)), (h1, .inr (1, gs)), (h2, .inr (4, js))])) (va_Qi (fun (r : Int32) (_ : Unit) => r = (-1)) (fun _ _ => True) (va_A [(h0, .inr (11, fs)), (h1, .inr (1, gs)), (h2, .inr (4, js))] sz)) 0 0 (va_A [(h0, .inr (11, fs)), (h1, .inr (1, gs)), (h2, .inr (4, js))] sz) := by
  refine Met.ofW (cc := cX11_joined) (maxL := 2) (ret := (some .int)) (by decide) rfl ?_
  intro p e s m args below meth c s₁ B hml hv
  obtain ⟨rfl, hsz, hP, hK, hD0⟩ := hv
  have hx := B.exec
  have hb := B.bytes
  have hr := B.returns
  have hts := atoms_spec (ws := u_c_X11_joined) B.pre
  have hown : s.vm.findClass RX11 = some m.cls := findClass_of_methodNamed B.named
  have hlocks := B.notSynchronized
  have hiX11 : ∀ w ∈ wsX110, w ∈ u_c_X11_joined := fun w h => List.mem_cons_of_mem _ (List.mem_append_left _ (List.mem_append_left _ (List.mem_append_right _ h)))
  have hiX1 : ∀ w ∈ wsX10, w ∈ u_c_X11_joined := fun w h => List.mem_cons_of_mem _ (List.mem_append_left _ (List.mem_append_right _ h))
  have hiX4 : ∀ w ∈ wsX40, w ∈ u_c_X11_joined := fun w h => List.mem_cons_of_mem _ (List.mem_append_right _ h)
  subst hsz
  have hD := hD0.self (sz := s.heap.size)
  generalize hAe : va_A [(h0, .inr (11, fs)), (h1, .inr (1, gs)), (h2, .inr (4, js))] s.heap.size = A at hD ⊢
  have hA : ∀ q : Nat, s.heap.size ≤ q → A q := fun q h => by rw [← hAe]; exact Or.inr h
  have hS : va_S A s.heap s.heap [] := va_S.rf
  obtain ⟨H, hH⟩ : ∃ H : Heap, H = s.heap := ⟨_, rfl⟩
  have hP : va_P (dC, dI) vwCl [(h0, .inr (11, fs)), (h1, .inr (1, gs)), (h2, .inr (4, js))] H := by rw [hH]; exact hP
  have hS : va_S A s.heap H [] := by rw [hH]; exact hS
  have hl := lv_entry ([.ref h0]) (n := 2) (Nat.le_of_ble_eq_true rfl)
  rw [lg_entry_eq]
  generalize (lg_sl ([.ref h0]) ++ List.replicate (2 - (lg_sl ([.ref h0])).length) Slot.unset).toArray = ls at hl ⊢
  have hl : lv_has ls 2 [(0, .ref h0)] := hl
  suffices h9 : W p l e (headSpec u_c_X11_joined _).room s m _ below meth c H [] 0 0 _ (F0 m 0 ls []) by rw [hH] at h9; exact h9
  refine lv_aload_n hx hb dX11_joined_0 rfl (lv_at hl 0 rfl) ?_
  refine va_get (D := (dC, dI)) (ci := 11) (v := .ref h1) (C := RX11) (T := TX11) (N := 16) hx hb hts hiX11 hown hK hP 0 rfl rfl 5 (by decide) (hts (.fieldLink RX11 39 "CakePapers" "desk" "LCakePapers$Desk;") (by decide +kernel)) (fun _ h9 => h9) e_fs_5 dX11_joined_1 ?_
  refine va_get (D := (dC, dI)) (ci := 1) (v := .ref h2) (C := RX1) (T := TX1) (N := 3) hx hb hts hiX1 hown hK hP 1 rfl rfl 1 (by decide) (hts (.fieldLink RX11 251 "CakePapers$Desk" "joining" "LCakePapers$Joining;") (by decide +kernel)) (fun _ h9 => h9) e_gs_1 dX11_joined_4 ?_
  refine lv_astore_n (lv' := [(1, .ref h2), (0, .ref h0)]) hx hb dX11_joined_7 rfl hl (by decide) rfl (fun ls hl => ?_)
  refine lv_aload_n hx hb dX11_joined_8 rfl (lv_at hl 0 rfl) ?_
  have hPc := hP.sub (ws' := [(h2, .inr (4, js))]) [2] rfl
  have hDc := hD.sub (ws' := [(h2, .inr (4, js))]) [2] (by decide) rfl
  have hKc := hK.sub (tys' := []) [] rfl
  have hFc := va_free (wc := [(h2, .inr (4, js))]) hD hS hA [2] rfl
  refine va_calli (va_runV (As := []) (rest := []) ⟨hx, hb, hml, hown, hts⟩ (c_X4_isThere l dC dI H.size h2 js hn_js e_js_0) (cwV 0 hts g_c_X11_joined_c_X4_isThere_0 rfl rfl rfl (by decide +kernel) ⟨Nat.le_of_ble_eq_true rfl, Nat.le_of_ble_eq_true rfl⟩) ⟨fun a U g mk q => by obtain ⟨q0, q1, qP, qK, qD⟩ := q; exact ⟨q0, q1, qP, va_K.moved (u := U) (U := U.calling g mk a) (Vm.Alike.refl U.vm) qK, qD⟩, va_recv hKc hPc (ci := 4) (q0 := 0) rfl rfl, fun U hU hW => ⟨rfl, by rw [hU], by rw [hU]; exact hPc, va_K.moved hW.alike hKc, hDc.weaken (fun _ _ _ _ => trivial)⟩⟩ rfl rfl hl.1 rfl (lv_room (Nat.le_of_ble_eq_true rfl)) dX11_joined_9 ⟨Nat.le_of_ble_eq_true rfl, Nat.le_of_ble_eq_true rfl⟩) hS (fun q _ h => hFc q h) hFc (fun r_1 u t H1 locs ht hvm hw hB hz1 hk1 hS => ?_)
  obtain ⟨hP1, hD1⟩ := hB
  rw [ht] at hP1
  obtain ⟨hP, hD⟩ := va_join (wr := [(h0, .inr (11, fs)), (h1, .inr (1, gs))]) (w1 := [(h2, .inr (4, js))]) hP hD [2] [0, 1] rfl rfl (by decide) (by decide) hk1 hFc hP1 hD1
  generalize H1 = H at hP hS ⊢
  have hP : va_P (dC, dI) vwCl [(h0, .inr (11, fs)), (h1, .inr (1, gs)), (h2, .inr (4, js))] H := hP
  have hD : va_D A [(h0, .inr (11, fs)), (h1, .inr (1, gs)), (h2, .inr (4, js))] := hD
  refine W.widen (k := 0) (n := 0) (Nat.le_of_ble_eq_true rfl) (Nat.le_of_ble_eq_true rfl) ?_
  refine zz_ci (y := 0) hw ?_
  refine lv_if_eq (tgt := 25) hx hb dX11_joined_12 (by decide) (fun c_2 => ?_) (fun c_2 => absurd c_2 (by decide))
  refine lv_iconst (v := (-1)) hx hb dX11_joined_25 (by decide) ?_
  refine W.widen (k := 0) (n := 0) (Nat.le_of_ble_eq_true rfl) (Nat.le_of_ble_eq_true rfl) ?_
  exact W.iret (v := (-1)) hx hb hr (fun t ht hW => ⟨⟨(-1), (), rfl, rfl, trivial⟩, hS.F ht⟩) hS.2.2 dX11_joined_26
def u_c_X11_best : List Cond := .code yX11_best cX11_best 3 (some .int) :: ([.fieldLink RX11 39 "CakePapers" "desk" "LCakePapers$Desk;", .fieldLink RX11 251 "CakePapers$Desk" "joining" "LCakePapers$Joining;", .code yX4_isThere cX4_isThere 1 (some .boolean), .fieldLink RX4 38 "CakePapers$Joining" "base" "LCakePapers$Paper;", .methodLink RX11 280 yX4_isThere, .instanceMethod yX4_isThere, .selects RX4 yX4_isThere yX4_isThere, .initialized RX4, .constant RX11 224 (-1000000)] ++ wsX110 ++ wsX10 ++ wsX40)
set_option maxRecDepth 20000 in
theorem g_c_X11_best_c_X4_isThere_0 : GoodIn u_c_X11_best (wsV RX11 280 RX4 yX4_isThere u_c_X4_isThere) := goodIn_of _ (by decide +kernel)
set_option maxHeartbeats 1000000 in
set_option maxRecDepth 100000 in
theorem c_X11_best (l : Launch) (dC : Nat → ClassId) (dI : Nat → Nat → Nat) (sz : Nat) (h0 h1 h2 : Nat) (fs : List Value) (hn_fs : fs.length = 16) (e_fs_5 : fs[5]? = some (.ref h1)) (gs : List Value) (hn_gs : gs.length = 3) (e_gs_1 : gs[1]? = some (.ref h2)) (e_gs_2 : gs[2]? = some (.int 0)) (js : List Value) (hn_js : js.length = 13) (e_js_0 : js[0]? = some .null) (e_js_12 : js[12]? = some (.int 0)) (p0 : Int32) : Met l yX11_best u_c_X11_best ({ frames := 1, cells := 0, slots := 0, locals := 20 }) (va_Pc [.ref h0, .int p0] (fun U => U.heap.size = sz ∧ va_P (dC, dI) vwCl [(h0, .inr (11, fs)), (h1, .inr (1, gs)), (h2, .inr (4, js))] U.heap ∧ va_K (dC, dI) vwCl [] U ∧ va_D (fun _ => True) [(h0, .inr (11, fs)), (h1, .inr (1, gs)), (h2, .inr (4, js))])) (va_Qi (fun (r : Int32) (_ : Unit) => r = (-1000000)) (fun _ _ => True) (va_A [(h0, .inr (11, fs)), (h1, .inr (1, gs)), (h2, .inr (4, js))] sz)) 0 0 (va_A [(h0, .inr (11, fs)), (h1, .inr (1, gs)), (h2, .inr (4, js))] sz) := by
  refine Met.ofW (cc := cX11_best) (maxL := 3) (ret := (some .int)) (by decide) rfl ?_
  intro p e s m args below meth c s₁ B hml hv
  obtain ⟨rfl, hsz, hP, hK, hD0⟩ := hv
  have hx := B.exec
  have hb := B.bytes
  have hr := B.returns
  have hts := atoms_spec (ws := u_c_X11_best) B.pre
  have hown : s.vm.findClass RX11 = some m.cls := findClass_of_methodNamed B.named
  have hlocks := B.notSynchronized
  have hiX11 : ∀ w ∈ wsX110, w ∈ u_c_X11_best := fun w h => List.mem_cons_of_mem _ (List.mem_append_left _ (List.mem_append_left _ (List.mem_append_right _ h)))
  have hiX1 : ∀ w ∈ wsX10, w ∈ u_c_X11_best := fun w h => List.mem_cons_of_mem _ (List.mem_append_left _ (List.mem_append_right _ h))
  have hiX4 : ∀ w ∈ wsX40, w ∈ u_c_X11_best := fun w h => List.mem_cons_of_mem _ (List.mem_append_right _ h)
  subst hsz
  have hD := hD0.self (sz := s.heap.size)
  generalize hAe : va_A [(h0, .inr (11, fs)), (h1, .inr (1, gs)), (h2, .inr (4, js))] s.heap.size = A at hD ⊢
  have hA : ∀ q : Nat, s.heap.size ≤ q → A q := fun q h => by rw [← hAe]; exact Or.inr h
  have hS : va_S A s.heap s.heap [] := va_S.rf
  obtain ⟨H, hH⟩ : ∃ H : Heap, H = s.heap := ⟨_, rfl⟩
  have hP : va_P (dC, dI) vwCl [(h0, .inr (11, fs)), (h1, .inr (1, gs)), (h2, .inr (4, js))] H := by rw [hH]; exact hP
  have hS : va_S A s.heap H [] := by rw [hH]; exact hS
  have hl := lv_entry ([.ref h0, .int p0]) (n := 3) (Nat.le_of_ble_eq_true rfl)
  rw [lg_entry_eq]
  generalize (lg_sl ([.ref h0, .int p0]) ++ List.replicate (3 - (lg_sl ([.ref h0, .int p0])).length) Slot.unset).toArray = ls at hl ⊢
  have hl : lv_has ls 3 [(0, .ref h0), (1, .int p0)] := hl
  suffices h9 : W p l e (headSpec u_c_X11_best _).room s m _ below meth c H [] 0 0 _ (F0 m 0 ls []) by rw [hH] at h9; exact h9
  refine lv_aload_n hx hb dX11_best_0 rfl (lv_at hl 0 rfl) ?_
  refine va_get (D := (dC, dI)) (ci := 11) (v := .ref h1) (C := RX11) (T := TX11) (N := 16) hx hb hts hiX11 hown hK hP 0 rfl rfl 5 (by decide) (hts (.fieldLink RX11 39 "CakePapers" "desk" "LCakePapers$Desk;") (by decide +kernel)) (fun _ h9 => h9) e_fs_5 dX11_best_1 ?_
  refine va_get (D := (dC, dI)) (ci := 1) (v := .ref h2) (C := RX1) (T := TX1) (N := 3) hx hb hts hiX1 hown hK hP 1 rfl rfl 1 (by decide) (hts (.fieldLink RX11 251 "CakePapers$Desk" "joining" "LCakePapers$Joining;") (by decide +kernel)) (fun _ h9 => h9) e_gs_1 dX11_best_4 ?_
  refine lv_astore_n (lv' := [(2, .ref h2), (0, .ref h0), (1, .int p0)]) hx hb dX11_best_7 rfl hl (by decide) rfl (fun ls hl => ?_)
  refine lv_aload_n hx hb dX11_best_8 rfl (lv_at hl 0 rfl) ?_
  have hPc := hP.sub (ws' := [(h2, .inr (4, js))]) [2] rfl
  have hDc := hD.sub (ws' := [(h2, .inr (4, js))]) [2] (by decide) rfl
  have hKc := hK.sub (tys' := []) [] rfl
  have hFc := va_free (wc := [(h2, .inr (4, js))]) hD hS hA [2] rfl
  refine va_calli (va_runV (As := []) (rest := []) ⟨hx, hb, hml, hown, hts⟩ (c_X4_isThere l dC dI H.size h2 js hn_js e_js_0) (cwV 0 hts g_c_X11_best_c_X4_isThere_0 rfl rfl rfl (by decide +kernel) ⟨Nat.le_of_ble_eq_true rfl, Nat.le_of_ble_eq_true rfl⟩) ⟨fun a U g mk q => by obtain ⟨q0, q1, qP, qK, qD⟩ := q; exact ⟨q0, q1, qP, va_K.moved (u := U) (U := U.calling g mk a) (Vm.Alike.refl U.vm) qK, qD⟩, va_recv hKc hPc (ci := 4) (q0 := 0) rfl rfl, fun U hU hW => ⟨rfl, by rw [hU], by rw [hU]; exact hPc, va_K.moved hW.alike hKc, hDc.weaken (fun _ _ _ _ => trivial)⟩⟩ rfl rfl hl.1 rfl (lv_room (Nat.le_of_ble_eq_true rfl)) dX11_best_9 ⟨Nat.le_of_ble_eq_true rfl, Nat.le_of_ble_eq_true rfl⟩) hS (fun q _ h => hFc q h) hFc (fun r_1 u t H1 locs ht hvm hw hB hz1 hk1 hS => ?_)
  obtain ⟨hP1, hD1⟩ := hB
  rw [ht] at hP1
  obtain ⟨hP, hD⟩ := va_join (wr := [(h0, .inr (11, fs)), (h1, .inr (1, gs))]) (w1 := [(h2, .inr (4, js))]) hP hD [2] [0, 1] rfl rfl (by decide) (by decide) hk1 hFc hP1 hD1
  generalize H1 = H at hP hS ⊢
  have hP : va_P (dC, dI) vwCl [(h0, .inr (11, fs)), (h1, .inr (1, gs)), (h2, .inr (4, js))] H := hP
  have hD : va_D A [(h0, .inr (11, fs)), (h1, .inr (1, gs)), (h2, .inr (4, js))] := hD
  refine W.widen (k := 0) (n := 0) (Nat.le_of_ble_eq_true rfl) (Nat.le_of_ble_eq_true rfl) ?_
  refine zz_ci (y := 0) hw ?_
  refine lv_if_ne (tgt := 18) hx hb dX11_best_12 (by decide) (fun c_2 => absurd c_2 (by decide)) (fun c_2 => ?_)
  refine lv_ldc (v := (-1000000)) hx hb hown (hts (.constant RX11 224 (-1000000)) (by decide +kernel)) dX11_best_15 ?_
  refine W.widen (k := 0) (n := 0) (Nat.le_of_ble_eq_true rfl) (Nat.le_of_ble_eq_true rfl) ?_
  exact W.iret (v := (-1000000)) hx hb hr (fun t ht hW => ⟨⟨(-1000000), (), rfl, rfl, trivial⟩, hS.F ht⟩) hS.2.2 dX11_best_17
def u_c_X11_left : List Cond := .code yX11_left cX11_left 3 (some .int) :: ([.fieldLink RX11 39 "CakePapers" "desk" "LCakePapers$Desk;", .fieldLink RX11 251 "CakePapers$Desk" "joining" "LCakePapers$Joining;", .code yX4_isThere cX4_isThere 1 (some .boolean), .fieldLink RX4 38 "CakePapers$Joining" "base" "LCakePapers$Paper;", .methodLink RX11 280 yX4_isThere, .instanceMethod yX4_isThere, .selects RX4 yX4_isThere yX4_isThere, .initialized RX4] ++ wsX110 ++ wsX10 ++ wsX40)
set_option maxRecDepth 20000 in
theorem g_c_X11_left_c_X4_isThere_0 : GoodIn u_c_X11_left (wsV RX11 280 RX4 yX4_isThere u_c_X4_isThere) := goodIn_of _ (by decide +kernel)
set_option maxHeartbeats 1000000 in
set_option maxRecDepth 100000 in
theorem c_X11_left (l : Launch) (dC : Nat → ClassId) (dI : Nat → Nat → Nat) (sz : Nat) (h0 h1 h2 : Nat) (fs : List Value) (hn_fs : fs.length = 16) (e_fs_5 : fs[5]? = some (.ref h1)) (gs : List Value) (hn_gs : gs.length = 3) (e_gs_1 : gs[1]? = some (.ref h2)) (e_gs_2 : gs[2]? = some (.int 0)) (js : List Value) (hn_js : js.length = 13) (e_js_0 : js[0]? = some .null) (e_js_12 : js[12]? = some (.int 0)) (p0 : Int32) : Met l yX11_left u_c_X11_left ({ frames := 1, cells := 0, slots := 0, locals := 20 }) (va_Pc [.ref h0, .int p0] (fun U => U.heap.size = sz ∧ va_P (dC, dI) vwCl [(h0, .inr (11, fs)), (h1, .inr (1, gs)), (h2, .inr (4, js))] U.heap ∧ va_K (dC, dI) vwCl [] U ∧ va_D (fun _ => True) [(h0, .inr (11, fs)), (h1, .inr (1, gs)), (h2, .inr (4, js))])) (va_Qi (fun (r : Int32) (_ : Unit) => r = (-1)) (fun _ _ => True) (va_A [(h0, .inr (11, fs)), (h1, .inr (1, gs)), (h2, .inr (4, js))] sz)) 0 0 (va_A [(h0, .inr (11, fs)), (h1, .inr (1, gs)), (h2, .inr (4, js))] sz) := by
  refine Met.ofW (cc := cX11_left) (maxL := 3) (ret := (some .int)) (by decide) rfl ?_
  intro p e s m args below meth c s₁ B hml hv
  obtain ⟨rfl, hsz, hP, hK, hD0⟩ := hv
  have hx := B.exec
  have hb := B.bytes
  have hr := B.returns
  have hts := atoms_spec (ws := u_c_X11_left) B.pre
  have hown : s.vm.findClass RX11 = some m.cls := findClass_of_methodNamed B.named
  have hlocks := B.notSynchronized
  have hiX11 : ∀ w ∈ wsX110, w ∈ u_c_X11_left := fun w h => List.mem_cons_of_mem _ (List.mem_append_left _ (List.mem_append_left _ (List.mem_append_right _ h)))
  have hiX1 : ∀ w ∈ wsX10, w ∈ u_c_X11_left := fun w h => List.mem_cons_of_mem _ (List.mem_append_left _ (List.mem_append_right _ h))
  have hiX4 : ∀ w ∈ wsX40, w ∈ u_c_X11_left := fun w h => List.mem_cons_of_mem _ (List.mem_append_right _ h)
  subst hsz
  have hD := hD0.self (sz := s.heap.size)
  generalize hAe : va_A [(h0, .inr (11, fs)), (h1, .inr (1, gs)), (h2, .inr (4, js))] s.heap.size = A at hD ⊢
  have hA : ∀ q : Nat, s.heap.size ≤ q → A q := fun q h => by rw [← hAe]; exact Or.inr h
  have hS : va_S A s.heap s.heap [] := va_S.rf
  obtain ⟨H, hH⟩ : ∃ H : Heap, H = s.heap := ⟨_, rfl⟩
  have hP : va_P (dC, dI) vwCl [(h0, .inr (11, fs)), (h1, .inr (1, gs)), (h2, .inr (4, js))] H := by rw [hH]; exact hP
  have hS : va_S A s.heap H [] := by rw [hH]; exact hS
  have hl := lv_entry ([.ref h0, .int p0]) (n := 3) (Nat.le_of_ble_eq_true rfl)
  rw [lg_entry_eq]
  generalize (lg_sl ([.ref h0, .int p0]) ++ List.replicate (3 - (lg_sl ([.ref h0, .int p0])).length) Slot.unset).toArray = ls at hl ⊢
  have hl : lv_has ls 3 [(0, .ref h0), (1, .int p0)] := hl
  suffices h9 : W p l e (headSpec u_c_X11_left _).room s m _ below meth c H [] 0 0 _ (F0 m 0 ls []) by rw [hH] at h9; exact h9
  refine lv_aload_n hx hb dX11_left_0 rfl (lv_at hl 0 rfl) ?_
  refine va_get (D := (dC, dI)) (ci := 11) (v := .ref h1) (C := RX11) (T := TX11) (N := 16) hx hb hts hiX11 hown hK hP 0 rfl rfl 5 (by decide) (hts (.fieldLink RX11 39 "CakePapers" "desk" "LCakePapers$Desk;") (by decide +kernel)) (fun _ h9 => h9) e_fs_5 dX11_left_1 ?_
  refine va_get (D := (dC, dI)) (ci := 1) (v := .ref h2) (C := RX1) (T := TX1) (N := 3) hx hb hts hiX1 hown hK hP 1 rfl rfl 1 (by decide) (hts (.fieldLink RX11 251 "CakePapers$Desk" "joining" "LCakePapers$Joining;") (by decide +kernel)) (fun _ h9 => h9) e_gs_1 dX11_left_4 ?_
  refine lv_astore_n (lv' := [(2, .ref h2), (0, .ref h0), (1, .int p0)]) hx hb dX11_left_7 rfl hl (by decide) rfl (fun ls hl => ?_)
  refine lv_aload_n hx hb dX11_left_8 rfl (lv_at hl 0 rfl) ?_
  have hPc := hP.sub (ws' := [(h2, .inr (4, js))]) [2] rfl
  have hDc := hD.sub (ws' := [(h2, .inr (4, js))]) [2] (by decide) rfl
  have hKc := hK.sub (tys' := []) [] rfl
  have hFc := va_free (wc := [(h2, .inr (4, js))]) hD hS hA [2] rfl
  refine va_calli (va_runV (As := []) (rest := []) ⟨hx, hb, hml, hown, hts⟩ (c_X4_isThere l dC dI H.size h2 js hn_js e_js_0) (cwV 0 hts g_c_X11_left_c_X4_isThere_0 rfl rfl rfl (by decide +kernel) ⟨Nat.le_of_ble_eq_true rfl, Nat.le_of_ble_eq_true rfl⟩) ⟨fun a U g mk q => by obtain ⟨q0, q1, qP, qK, qD⟩ := q; exact ⟨q0, q1, qP, va_K.moved (u := U) (U := U.calling g mk a) (Vm.Alike.refl U.vm) qK, qD⟩, va_recv hKc hPc (ci := 4) (q0 := 0) rfl rfl, fun U hU hW => ⟨rfl, by rw [hU], by rw [hU]; exact hPc, va_K.moved hW.alike hKc, hDc.weaken (fun _ _ _ _ => trivial)⟩⟩ rfl rfl hl.1 rfl (lv_room (Nat.le_of_ble_eq_true rfl)) dX11_left_9 ⟨Nat.le_of_ble_eq_true rfl, Nat.le_of_ble_eq_true rfl⟩) hS (fun q _ h => hFc q h) hFc (fun r_1 u t H1 locs ht hvm hw hB hz1 hk1 hS => ?_)
  obtain ⟨hP1, hD1⟩ := hB
  rw [ht] at hP1
  obtain ⟨hP, hD⟩ := va_join (wr := [(h0, .inr (11, fs)), (h1, .inr (1, gs))]) (w1 := [(h2, .inr (4, js))]) hP hD [2] [0, 1] rfl rfl (by decide) (by decide) hk1 hFc hP1 hD1
  generalize H1 = H at hP hS ⊢
  have hP : va_P (dC, dI) vwCl [(h0, .inr (11, fs)), (h1, .inr (1, gs)), (h2, .inr (4, js))] H := hP
  have hD : va_D A [(h0, .inr (11, fs)), (h1, .inr (1, gs)), (h2, .inr (4, js))] := hD
  refine W.widen (k := 0) (n := 0) (Nat.le_of_ble_eq_true rfl) (Nat.le_of_ble_eq_true rfl) ?_
  refine zz_ci (y := 0) hw ?_
  refine lv_if_ne (tgt := 17) hx hb dX11_left_12 (by decide) (fun c_2 => absurd c_2 (by decide)) (fun c_2 => ?_)
  refine lv_iconst (v := (-1)) hx hb dX11_left_15 (by decide) ?_
  refine W.widen (k := 0) (n := 0) (Nat.le_of_ble_eq_true rfl) (Nat.le_of_ble_eq_true rfl) ?_
  exact W.iret (v := (-1)) hx hb hr (fun t ht hW => ⟨⟨(-1), (), rfl, rfl, trivial⟩, hS.F ht⟩) hS.2.2 dX11_left_16
def u_c_X11_fault : List Cond := .code yX11_fault cX11_fault 2 (some .int) :: ([.fieldLink RX11 16 "CakePapers" "scanner" "LCakePapers$Scanner;", .fieldLink RX11 145 "CakePapers$Scanner" "faultPlace" "I", .fieldLink RX11 142 "CakePapers$Scanner" "fault" "I"] ++ wsX110 ++ wsX80)
set_option maxHeartbeats 1000000 in
set_option maxRecDepth 100000 in
theorem c_X11_fault (l : Launch) (dC : Nat → ClassId) (dI : Nat → Nat → Nat) (sz : Nat) (h0 h1 : Nat) (fs : List Value) (hn_fs : fs.length = 16) (e_fs_2 : fs[2]? = some (.ref h1)) (ss : List Value) (hn_ss : ss.length = 10) (e_ss_8 : ss[8]? = some (.int 0)) (e_ss_9 : ss[9]? = some (.int (-1))) (p0 : Int32) : Met l yX11_fault u_c_X11_fault ({ frames := 0, cells := 0, slots := 0, locals := 0 }) (va_Pc [.ref h0, .int p0] (fun U => U.heap.size = sz ∧ va_P (dC, dI) vwCl [(h0, .inr (11, fs)), (h1, .inr (8, ss))] U.heap ∧ va_K (dC, dI) vwCl [] U ∧ va_D (fun _ => True) [(h0, .inr (11, fs)), (h1, .inr (8, ss))])) (va_Qi (fun (r : Int32) (_ : Unit) => r = if p0 = 0 then 0 else -1) (fun _ _ => True) (va_A [(h0, .inr (11, fs)), (h1, .inr (8, ss))] sz)) 0 0 (va_A [(h0, .inr (11, fs)), (h1, .inr (8, ss))] sz) := by
  refine Met.ofW (cc := cX11_fault) (maxL := 2) (ret := (some .int)) (by decide) rfl ?_
  intro p e s m args below meth c s₁ B hml hv
  obtain ⟨rfl, hsz, hP, hK, hD0⟩ := hv
  have hx := B.exec
  have hb := B.bytes
  have hr := B.returns
  have hts := atoms_spec (ws := u_c_X11_fault) B.pre
  have hown : s.vm.findClass RX11 = some m.cls := findClass_of_methodNamed B.named
  have hlocks := B.notSynchronized
  have hiX11 : ∀ w ∈ wsX110, w ∈ u_c_X11_fault := fun w h => List.mem_cons_of_mem _ (List.mem_append_left _ (List.mem_append_right _ h))
  have hiX8 : ∀ w ∈ wsX80, w ∈ u_c_X11_fault := fun w h => List.mem_cons_of_mem _ (List.mem_append_right _ h)
  subst hsz
  have hD := hD0.self (sz := s.heap.size)
  generalize hAe : va_A [(h0, .inr (11, fs)), (h1, .inr (8, ss))] s.heap.size = A at hD ⊢
  have hA : ∀ q : Nat, s.heap.size ≤ q → A q := fun q h => by rw [← hAe]; exact Or.inr h
  have hS : va_S A s.heap s.heap [] := va_S.rf
  obtain ⟨H, hH⟩ : ∃ H : Heap, H = s.heap := ⟨_, rfl⟩
  have hP : va_P (dC, dI) vwCl [(h0, .inr (11, fs)), (h1, .inr (8, ss))] H := by rw [hH]; exact hP
  have hS : va_S A s.heap H [] := by rw [hH]; exact hS
  have hl := lv_entry ([.ref h0, .int p0]) (n := 2) (Nat.le_of_ble_eq_true rfl)
  rw [lg_entry_eq]
  generalize (lg_sl ([.ref h0, .int p0]) ++ List.replicate (2 - (lg_sl ([.ref h0, .int p0])).length) Slot.unset).toArray = ls at hl ⊢
  have hl : lv_has ls 2 [(0, .ref h0), (1, .int p0)] := hl
  suffices h9 : W p l e (headSpec u_c_X11_fault _).room s m _ below meth c H [] 0 0 _ (F0 m 0 ls []) by rw [hH] at h9; exact h9
  refine lv_iload_n hx hb dX11_fault_0 rfl (lv_at hl 1 rfl) ?_
  refine lv_if_ne (tgt := 12) hx hb dX11_fault_1 (by decide) (fun c_1 => ?_) (fun c_1 => ?_)
  · refine lv_iload_n hx hb dX11_fault_12 rfl (lv_at hl 1 rfl) ?_
    refine lv_iconst (v := 1) hx hb dX11_fault_13 (by decide) ?_
    refine lv_icmp_ne (tgt := 27) hx hb dX11_fault_14 (by decide) (fun c_2 => ?_) (fun c_2 => ?_)
    · refine lv_iconst (v := (-1)) hx hb dX11_fault_27 (by decide) ?_
      refine W.widen (k := 0) (n := 0) (Nat.le_of_ble_eq_true rfl) (Nat.le_of_ble_eq_true rfl) ?_
      exact W.iret (v := (-1)) hx hb hr (fun t ht hW => ⟨⟨(-1), (), rfl, (if_neg c_1).symm, trivial⟩, hS.F ht⟩) hS.2.2 dX11_fault_28
    · refine lv_aload_n hx hb dX11_fault_17 rfl (lv_at hl 0 rfl) ?_
      refine va_get (D := (dC, dI)) (ci := 11) (v := .ref h1) (C := RX11) (T := TX11) (N := 16) hx hb hts hiX11 hown hK hP 0 rfl rfl 2 (by decide) (hts (.fieldLink RX11 16 "CakePapers" "scanner" "LCakePapers$Scanner;") (by decide +kernel)) (fun _ h9 => h9) e_fs_2 dX11_fault_18 ?_
      refine va_get (D := (dC, dI)) (ci := 8) (v := .int (-1)) (C := RX8) (T := TX8) (N := 10) hx hb hts hiX8 hown hK hP 1 rfl rfl 9 (by decide) (hts (.fieldLink RX11 145 "CakePapers$Scanner" "faultPlace" "I") (by decide +kernel)) (fun _ h9 => h9) e_ss_9 dX11_fault_21 ?_
      refine lv_goto (tgt := 28) hx hb dX11_fault_24 (by decide) ?_
      refine W.widen (k := 0) (n := 0) (Nat.le_of_ble_eq_true rfl) (Nat.le_of_ble_eq_true rfl) ?_
      exact W.iret (v := (-1)) hx hb hr (fun t ht hW => ⟨⟨(-1), (), rfl, (if_neg c_1).symm, trivial⟩, hS.F ht⟩) hS.2.2 dX11_fault_28
  · refine lv_aload_n hx hb dX11_fault_4 rfl (lv_at hl 0 rfl) ?_
    refine va_get (D := (dC, dI)) (ci := 11) (v := .ref h1) (C := RX11) (T := TX11) (N := 16) hx hb hts hiX11 hown hK hP 0 rfl rfl 2 (by decide) (hts (.fieldLink RX11 16 "CakePapers" "scanner" "LCakePapers$Scanner;") (by decide +kernel)) (fun _ h9 => h9) e_fs_2 dX11_fault_5 ?_
    refine va_get (D := (dC, dI)) (ci := 8) (v := .int 0) (C := RX8) (T := TX8) (N := 10) hx hb hts hiX8 hown hK hP 1 rfl rfl 8 (by decide) (hts (.fieldLink RX11 142 "CakePapers$Scanner" "fault" "I") (by decide +kernel)) (fun _ h9 => h9) e_ss_8 dX11_fault_8 ?_
    refine W.widen (k := 0) (n := 0) (Nat.le_of_ble_eq_true rfl) (Nat.le_of_ble_eq_true rfl) ?_
    exact W.iret (v := 0) hx hb hr (fun t ht hW => ⟨⟨0, (), rfl, (if_pos c_1).symm, trivial⟩, hS.F ht⟩) hS.2.2 dX11_fault_11
def u_c_X11_end : List Cond := .code yX11_end cX11_end 2 (some .int) :: ([.fieldLink RX11 107 "CakePapers" "taped" "I"] ++ wsX110)
set_option maxHeartbeats 1000000 in
set_option maxRecDepth 100000 in
theorem c_X11_end (l : Launch) (dC : Nat → ClassId) (dI : Nat → Nat → Nat) (sz : Nat) (h0 : Nat) (fs : List Value) (hn_fs : fs.length = 16) (e_fs_1 : fs[1]? = some (.int 0)) (p0 : Int32) : Met l yX11_end u_c_X11_end ({ frames := 0, cells := 0, slots := 0, locals := 0 }) (va_Pc [.ref h0, .int p0] (fun U => U.heap.size = sz ∧ va_P (dC, dI) vwCl [(h0, .inr (11, fs))] U.heap ∧ va_K (dC, dI) vwCl [] U ∧ va_D (fun _ => True) [(h0, .inr (11, fs))])) (va_Qi (fun (r : Int32) (_ : Unit) => r = if p0 = 0 then 0 else -1) (fun _ _ => True) (va_A [(h0, .inr (11, fs))] sz)) 0 0 (va_A [(h0, .inr (11, fs))] sz) := by
  refine Met.ofW (cc := cX11_end) (maxL := 2) (ret := (some .int)) (by decide) rfl ?_
  intro p e s m args below meth c s₁ B hml hv
  obtain ⟨rfl, hsz, hP, hK, hD0⟩ := hv
  have hx := B.exec
  have hb := B.bytes
  have hr := B.returns
  have hts := atoms_spec (ws := u_c_X11_end) B.pre
  have hown : s.vm.findClass RX11 = some m.cls := findClass_of_methodNamed B.named
  have hlocks := B.notSynchronized
  have hiX11 : ∀ w ∈ wsX110, w ∈ u_c_X11_end := fun w h => List.mem_cons_of_mem _ (List.mem_append_right _ h)
  subst hsz
  have hD := hD0.self (sz := s.heap.size)
  generalize hAe : va_A [(h0, .inr (11, fs))] s.heap.size = A at hD ⊢
  have hA : ∀ q : Nat, s.heap.size ≤ q → A q := fun q h => by rw [← hAe]; exact Or.inr h
  have hS : va_S A s.heap s.heap [] := va_S.rf
  obtain ⟨H, hH⟩ : ∃ H : Heap, H = s.heap := ⟨_, rfl⟩
  have hP : va_P (dC, dI) vwCl [(h0, .inr (11, fs))] H := by rw [hH]; exact hP
  have hS : va_S A s.heap H [] := by rw [hH]; exact hS
  have hl := lv_entry ([.ref h0, .int p0]) (n := 2) (Nat.le_of_ble_eq_true rfl)
  rw [lg_entry_eq]
  generalize (lg_sl ([.ref h0, .int p0]) ++ List.replicate (2 - (lg_sl ([.ref h0, .int p0])).length) Slot.unset).toArray = ls at hl ⊢
  have hl : lv_has ls 2 [(0, .ref h0), (1, .int p0)] := hl
  suffices h9 : W p l e (headSpec u_c_X11_end _).room s m _ below meth c H [] 0 0 _ (F0 m 0 ls []) by rw [hH] at h9; exact h9
  refine lv_iload_n hx hb dX11_end_0 rfl (lv_at hl 1 rfl) ?_
  refine lv_if_lt (tgt := 12) hx hb dX11_end_1 (by decide) (fun c_1 => ?_) (fun c_1 => ?_)
  · refine lv_iconst (v := (-1)) hx hb dX11_end_12 (by decide) ?_
    refine W.widen (k := 0) (n := 0) (Nat.le_of_ble_eq_true rfl) (Nat.le_of_ble_eq_true rfl) ?_
    exact W.iret (v := (-1)) hx hb hr (fun t ht hW => ⟨⟨(-1), (), rfl, zz_e1 c_1, trivial⟩, hS.F ht⟩) hS.2.2 dX11_end_13
  · refine lv_iload_n hx hb dX11_end_4 rfl (lv_at hl 1 rfl) ?_
    refine lv_aload_n hx hb dX11_end_5 rfl (lv_at hl 0 rfl) ?_
    refine va_get (D := (dC, dI)) (ci := 11) (v := .int 0) (C := RX11) (T := TX11) (N := 16) hx hb hts hiX11 hown hK hP 0 rfl rfl 1 (by decide) (hts (.fieldLink RX11 107 "CakePapers" "taped" "I") (by decide +kernel)) (fun _ h9 => h9) e_fs_1 dX11_end_6 ?_
    refine lv_icmp_le (tgt := 14) hx hb dX11_end_9 (by decide) (fun c_2 => ?_) (fun c_2 => ?_)
    · refine lv_aload_n hx hb dX11_end_14 rfl (lv_at hl 0 rfl) ?_
      refine lv_iload_n hx hb dX11_end_15 rfl (lv_at hl 1 rfl) ?_
      refine va_put (D := (dC, dI)) (ci := 11) (v := .int p0) (ty := .int) (C := RX11) (T := TX11) (N := 16) hx hb hts hiX11 tyX11 tyX11_ok nmX11 hown hK hP hD hS 0 rfl rfl 1 (by decide) (hts (.fieldLink RX11 107 "CakePapers" "taped" "I") (by decide +kernel)) (fun _ h9 => h9) rfl (by decide +kernel) rfl rfl (by simp [hn_fs]) dX11_end_16 (fun H locs hP hD hS => ?_)
      have hP : va_P (dC, dI) vwCl [(h0, .inr (11, (List.set fs 1 (.int p0))))] H := hP
      have hD : va_D A [(h0, .inr (11, (List.set fs 1 (.int p0))))] := hD
      refine lv_iload_n hx hb dX11_end_19 rfl (lv_at hl 1 rfl) ?_
      refine W.widen (k := 0) (n := 0) (Nat.le_of_ble_eq_true rfl) (Nat.le_of_ble_eq_true rfl) ?_
      exact W.iret (v := p0) hx hb hr (fun t ht hW => ⟨⟨p0, (), rfl, zz_e3 c_1 c_2, trivial⟩, hS.F ht⟩) hS.2.2 dX11_end_20
    · refine lv_iconst (v := (-1)) hx hb dX11_end_12 (by decide) ?_
      refine W.widen (k := 0) (n := 0) (Nat.le_of_ble_eq_true rfl) (Nat.le_of_ble_eq_true rfl) ?_
      exact W.iret (v := (-1)) hx hb hr (fun t ht hW => ⟨⟨(-1), (), rfl, zz_e2 c_2, trivial⟩, hS.F ht⟩) hS.2.2 dX11_end_13
def u_c_X11_about : List Cond := .code yX11_about cX11_about 3 (some .int) :: ([.fieldLink RX11 39 "CakePapers" "desk" "LCakePapers$Desk;", .fieldLink RX11 251 "CakePapers$Desk" "joining" "LCakePapers$Joining;", .code yX4_isThere cX4_isThere 1 (some .boolean), .fieldLink RX4 38 "CakePapers$Joining" "base" "LCakePapers$Paper;", .methodLink RX11 280 yX4_isThere, .instanceMethod yX4_isThere, .selects RX4 yX4_isThere yX4_isThere, .initialized RX4, .fieldLink RX11 43 "CakePapers$Desk" "count" "I", .fieldLink RX11 63 "CakePapers" "wanted" "LCakePapers$Want;", .fieldLink RX11 139 "CakePapers$Want" "units" "I", .fieldLink RX11 107 "CakePapers" "taped" "I"] ++ wsX110 ++ wsX10 ++ wsX40 ++ wsX90)
set_option maxRecDepth 20000 in
theorem g_c_X11_about_c_X4_isThere_0 : GoodIn u_c_X11_about (wsV RX11 280 RX4 yX4_isThere u_c_X4_isThere) := goodIn_of _ (by decide +kernel)
set_option maxHeartbeats 1000000 in
set_option maxRecDepth 100000 in
theorem c_X11_about (l : Launch) (dC : Nat → ClassId) (dI : Nat → Nat → Nat) (sz : Nat) (h0 h1 h3 h2 : Nat) (fs : List Value) (hn_fs : fs.length = 16) (e_fs_1 : fs[1]? = some (.int 0)) (e_fs_5 : fs[5]? = some (.ref h1)) (e_fs_8 : fs[8]? = some (.ref h3)) (gs : List Value) (hn_gs : gs.length = 3) (e_gs_1 : gs[1]? = some (.ref h2)) (e_gs_2 : gs[2]? = some (.int 0)) (js : List Value) (hn_js : js.length = 13) (e_js_0 : js[0]? = some .null) (e_js_12 : js[12]? = some (.int 0)) (ws : List Value) (hn_ws : ws.length = 5) (e_ws_4 : ws[4]? = some (.int 0)) (p0 : Int32) : Met l yX11_about u_c_X11_about ({ frames := 1, cells := 0, slots := 0, locals := 20 }) (va_Pc [.ref h0, .int p0] (fun U => U.heap.size = sz ∧ va_P (dC, dI) vwCl [(h0, .inr (11, fs)), (h1, .inr (1, gs)), (h2, .inr (4, js)), (h3, .inr (9, ws))] U.heap ∧ va_K (dC, dI) vwCl [] U ∧ va_D (fun _ => True) [(h0, .inr (11, fs)), (h1, .inr (1, gs)), (h2, .inr (4, js)), (h3, .inr (9, ws))])) (va_Qi (fun (r : Int32) (_ : Unit) => r = zz_ab p0) (fun _ _ => True) (va_A [(h0, .inr (11, fs)), (h1, .inr (1, gs)), (h2, .inr (4, js)), (h3, .inr (9, ws))] sz)) 0 0 (va_A [(h0, .inr (11, fs)), (h1, .inr (1, gs)), (h2, .inr (4, js)), (h3, .inr (9, ws))] sz) := by
  refine Met.ofW (cc := cX11_about) (maxL := 3) (ret := (some .int)) (by decide) rfl ?_
  intro p e s m args below meth c s₁ B hml hv
  obtain ⟨rfl, hsz, hP, hK, hD0⟩ := hv
  have hx := B.exec
  have hb := B.bytes
  have hr := B.returns
  have hts := atoms_spec (ws := u_c_X11_about) B.pre
  have hown : s.vm.findClass RX11 = some m.cls := findClass_of_methodNamed B.named
  have hlocks := B.notSynchronized
  have hiX11 : ∀ w ∈ wsX110, w ∈ u_c_X11_about := fun w h => List.mem_cons_of_mem _ (List.mem_append_left _ (List.mem_append_left _ (List.mem_append_left _ (List.mem_append_right _ h))))
  have hiX1 : ∀ w ∈ wsX10, w ∈ u_c_X11_about := fun w h => List.mem_cons_of_mem _ (List.mem_append_left _ (List.mem_append_left _ (List.mem_append_right _ h)))
  have hiX4 : ∀ w ∈ wsX40, w ∈ u_c_X11_about := fun w h => List.mem_cons_of_mem _ (List.mem_append_left _ (List.mem_append_right _ h))
  have hiX9 : ∀ w ∈ wsX90, w ∈ u_c_X11_about := fun w h => List.mem_cons_of_mem _ (List.mem_append_right _ h)
  subst hsz
  have hD := hD0.self (sz := s.heap.size)
  generalize hAe : va_A [(h0, .inr (11, fs)), (h1, .inr (1, gs)), (h2, .inr (4, js)), (h3, .inr (9, ws))] s.heap.size = A at hD ⊢
  have hA : ∀ q : Nat, s.heap.size ≤ q → A q := fun q h => by rw [← hAe]; exact Or.inr h
  have hS : va_S A s.heap s.heap [] := va_S.rf
  obtain ⟨H, hH⟩ : ∃ H : Heap, H = s.heap := ⟨_, rfl⟩
  have hP : va_P (dC, dI) vwCl [(h0, .inr (11, fs)), (h1, .inr (1, gs)), (h2, .inr (4, js)), (h3, .inr (9, ws))] H := by rw [hH]; exact hP
  have hS : va_S A s.heap H [] := by rw [hH]; exact hS
  have hl := lv_entry ([.ref h0, .int p0]) (n := 3) (Nat.le_of_ble_eq_true rfl)
  rw [lg_entry_eq]
  generalize (lg_sl ([.ref h0, .int p0]) ++ List.replicate (3 - (lg_sl ([.ref h0, .int p0])).length) Slot.unset).toArray = ls at hl ⊢
  have hl : lv_has ls 3 [(0, .ref h0), (1, .int p0)] := hl
  suffices h9 : W p l e (headSpec u_c_X11_about _).room s m _ below meth c H [] 0 0 _ (F0 m 0 ls []) by rw [hH] at h9; exact h9
  refine lv_aload_n hx hb dX11_about_0 rfl (lv_at hl 0 rfl) ?_
  refine va_get (D := (dC, dI)) (ci := 11) (v := .ref h1) (C := RX11) (T := TX11) (N := 16) hx hb hts hiX11 hown hK hP 0 rfl rfl 5 (by decide) (hts (.fieldLink RX11 39 "CakePapers" "desk" "LCakePapers$Desk;") (by decide +kernel)) (fun _ h9 => h9) e_fs_5 dX11_about_1 ?_
  refine va_get (D := (dC, dI)) (ci := 1) (v := .ref h2) (C := RX1) (T := TX1) (N := 3) hx hb hts hiX1 hown hK hP 1 rfl rfl 1 (by decide) (hts (.fieldLink RX11 251 "CakePapers$Desk" "joining" "LCakePapers$Joining;") (by decide +kernel)) (fun _ h9 => h9) e_gs_1 dX11_about_4 ?_
  have hPc := hP.sub (ws' := [(h2, .inr (4, js))]) [2] rfl
  have hDc := hD.sub (ws' := [(h2, .inr (4, js))]) [2] (by decide) rfl
  have hKc := hK.sub (tys' := []) [] rfl
  have hFc := va_free (wc := [(h2, .inr (4, js))]) hD hS hA [2] rfl
  refine va_calli (va_runV (As := []) (rest := []) ⟨hx, hb, hml, hown, hts⟩ (c_X4_isThere l dC dI H.size h2 js hn_js e_js_0) (cwV 0 hts g_c_X11_about_c_X4_isThere_0 rfl rfl rfl (by decide +kernel) ⟨Nat.le_of_ble_eq_true rfl, Nat.le_of_ble_eq_true rfl⟩) ⟨fun a U g mk q => by obtain ⟨q0, q1, qP, qK, qD⟩ := q; exact ⟨q0, q1, qP, va_K.moved (u := U) (U := U.calling g mk a) (Vm.Alike.refl U.vm) qK, qD⟩, va_recv hKc hPc (ci := 4) (q0 := 0) rfl rfl, fun U hU hW => ⟨rfl, by rw [hU], by rw [hU]; exact hPc, va_K.moved hW.alike hKc, hDc.weaken (fun _ _ _ _ => trivial)⟩⟩ rfl rfl hl.1 rfl (lv_room (Nat.le_of_ble_eq_true rfl)) dX11_about_7 ⟨Nat.le_of_ble_eq_true rfl, Nat.le_of_ble_eq_true rfl⟩) hS (fun q _ h => hFc q h) hFc (fun r_1 u t H1 locs ht hvm hw hB hz1 hk1 hS => ?_)
  obtain ⟨hP1, hD1⟩ := hB
  rw [ht] at hP1
  obtain ⟨hP, hD⟩ := va_join (wr := [(h0, .inr (11, fs)), (h1, .inr (1, gs)), (h3, .inr (9, ws))]) (w1 := [(h2, .inr (4, js))]) hP hD [2] [0, 1, 3] rfl rfl (by decide) (by decide) hk1 hFc hP1 hD1
  generalize H1 = H at hP hS ⊢
  have hP : va_P (dC, dI) vwCl [(h0, .inr (11, fs)), (h1, .inr (1, gs)), (h3, .inr (9, ws)), (h2, .inr (4, js))] H := hP
  have hD : va_D A [(h0, .inr (11, fs)), (h1, .inr (1, gs)), (h3, .inr (9, ws)), (h2, .inr (4, js))] := hD
  refine W.widen (k := 0) (n := 0) (Nat.le_of_ble_eq_true rfl) (Nat.le_of_ble_eq_true rfl) ?_
  refine zz_ci (y := 0) hw ?_
  refine lv_istore_n (lv' := [(2, .int 0), (0, .ref h0), (1, .int p0)]) hx hb dX11_about_10 rfl hl (by decide) rfl (fun ls hl => ?_)
  refine lv_iload_n hx hb dX11_about_11 rfl (lv_at hl 2 rfl) ?_
  rcases zz_sw_0_4 p0 with c_2 | c_2 | c_2 | c_2 | c_2 | c_2
  · refine lv_tableOut (tgt := 107) hx hb dX11_about_12 c_2 (by decide) ?_
    refine lv_iconst (v := (-1)) hx hb dX11_about_107 (by decide) ?_
    refine W.widen (k := 0) (n := 0) (Nat.le_of_ble_eq_true rfl) (Nat.le_of_ble_eq_true rfl) ?_
    exact W.iret (v := (-1)) hx hb hr (fun t ht hW => ⟨⟨(-1), (), rfl, zz_abo c_2, trivial⟩, hS.F ht⟩) hS.2.2 dX11_about_108
  · refine zz_ci (y := 0) c_2 ?_
    refine lv_tableIn (tgt := 48) hx hb dX11_about_12 (by decide) (by decide) rfl (by decide) ?_
    refine lv_aload_n hx hb dX11_about_48 rfl (lv_at hl 1 rfl) ?_
    refine va_get (D := (dC, dI)) (ci := 11) (v := .ref h1) (C := RX11) (T := TX11) (N := 16) hx hb hts hiX11 hown hK hP 0 rfl rfl 5 (by decide) (hts (.fieldLink RX11 39 "CakePapers" "desk" "LCakePapers$Desk;") (by decide +kernel)) (fun _ h9 => h9) e_fs_5 dX11_about_49 ?_
    refine va_get (D := (dC, dI)) (ci := 1) (v := .int 0) (C := RX1) (T := TX1) (N := 3) hx hb hts hiX1 hown hK hP 1 rfl rfl 2 (by decide) (hts (.fieldLink RX11 43 "CakePapers$Desk" "count" "I") (by decide +kernel)) (fun _ h9 => h9) e_gs_2 dX11_about_52 ?_
    refine W.widen (k := 0) (n := 0) (Nat.le_of_ble_eq_true rfl) (Nat.le_of_ble_eq_true rfl) ?_
    exact W.iret (v := 0) hx hb hr (fun t ht hW => ⟨⟨0, (), rfl, (by rw [c_2]; decide), trivial⟩, hS.F ht⟩) hS.2.2 dX11_about_55
  · refine zz_ci (y := 1) c_2 ?_
    refine lv_tableIn (tgt := 56) hx hb dX11_about_12 (by decide) (by decide) rfl (by decide) ?_
    refine lv_aload_n hx hb dX11_about_56 rfl (lv_at hl 1 rfl) ?_
    refine va_get (D := (dC, dI)) (ci := 11) (v := .ref h3) (C := RX11) (T := TX11) (N := 16) hx hb hts hiX11 hown hK hP 0 rfl rfl 8 (by decide) (hts (.fieldLink RX11 63 "CakePapers" "wanted" "LCakePapers$Want;") (by decide +kernel)) (fun _ h9 => h9) e_fs_8 dX11_about_57 ?_
    refine va_get (D := (dC, dI)) (ci := 9) (v := .int 0) (C := RX9) (T := TX9) (N := 5) hx hb hts hiX9 hown hK hP 2 rfl rfl 4 (by decide) (hts (.fieldLink RX11 139 "CakePapers$Want" "units" "I") (by decide +kernel)) (fun _ h9 => h9) e_ws_4 dX11_about_60 ?_
    refine W.widen (k := 0) (n := 0) (Nat.le_of_ble_eq_true rfl) (Nat.le_of_ble_eq_true rfl) ?_
    exact W.iret (v := 0) hx hb hr (fun t ht hW => ⟨⟨0, (), rfl, (by rw [c_2]; decide), trivial⟩, hS.F ht⟩) hS.2.2 dX11_about_63
  · refine zz_ci (y := 2) c_2 ?_
    refine lv_tableIn (tgt := 64) hx hb dX11_about_12 (by decide) (by decide) rfl (by decide) ?_
    refine lv_iload_n hx hb dX11_about_64 rfl (lv_at hl 0 rfl) ?_
    refine lv_if_eq (tgt := 81) hx hb dX11_about_65 (by decide) (fun c_3 => ?_) (fun c_3 => absurd c_3 (by decide))
    refine lv_iconst (v := (-1)) hx hb dX11_about_81 (by decide) ?_
    refine W.widen (k := 0) (n := 0) (Nat.le_of_ble_eq_true rfl) (Nat.le_of_ble_eq_true rfl) ?_
    exact W.iret (v := (-1)) hx hb hr (fun t ht hW => ⟨⟨(-1), (), rfl, (by rw [c_2]; decide), trivial⟩, hS.F ht⟩) hS.2.2 dX11_about_82
  · refine zz_ci (y := 3) c_2 ?_
    refine lv_tableIn (tgt := 83) hx hb dX11_about_12 (by decide) (by decide) rfl (by decide) ?_
    refine lv_iload_n hx hb dX11_about_83 rfl (lv_at hl 0 rfl) ?_
    refine lv_if_eq (tgt := 100) hx hb dX11_about_84 (by decide) (fun c_4 => ?_) (fun c_4 => absurd c_4 (by decide))
    refine lv_iconst (v := (-1)) hx hb dX11_about_100 (by decide) ?_
    refine W.widen (k := 0) (n := 0) (Nat.le_of_ble_eq_true rfl) (Nat.le_of_ble_eq_true rfl) ?_
    exact W.iret (v := (-1)) hx hb hr (fun t ht hW => ⟨⟨(-1), (), rfl, (by rw [c_2]; decide), trivial⟩, hS.F ht⟩) hS.2.2 dX11_about_101
  · refine zz_ci (y := 4) c_2 ?_
    refine lv_tableIn (tgt := 102) hx hb dX11_about_12 (by decide) (by decide) rfl (by decide) ?_
    refine lv_aload_n hx hb dX11_about_102 rfl (lv_at hl 1 rfl) ?_
    refine va_get (D := (dC, dI)) (ci := 11) (v := .int 0) (C := RX11) (T := TX11) (N := 16) hx hb hts hiX11 hown hK hP 0 rfl rfl 1 (by decide) (hts (.fieldLink RX11 107 "CakePapers" "taped" "I") (by decide +kernel)) (fun _ h9 => h9) e_fs_1 dX11_about_103 ?_
    refine W.widen (k := 0) (n := 0) (Nat.le_of_ble_eq_true rfl) (Nat.le_of_ble_eq_true rfl) ?_
    exact W.iret (v := 0) hx hb hr (fun t ht hW => ⟨⟨0, (), rfl, (by rw [c_2]; decide), trivial⟩, hS.F ht⟩) hS.2.2 dX11_about_106
def u_c_X11_putFour_0 : List Cond := .code yX11_putFour cX11_putFour 3 none :: ([.fieldLink RX11 9 "CakePapers" "tape" "[I", .fieldLink RX11 107 "CakePapers" "taped" "I"] ++ wsX110)
set_option maxHeartbeats 1000000 in
set_option maxRecDepth 100000 in
theorem c_X11_putFour_0 (l : Launch) (dC : Nat → ClassId) (dI : Nat → Nat → Nat) (sz : Nat) (h0 h1 : Nat) (cI : ClassId) (f : Nat → Int32) (fs : List Value) (hn_fs : fs.length = 16) (e_fs_0 : fs[0]? = some (.ref h1)) (e_fs_1 : fs[1]? = some (.int 0)) (p0 : Int32) : Met l yX11_putFour u_c_X11_putFour_0 ({ frames := 0, cells := 0, slots := 0, locals := 0 }) (va_Pc [.ref h0, .int p0] (fun U => U.heap.size = sz ∧ va_P (dC, dI) vwCl [(h0, .inr (11, fs)), (h1, .inl (cI, 1200, .inl f))] U.heap ∧ va_K (dC, dI) vwCl [(cI, .int)] U ∧ va_D (fun _ => True) [(h0, .inr (11, fs)), (h1, .inl (cI, 1200, .inl f))])) (va_Qv (fun (_ : Unit) => True) (fun _ t => ∃ (f_12 : Nat → Int32), va_P (dC, dI) vwCl [(h0, .inr (11, (List.set (List.set (List.set (List.set fs 1 (.int 1)) 1 (.int 2)) 1 (.int 3)) 1 (.int 4)))), (h1, .inl (cI, 1200, .inl f_12))] t.heap ∧ va_D (va_A [(h0, .inr (11, fs)), (h1, .inl (cI, 1200, .inl f))] sz) [(h0, .inr (11, (List.set (List.set (List.set (List.set fs 1 (.int 1)) 1 (.int 2)) 1 (.int 3)) 1 (.int 4)))), (h1, .inl (cI, 1200, .inl f_12))]) (va_A [(h0, .inr (11, fs)), (h1, .inl (cI, 1200, .inl f))] sz)) 0 0 (va_A [(h0, .inr (11, fs)), (h1, .inl (cI, 1200, .inl f))] sz) := by
  refine Met.ofW (cc := cX11_putFour) (maxL := 3) (ret := none) (by decide) rfl ?_
  intro p e s m args below meth c s₁ B hml hv
  obtain ⟨rfl, hsz, hP, hK, hD0⟩ := hv
  have hx := B.exec
  have hb := B.bytes
  have hr := B.returns
  have hts := atoms_spec (ws := u_c_X11_putFour_0) B.pre
  have hown : s.vm.findClass RX11 = some m.cls := findClass_of_methodNamed B.named
  have hlocks := B.notSynchronized
  have hiX11 : ∀ w ∈ wsX110, w ∈ u_c_X11_putFour_0 := fun w h => List.mem_cons_of_mem _ (List.mem_append_right _ h)
  subst hsz
  have hD := hD0.self (sz := s.heap.size)
  generalize hAe : va_A [(h0, .inr (11, fs)), (h1, .inl (cI, 1200, .inl f))] s.heap.size = A at hD ⊢
  have hA : ∀ q : Nat, s.heap.size ≤ q → A q := fun q h => by rw [← hAe]; exact Or.inr h
  have hS : va_S A s.heap s.heap [] := va_S.rf
  obtain ⟨H, hH⟩ : ∃ H : Heap, H = s.heap := ⟨_, rfl⟩
  have hP : va_P (dC, dI) vwCl [(h0, .inr (11, fs)), (h1, .inl (cI, 1200, .inl f))] H := by rw [hH]; exact hP
  have hS : va_S A s.heap H [] := by rw [hH]; exact hS
  have hl := lv_entry ([.ref h0, .int p0]) (n := 3) (Nat.le_of_ble_eq_true rfl)
  rw [lg_entry_eq]
  generalize (lg_sl ([.ref h0, .int p0]) ++ List.replicate (3 - (lg_sl ([.ref h0, .int p0])).length) Slot.unset).toArray = ls at hl ⊢
  have hl : lv_has ls 3 [(0, .ref h0), (1, .int p0)] := hl
  suffices h9 : W p l e (headSpec u_c_X11_putFour_0 _).room s m _ below meth c H [] 0 0 _ (F0 m 0 ls []) by rw [hH] at h9; exact h9
  refine lv_bipush (v := 24) hx hb dX11_putFour_0 (by decide) ?_
  refine lv_istore_n (lv' := [(2, .int 24), (0, .ref h0), (1, .int p0)]) hx hb dX11_putFour_2 rfl hl (by decide) rfl (fun ls hl => ?_)
  refine lv_iload_n hx hb dX11_putFour_3 rfl (lv_at hl 0 rfl) ?_
  refine lv_if_lt (tgt := 39) hx hb dX11_putFour_4 (by decide) (fun c_1 => absurd c_1 (by decide)) (fun c_1 => ?_)
  refine lv_aload_n hx hb dX11_putFour_7 rfl (lv_at hl 1 rfl) ?_
  refine va_get (D := (dC, dI)) (ci := 11) (v := .ref h1) (C := RX11) (T := TX11) (N := 16) hx hb hts hiX11 hown hK hP 0 rfl rfl 0 (by decide) (hts (.fieldLink RX11 9 "CakePapers" "tape" "[I") (by decide +kernel)) (fun _ h9 => h9) e_fs_0 dX11_putFour_8 ?_
  refine lv_aload_n hx hb dX11_putFour_11 rfl (lv_at hl 1 rfl) ?_
  refine va_get (D := (dC, dI)) (ci := 11) (v := .int 0) (C := RX11) (T := TX11) (N := 16) hx hb hts hiX11 hown hK hP 0 rfl rfl 1 (by decide) (hts (.fieldLink RX11 107 "CakePapers" "taped" "I") (by decide +kernel)) (fun _ h9 => h9) e_fs_1 dX11_putFour_12 ?_
  refine lv_iload_n hx hb dX11_putFour_15 rfl (lv_at hl 2 rfl) ?_
  refine lv_iload_n hx hb dX11_putFour_16 rfl (lv_at hl 0 rfl) ?_
  refine lv_iushr (v := (Int32.toUInt32 p0 >>> (Int32.toUInt32 24 &&& Int32.toUInt32 31)).toInt32) hx hb dX11_putFour_17 rfl ?_
  refine lv_topi (fun v_2 _ => ?_)
  refine lv_sipush (v := 255) hx hb dX11_putFour_18 (by decide) ?_
  refine lv_iand hx hb dX11_putFour_21 ?_
  refine va_iast hx hb hK hP hD hS 1 0 rfl rfl (zz_in (by decide)) dX11_putFour_22 (fun H locs hP hD hS => ?_)
  obtain ⟨f_3, hP, hD⟩ : ∃ f_3 : Nat → Int32, va_P (dC, dI) vwCl [(h0, .inr (11, fs)), (h1, .inl (cI, 1200, .inl f_3))] H ∧ va_D A [(h0, .inr (11, fs)), (h1, .inl (cI, 1200, .inl f_3))] := ⟨_, hP, hD⟩
  refine lv_aload_n hx hb dX11_putFour_23 rfl (lv_at hl 1 rfl) ?_
  refine lv_dup hx hb dX11_putFour_24 rfl ?_
  refine va_get (D := (dC, dI)) (ci := 11) (v := .int 0) (C := RX11) (T := TX11) (N := 16) hx hb hts hiX11 hown hK hP 0 rfl rfl 1 (by decide) (hts (.fieldLink RX11 107 "CakePapers" "taped" "I") (by decide +kernel)) (fun _ h9 => h9) e_fs_1 dX11_putFour_25 ?_
  refine lv_iconst (v := 1) hx hb dX11_putFour_28 (by decide) ?_
  refine lv_iadd hx hb dX11_putFour_29 ?_
  refine zz_ci (y := 1) (by decide) ?_
  refine va_put (D := (dC, dI)) (ci := 11) (v := .int 1) (ty := .int) (C := RX11) (T := TX11) (N := 16) hx hb hts hiX11 tyX11 tyX11_ok nmX11 hown hK hP hD hS 0 rfl rfl 1 (by decide) (hts (.fieldLink RX11 107 "CakePapers" "taped" "I") (by decide +kernel)) (fun _ h9 => h9) rfl (by decide +kernel) rfl rfl (by simp [hn_fs]) dX11_putFour_30 (fun H locs hP hD hS => ?_)
  have hP : va_P (dC, dI) vwCl [(h0, .inr (11, (List.set fs 1 (.int 1)))), (h1, .inl (cI, 1200, .inl f_3))] H := hP
  have hD : va_D A [(h0, .inr (11, (List.set fs 1 (.int 1)))), (h1, .inl (cI, 1200, .inl f_3))] := hD
  refine lv_iinc (v := 16) (lv' := [(2, .int 16), (0, .ref h0), (1, .int p0)]) hx hb dX11_putFour_33 hl (k := 0) rfl (by decide) (by decide) rfl (fun ls hl => ?_)
  refine lv_goto (tgt := 3) hx hb dX11_putFour_36 (by decide) ?_
  refine lv_iload_n hx hb dX11_putFour_3 rfl (lv_at hl 0 rfl) ?_
  refine lv_if_lt (tgt := 39) hx hb dX11_putFour_4 (by decide) (fun c_4 => absurd c_4 (by decide)) (fun c_4 => ?_)
  refine lv_aload_n hx hb dX11_putFour_7 rfl (lv_at hl 1 rfl) ?_
  refine va_get (D := (dC, dI)) (ci := 11) (v := .ref h1) (C := RX11) (T := TX11) (N := 16) hx hb hts hiX11 hown hK hP 0 rfl rfl 0 (by decide) (hts (.fieldLink RX11 9 "CakePapers" "tape" "[I") (by decide +kernel)) (fun _ h9 => h9) (by simp [e_fs_0]) dX11_putFour_8 ?_
  refine lv_aload_n hx hb dX11_putFour_11 rfl (lv_at hl 1 rfl) ?_
  refine va_get (D := (dC, dI)) (ci := 11) (v := .int 1) (C := RX11) (T := TX11) (N := 16) hx hb hts hiX11 hown hK hP 0 rfl rfl 1 (by decide) (hts (.fieldLink RX11 107 "CakePapers" "taped" "I") (by decide +kernel)) (fun _ h9 => h9) (by simp [hn_fs]) dX11_putFour_12 ?_
  refine lv_iload_n hx hb dX11_putFour_15 rfl (lv_at hl 2 rfl) ?_
  refine lv_iload_n hx hb dX11_putFour_16 rfl (lv_at hl 0 rfl) ?_
  refine lv_iushr (v := (Int32.toUInt32 p0 >>> (Int32.toUInt32 16 &&& Int32.toUInt32 31)).toInt32) hx hb dX11_putFour_17 rfl ?_
  refine lv_topi (fun v_5 _ => ?_)
  refine lv_sipush (v := 255) hx hb dX11_putFour_18 (by decide) ?_
  refine lv_iand hx hb dX11_putFour_21 ?_
  refine va_iast hx hb hK hP hD hS 1 0 rfl rfl (zz_in (by decide)) dX11_putFour_22 (fun H locs hP hD hS => ?_)
  obtain ⟨f_6, hP, hD⟩ : ∃ f_6 : Nat → Int32, va_P (dC, dI) vwCl [(h0, .inr (11, (List.set fs 1 (.int 1)))), (h1, .inl (cI, 1200, .inl f_6))] H ∧ va_D A [(h0, .inr (11, (List.set fs 1 (.int 1)))), (h1, .inl (cI, 1200, .inl f_6))] := ⟨_, hP, hD⟩
  refine lv_aload_n hx hb dX11_putFour_23 rfl (lv_at hl 1 rfl) ?_
  refine lv_dup hx hb dX11_putFour_24 rfl ?_
  refine va_get (D := (dC, dI)) (ci := 11) (v := .int 1) (C := RX11) (T := TX11) (N := 16) hx hb hts hiX11 hown hK hP 0 rfl rfl 1 (by decide) (hts (.fieldLink RX11 107 "CakePapers" "taped" "I") (by decide +kernel)) (fun _ h9 => h9) (by simp [hn_fs]) dX11_putFour_25 ?_
  refine lv_iconst (v := 1) hx hb dX11_putFour_28 (by decide) ?_
  refine lv_iadd hx hb dX11_putFour_29 ?_
  refine zz_ci (y := 2) (by decide) ?_
  refine va_put (D := (dC, dI)) (ci := 11) (v := .int 2) (ty := .int) (C := RX11) (T := TX11) (N := 16) hx hb hts hiX11 tyX11 tyX11_ok nmX11 hown hK hP hD hS 0 rfl rfl 1 (by decide) (hts (.fieldLink RX11 107 "CakePapers" "taped" "I") (by decide +kernel)) (fun _ h9 => h9) rfl (by decide +kernel) rfl rfl (by simp [hn_fs]) dX11_putFour_30 (fun H locs hP hD hS => ?_)
  have hP : va_P (dC, dI) vwCl [(h0, .inr (11, (List.set (List.set fs 1 (.int 1)) 1 (.int 2)))), (h1, .inl (cI, 1200, .inl f_6))] H := hP
  have hD : va_D A [(h0, .inr (11, (List.set (List.set fs 1 (.int 1)) 1 (.int 2)))), (h1, .inl (cI, 1200, .inl f_6))] := hD
  refine lv_iinc (v := 8) (lv' := [(2, .int 8), (0, .ref h0), (1, .int p0)]) hx hb dX11_putFour_33 hl (k := 0) rfl (by decide) (by decide) rfl (fun ls hl => ?_)
  refine lv_goto (tgt := 3) hx hb dX11_putFour_36 (by decide) ?_
  refine lv_iload_n hx hb dX11_putFour_3 rfl (lv_at hl 0 rfl) ?_
  refine lv_if_lt (tgt := 39) hx hb dX11_putFour_4 (by decide) (fun c_7 => absurd c_7 (by decide)) (fun c_7 => ?_)
  refine lv_aload_n hx hb dX11_putFour_7 rfl (lv_at hl 1 rfl) ?_
  refine va_get (D := (dC, dI)) (ci := 11) (v := .ref h1) (C := RX11) (T := TX11) (N := 16) hx hb hts hiX11 hown hK hP 0 rfl rfl 0 (by decide) (hts (.fieldLink RX11 9 "CakePapers" "tape" "[I") (by decide +kernel)) (fun _ h9 => h9) (by simp [e_fs_0]) dX11_putFour_8 ?_
  refine lv_aload_n hx hb dX11_putFour_11 rfl (lv_at hl 1 rfl) ?_
  refine va_get (D := (dC, dI)) (ci := 11) (v := .int 2) (C := RX11) (T := TX11) (N := 16) hx hb hts hiX11 hown hK hP 0 rfl rfl 1 (by decide) (hts (.fieldLink RX11 107 "CakePapers" "taped" "I") (by decide +kernel)) (fun _ h9 => h9) (by simp [hn_fs]) dX11_putFour_12 ?_
  refine lv_iload_n hx hb dX11_putFour_15 rfl (lv_at hl 2 rfl) ?_
  refine lv_iload_n hx hb dX11_putFour_16 rfl (lv_at hl 0 rfl) ?_
  refine lv_iushr (v := (Int32.toUInt32 p0 >>> (Int32.toUInt32 8 &&& Int32.toUInt32 31)).toInt32) hx hb dX11_putFour_17 rfl ?_
  refine lv_topi (fun v_8 _ => ?_)
  refine lv_sipush (v := 255) hx hb dX11_putFour_18 (by decide) ?_
  refine lv_iand hx hb dX11_putFour_21 ?_
  refine va_iast hx hb hK hP hD hS 1 0 rfl rfl (zz_in (by decide)) dX11_putFour_22 (fun H locs hP hD hS => ?_)
  obtain ⟨f_9, hP, hD⟩ : ∃ f_9 : Nat → Int32, va_P (dC, dI) vwCl [(h0, .inr (11, (List.set (List.set fs 1 (.int 1)) 1 (.int 2)))), (h1, .inl (cI, 1200, .inl f_9))] H ∧ va_D A [(h0, .inr (11, (List.set (List.set fs 1 (.int 1)) 1 (.int 2)))), (h1, .inl (cI, 1200, .inl f_9))] := ⟨_, hP, hD⟩
  refine lv_aload_n hx hb dX11_putFour_23 rfl (lv_at hl 1 rfl) ?_
  refine lv_dup hx hb dX11_putFour_24 rfl ?_
  refine va_get (D := (dC, dI)) (ci := 11) (v := .int 2) (C := RX11) (T := TX11) (N := 16) hx hb hts hiX11 hown hK hP 0 rfl rfl 1 (by decide) (hts (.fieldLink RX11 107 "CakePapers" "taped" "I") (by decide +kernel)) (fun _ h9 => h9) (by simp [hn_fs]) dX11_putFour_25 ?_
  refine lv_iconst (v := 1) hx hb dX11_putFour_28 (by decide) ?_
  refine lv_iadd hx hb dX11_putFour_29 ?_
  refine zz_ci (y := 3) (by decide) ?_
  refine va_put (D := (dC, dI)) (ci := 11) (v := .int 3) (ty := .int) (C := RX11) (T := TX11) (N := 16) hx hb hts hiX11 tyX11 tyX11_ok nmX11 hown hK hP hD hS 0 rfl rfl 1 (by decide) (hts (.fieldLink RX11 107 "CakePapers" "taped" "I") (by decide +kernel)) (fun _ h9 => h9) rfl (by decide +kernel) rfl rfl (by simp [hn_fs]) dX11_putFour_30 (fun H locs hP hD hS => ?_)
  have hP : va_P (dC, dI) vwCl [(h0, .inr (11, (List.set (List.set (List.set fs 1 (.int 1)) 1 (.int 2)) 1 (.int 3)))), (h1, .inl (cI, 1200, .inl f_9))] H := hP
  have hD : va_D A [(h0, .inr (11, (List.set (List.set (List.set fs 1 (.int 1)) 1 (.int 2)) 1 (.int 3)))), (h1, .inl (cI, 1200, .inl f_9))] := hD
  refine lv_iinc (v := 0) (lv' := [(2, .int 0), (0, .ref h0), (1, .int p0)]) hx hb dX11_putFour_33 hl (k := 0) rfl (by decide) (by decide) rfl (fun ls hl => ?_)
  refine lv_goto (tgt := 3) hx hb dX11_putFour_36 (by decide) ?_
  refine lv_iload_n hx hb dX11_putFour_3 rfl (lv_at hl 0 rfl) ?_
  refine lv_if_lt (tgt := 39) hx hb dX11_putFour_4 (by decide) (fun c_10 => absurd c_10 (by decide)) (fun c_10 => ?_)
  refine lv_aload_n hx hb dX11_putFour_7 rfl (lv_at hl 1 rfl) ?_
  refine va_get (D := (dC, dI)) (ci := 11) (v := .ref h1) (C := RX11) (T := TX11) (N := 16) hx hb hts hiX11 hown hK hP 0 rfl rfl 0 (by decide) (hts (.fieldLink RX11 9 "CakePapers" "tape" "[I") (by decide +kernel)) (fun _ h9 => h9) (by simp [e_fs_0]) dX11_putFour_8 ?_
  refine lv_aload_n hx hb dX11_putFour_11 rfl (lv_at hl 1 rfl) ?_
  refine va_get (D := (dC, dI)) (ci := 11) (v := .int 3) (C := RX11) (T := TX11) (N := 16) hx hb hts hiX11 hown hK hP 0 rfl rfl 1 (by decide) (hts (.fieldLink RX11 107 "CakePapers" "taped" "I") (by decide +kernel)) (fun _ h9 => h9) (by simp [hn_fs]) dX11_putFour_12 ?_
  refine lv_iload_n hx hb dX11_putFour_15 rfl (lv_at hl 2 rfl) ?_
  refine lv_iload_n hx hb dX11_putFour_16 rfl (lv_at hl 0 rfl) ?_
  refine lv_iushr (v := (Int32.toUInt32 p0 >>> (Int32.toUInt32 0 &&& Int32.toUInt32 31)).toInt32) hx hb dX11_putFour_17 rfl ?_
  refine lv_topi (fun v_11 _ => ?_)
  refine lv_sipush (v := 255) hx hb dX11_putFour_18 (by decide) ?_
  refine lv_iand hx hb dX11_putFour_21 ?_
  refine va_iast hx hb hK hP hD hS 1 0 rfl rfl (zz_in (by decide)) dX11_putFour_22 (fun H locs hP hD hS => ?_)
  obtain ⟨f_12, hP, hD⟩ : ∃ f_12 : Nat → Int32, va_P (dC, dI) vwCl [(h0, .inr (11, (List.set (List.set (List.set fs 1 (.int 1)) 1 (.int 2)) 1 (.int 3)))), (h1, .inl (cI, 1200, .inl f_12))] H ∧ va_D A [(h0, .inr (11, (List.set (List.set (List.set fs 1 (.int 1)) 1 (.int 2)) 1 (.int 3)))), (h1, .inl (cI, 1200, .inl f_12))] := ⟨_, hP, hD⟩
  refine lv_aload_n hx hb dX11_putFour_23 rfl (lv_at hl 1 rfl) ?_
  refine lv_dup hx hb dX11_putFour_24 rfl ?_
  refine va_get (D := (dC, dI)) (ci := 11) (v := .int 3) (C := RX11) (T := TX11) (N := 16) hx hb hts hiX11 hown hK hP 0 rfl rfl 1 (by decide) (hts (.fieldLink RX11 107 "CakePapers" "taped" "I") (by decide +kernel)) (fun _ h9 => h9) (by simp [hn_fs]) dX11_putFour_25 ?_
  refine lv_iconst (v := 1) hx hb dX11_putFour_28 (by decide) ?_
  refine lv_iadd hx hb dX11_putFour_29 ?_
  refine zz_ci (y := 4) (by decide) ?_
  refine va_put (D := (dC, dI)) (ci := 11) (v := .int 4) (ty := .int) (C := RX11) (T := TX11) (N := 16) hx hb hts hiX11 tyX11 tyX11_ok nmX11 hown hK hP hD hS 0 rfl rfl 1 (by decide) (hts (.fieldLink RX11 107 "CakePapers" "taped" "I") (by decide +kernel)) (fun _ h9 => h9) rfl (by decide +kernel) rfl rfl (by simp [hn_fs]) dX11_putFour_30 (fun H locs hP hD hS => ?_)
  have hP : va_P (dC, dI) vwCl [(h0, .inr (11, (List.set (List.set (List.set (List.set fs 1 (.int 1)) 1 (.int 2)) 1 (.int 3)) 1 (.int 4)))), (h1, .inl (cI, 1200, .inl f_12))] H := hP
  have hD : va_D A [(h0, .inr (11, (List.set (List.set (List.set (List.set fs 1 (.int 1)) 1 (.int 2)) 1 (.int 3)) 1 (.int 4)))), (h1, .inl (cI, 1200, .inl f_12))] := hD
  refine lv_iinc (v := (-8)) (lv' := [(2, .int (-8)), (0, .ref h0), (1, .int p0)]) hx hb dX11_putFour_33 hl (k := 0) rfl (by decide) (by decide) rfl (fun ls hl => ?_)
  refine lv_goto (tgt := 3) hx hb dX11_putFour_36 (by decide) ?_
  refine lv_iload_n hx hb dX11_putFour_3 rfl (lv_at hl 0 rfl) ?_
  refine lv_if_lt (tgt := 39) hx hb dX11_putFour_4 (by decide) (fun c_13 => ?_) (fun c_13 => absurd c_13 (by decide))
  refine W.widen (k := 0) (n := 0) (Nat.le_of_ble_eq_true rfl) (Nat.le_of_ble_eq_true rfl) ?_
  have hP9 := hP.sub (ws' := [(h0, .inr (11, (List.set (List.set (List.set (List.set fs 1 (.int 1)) 1 (.int 2)) 1 (.int 3)) 1 (.int 4)))), (h1, .inl (cI, 1200, .inl f_12))]) [0, 1] rfl
  have hD9 := hD.sub (ws' := [(h0, .inr (11, (List.set (List.set (List.set (List.set fs 1 (.int 1)) 1 (.int 2)) 1 (.int 3)) 1 (.int 4)))), (h1, .inl (cI, 1200, .inl f_12))]) [0, 1] (by decide) rfl
  exact W.vret hx hb hr (fun t ht hW => ⟨⟨(), rfl, trivial, f_12, by rw [ht]; exact hP9, hD9⟩, hS.F ht⟩) hS.2.2 dX11_putFour_39
def u_c_X11_putFour_4 : List Cond := .code yX11_putFour cX11_putFour 3 none :: ([.fieldLink RX11 9 "CakePapers" "tape" "[I", .fieldLink RX11 107 "CakePapers" "taped" "I"] ++ wsX110)
set_option maxHeartbeats 1000000 in
set_option maxRecDepth 100000 in
theorem c_X11_putFour_4 (l : Launch) (dC : Nat → ClassId) (dI : Nat → Nat → Nat) (sz : Nat) (h0 h1 : Nat) (cI : ClassId) (f : Nat → Int32) (fs : List Value) (hn_fs : fs.length = 16) (e_fs_0 : fs[0]? = some (.ref h1)) (e_fs_1 : fs[1]? = some (.int 4)) (p0 : Int32) : Met l yX11_putFour u_c_X11_putFour_4 ({ frames := 0, cells := 0, slots := 0, locals := 0 }) (va_Pc [.ref h0, .int p0] (fun U => U.heap.size = sz ∧ va_P (dC, dI) vwCl [(h0, .inr (11, fs)), (h1, .inl (cI, 1200, .inl f))] U.heap ∧ va_K (dC, dI) vwCl [(cI, .int)] U ∧ va_D (fun _ => True) [(h0, .inr (11, fs)), (h1, .inl (cI, 1200, .inl f))])) (va_Qv (fun (_ : Unit) => True) (fun _ t => ∃ (f_12 : Nat → Int32), va_P (dC, dI) vwCl [(h0, .inr (11, (List.set (List.set (List.set (List.set fs 1 (.int 5)) 1 (.int 6)) 1 (.int 7)) 1 (.int 8)))), (h1, .inl (cI, 1200, .inl f_12))] t.heap ∧ va_D (va_A [(h0, .inr (11, fs)), (h1, .inl (cI, 1200, .inl f))] sz) [(h0, .inr (11, (List.set (List.set (List.set (List.set fs 1 (.int 5)) 1 (.int 6)) 1 (.int 7)) 1 (.int 8)))), (h1, .inl (cI, 1200, .inl f_12))]) (va_A [(h0, .inr (11, fs)), (h1, .inl (cI, 1200, .inl f))] sz)) 0 0 (va_A [(h0, .inr (11, fs)), (h1, .inl (cI, 1200, .inl f))] sz) := by
  refine Met.ofW (cc := cX11_putFour) (maxL := 3) (ret := none) (by decide) rfl ?_
  intro p e s m args below meth c s₁ B hml hv
  obtain ⟨rfl, hsz, hP, hK, hD0⟩ := hv
  have hx := B.exec
  have hb := B.bytes
  have hr := B.returns
  have hts := atoms_spec (ws := u_c_X11_putFour_4) B.pre
  have hown : s.vm.findClass RX11 = some m.cls := findClass_of_methodNamed B.named
  have hlocks := B.notSynchronized
  have hiX11 : ∀ w ∈ wsX110, w ∈ u_c_X11_putFour_4 := fun w h => List.mem_cons_of_mem _ (List.mem_append_right _ h)
  subst hsz
  have hD := hD0.self (sz := s.heap.size)
  generalize hAe : va_A [(h0, .inr (11, fs)), (h1, .inl (cI, 1200, .inl f))] s.heap.size = A at hD ⊢
  have hA : ∀ q : Nat, s.heap.size ≤ q → A q := fun q h => by rw [← hAe]; exact Or.inr h
  have hS : va_S A s.heap s.heap [] := va_S.rf
  obtain ⟨H, hH⟩ : ∃ H : Heap, H = s.heap := ⟨_, rfl⟩
  have hP : va_P (dC, dI) vwCl [(h0, .inr (11, fs)), (h1, .inl (cI, 1200, .inl f))] H := by rw [hH]; exact hP
  have hS : va_S A s.heap H [] := by rw [hH]; exact hS
  have hl := lv_entry ([.ref h0, .int p0]) (n := 3) (Nat.le_of_ble_eq_true rfl)
  rw [lg_entry_eq]
  generalize (lg_sl ([.ref h0, .int p0]) ++ List.replicate (3 - (lg_sl ([.ref h0, .int p0])).length) Slot.unset).toArray = ls at hl ⊢
  have hl : lv_has ls 3 [(0, .ref h0), (1, .int p0)] := hl
  suffices h9 : W p l e (headSpec u_c_X11_putFour_4 _).room s m _ below meth c H [] 0 0 _ (F0 m 0 ls []) by rw [hH] at h9; exact h9
  refine lv_bipush (v := 24) hx hb dX11_putFour_0 (by decide) ?_
  refine lv_istore_n (lv' := [(2, .int 24), (0, .ref h0), (1, .int p0)]) hx hb dX11_putFour_2 rfl hl (by decide) rfl (fun ls hl => ?_)
  refine lv_iload_n hx hb dX11_putFour_3 rfl (lv_at hl 0 rfl) ?_
  refine lv_if_lt (tgt := 39) hx hb dX11_putFour_4 (by decide) (fun c_1 => absurd c_1 (by decide)) (fun c_1 => ?_)
  refine lv_aload_n hx hb dX11_putFour_7 rfl (lv_at hl 1 rfl) ?_
  refine va_get (D := (dC, dI)) (ci := 11) (v := .ref h1) (C := RX11) (T := TX11) (N := 16) hx hb hts hiX11 hown hK hP 0 rfl rfl 0 (by decide) (hts (.fieldLink RX11 9 "CakePapers" "tape" "[I") (by decide +kernel)) (fun _ h9 => h9) e_fs_0 dX11_putFour_8 ?_
  refine lv_aload_n hx hb dX11_putFour_11 rfl (lv_at hl 1 rfl) ?_
  refine va_get (D := (dC, dI)) (ci := 11) (v := .int 4) (C := RX11) (T := TX11) (N := 16) hx hb hts hiX11 hown hK hP 0 rfl rfl 1 (by decide) (hts (.fieldLink RX11 107 "CakePapers" "taped" "I") (by decide +kernel)) (fun _ h9 => h9) e_fs_1 dX11_putFour_12 ?_
  refine lv_iload_n hx hb dX11_putFour_15 rfl (lv_at hl 2 rfl) ?_
  refine lv_iload_n hx hb dX11_putFour_16 rfl (lv_at hl 0 rfl) ?_
  refine lv_iushr (v := (Int32.toUInt32 p0 >>> (Int32.toUInt32 24 &&& Int32.toUInt32 31)).toInt32) hx hb dX11_putFour_17 rfl ?_
  refine lv_topi (fun v_2 _ => ?_)
  refine lv_sipush (v := 255) hx hb dX11_putFour_18 (by decide) ?_
  refine lv_iand hx hb dX11_putFour_21 ?_
  refine va_iast hx hb hK hP hD hS 1 0 rfl rfl (zz_in (by decide)) dX11_putFour_22 (fun H locs hP hD hS => ?_)
  obtain ⟨f_3, hP, hD⟩ : ∃ f_3 : Nat → Int32, va_P (dC, dI) vwCl [(h0, .inr (11, fs)), (h1, .inl (cI, 1200, .inl f_3))] H ∧ va_D A [(h0, .inr (11, fs)), (h1, .inl (cI, 1200, .inl f_3))] := ⟨_, hP, hD⟩
  refine lv_aload_n hx hb dX11_putFour_23 rfl (lv_at hl 1 rfl) ?_
  refine lv_dup hx hb dX11_putFour_24 rfl ?_
  refine va_get (D := (dC, dI)) (ci := 11) (v := .int 4) (C := RX11) (T := TX11) (N := 16) hx hb hts hiX11 hown hK hP 0 rfl rfl 1 (by decide) (hts (.fieldLink RX11 107 "CakePapers" "taped" "I") (by decide +kernel)) (fun _ h9 => h9) e_fs_1 dX11_putFour_25 ?_
  refine lv_iconst (v := 1) hx hb dX11_putFour_28 (by decide) ?_
  refine lv_iadd hx hb dX11_putFour_29 ?_
  refine zz_ci (y := 5) (by decide) ?_
  refine va_put (D := (dC, dI)) (ci := 11) (v := .int 5) (ty := .int) (C := RX11) (T := TX11) (N := 16) hx hb hts hiX11 tyX11 tyX11_ok nmX11 hown hK hP hD hS 0 rfl rfl 1 (by decide) (hts (.fieldLink RX11 107 "CakePapers" "taped" "I") (by decide +kernel)) (fun _ h9 => h9) rfl (by decide +kernel) rfl rfl (by simp [hn_fs]) dX11_putFour_30 (fun H locs hP hD hS => ?_)
  have hP : va_P (dC, dI) vwCl [(h0, .inr (11, (List.set fs 1 (.int 5)))), (h1, .inl (cI, 1200, .inl f_3))] H := hP
  have hD : va_D A [(h0, .inr (11, (List.set fs 1 (.int 5)))), (h1, .inl (cI, 1200, .inl f_3))] := hD
  refine lv_iinc (v := 16) (lv' := [(2, .int 16), (0, .ref h0), (1, .int p0)]) hx hb dX11_putFour_33 hl (k := 0) rfl (by decide) (by decide) rfl (fun ls hl => ?_)
  refine lv_goto (tgt := 3) hx hb dX11_putFour_36 (by decide) ?_
  refine lv_iload_n hx hb dX11_putFour_3 rfl (lv_at hl 0 rfl) ?_
  refine lv_if_lt (tgt := 39) hx hb dX11_putFour_4 (by decide) (fun c_4 => absurd c_4 (by decide)) (fun c_4 => ?_)
  refine lv_aload_n hx hb dX11_putFour_7 rfl (lv_at hl 1 rfl) ?_
  refine va_get (D := (dC, dI)) (ci := 11) (v := .ref h1) (C := RX11) (T := TX11) (N := 16) hx hb hts hiX11 hown hK hP 0 rfl rfl 0 (by decide) (hts (.fieldLink RX11 9 "CakePapers" "tape" "[I") (by decide +kernel)) (fun _ h9 => h9) (by simp [e_fs_0]) dX11_putFour_8 ?_
  refine lv_aload_n hx hb dX11_putFour_11 rfl (lv_at hl 1 rfl) ?_
  refine va_get (D := (dC, dI)) (ci := 11) (v := .int 5) (C := RX11) (T := TX11) (N := 16) hx hb hts hiX11 hown hK hP 0 rfl rfl 1 (by decide) (hts (.fieldLink RX11 107 "CakePapers" "taped" "I") (by decide +kernel)) (fun _ h9 => h9) (by simp [hn_fs]) dX11_putFour_12 ?_
  refine lv_iload_n hx hb dX11_putFour_15 rfl (lv_at hl 2 rfl) ?_
  refine lv_iload_n hx hb dX11_putFour_16 rfl (lv_at hl 0 rfl) ?_
  refine lv_iushr (v := (Int32.toUInt32 p0 >>> (Int32.toUInt32 16 &&& Int32.toUInt32 31)).toInt32) hx hb dX11_putFour_17 rfl ?_
  refine lv_topi (fun v_5 _ => ?_)
  refine lv_sipush (v := 255) hx hb dX11_putFour_18 (by decide) ?_
  refine lv_iand hx hb dX11_putFour_21 ?_
  refine va_iast hx hb hK hP hD hS 1 0 rfl rfl (zz_in (by decide)) dX11_putFour_22 (fun H locs hP hD hS => ?_)
  obtain ⟨f_6, hP, hD⟩ : ∃ f_6 : Nat → Int32, va_P (dC, dI) vwCl [(h0, .inr (11, (List.set fs 1 (.int 5)))), (h1, .inl (cI, 1200, .inl f_6))] H ∧ va_D A [(h0, .inr (11, (List.set fs 1 (.int 5)))), (h1, .inl (cI, 1200, .inl f_6))] := ⟨_, hP, hD⟩
  refine lv_aload_n hx hb dX11_putFour_23 rfl (lv_at hl 1 rfl) ?_
  refine lv_dup hx hb dX11_putFour_24 rfl ?_
  refine va_get (D := (dC, dI)) (ci := 11) (v := .int 5) (C := RX11) (T := TX11) (N := 16) hx hb hts hiX11 hown hK hP 0 rfl rfl 1 (by decide) (hts (.fieldLink RX11 107 "CakePapers" "taped" "I") (by decide +kernel)) (fun _ h9 => h9) (by simp [hn_fs]) dX11_putFour_25 ?_
  refine lv_iconst (v := 1) hx hb dX11_putFour_28 (by decide) ?_
  refine lv_iadd hx hb dX11_putFour_29 ?_
  refine zz_ci (y := 6) (by decide) ?_
  refine va_put (D := (dC, dI)) (ci := 11) (v := .int 6) (ty := .int) (C := RX11) (T := TX11) (N := 16) hx hb hts hiX11 tyX11 tyX11_ok nmX11 hown hK hP hD hS 0 rfl rfl 1 (by decide) (hts (.fieldLink RX11 107 "CakePapers" "taped" "I") (by decide +kernel)) (fun _ h9 => h9) rfl (by decide +kernel) rfl rfl (by simp [hn_fs]) dX11_putFour_30 (fun H locs hP hD hS => ?_)
  have hP : va_P (dC, dI) vwCl [(h0, .inr (11, (List.set (List.set fs 1 (.int 5)) 1 (.int 6)))), (h1, .inl (cI, 1200, .inl f_6))] H := hP
  have hD : va_D A [(h0, .inr (11, (List.set (List.set fs 1 (.int 5)) 1 (.int 6)))), (h1, .inl (cI, 1200, .inl f_6))] := hD
  refine lv_iinc (v := 8) (lv' := [(2, .int 8), (0, .ref h0), (1, .int p0)]) hx hb dX11_putFour_33 hl (k := 0) rfl (by decide) (by decide) rfl (fun ls hl => ?_)
  refine lv_goto (tgt := 3) hx hb dX11_putFour_36 (by decide) ?_
  refine lv_iload_n hx hb dX11_putFour_3 rfl (lv_at hl 0 rfl) ?_
  refine lv_if_lt (tgt := 39) hx hb dX11_putFour_4 (by decide) (fun c_7 => absurd c_7 (by decide)) (fun c_7 => ?_)
  refine lv_aload_n hx hb dX11_putFour_7 rfl (lv_at hl 1 rfl) ?_
  refine va_get (D := (dC, dI)) (ci := 11) (v := .ref h1) (C := RX11) (T := TX11) (N := 16) hx hb hts hiX11 hown hK hP 0 rfl rfl 0 (by decide) (hts (.fieldLink RX11 9 "CakePapers" "tape" "[I") (by decide +kernel)) (fun _ h9 => h9) (by simp [e_fs_0]) dX11_putFour_8 ?_
  refine lv_aload_n hx hb dX11_putFour_11 rfl (lv_at hl 1 rfl) ?_
  refine va_get (D := (dC, dI)) (ci := 11) (v := .int 6) (C := RX11) (T := TX11) (N := 16) hx hb hts hiX11 hown hK hP 0 rfl rfl 1 (by decide) (hts (.fieldLink RX11 107 "CakePapers" "taped" "I") (by decide +kernel)) (fun _ h9 => h9) (by simp [hn_fs]) dX11_putFour_12 ?_
  refine lv_iload_n hx hb dX11_putFour_15 rfl (lv_at hl 2 rfl) ?_
  refine lv_iload_n hx hb dX11_putFour_16 rfl (lv_at hl 0 rfl) ?_
  refine lv_iushr (v := (Int32.toUInt32 p0 >>> (Int32.toUInt32 8 &&& Int32.toUInt32 31)).toInt32) hx hb dX11_putFour_17 rfl ?_
  refine lv_topi (fun v_8 _ => ?_)
  refine lv_sipush (v := 255) hx hb dX11_putFour_18 (by decide) ?_
  refine lv_iand hx hb dX11_putFour_21 ?_
  refine va_iast hx hb hK hP hD hS 1 0 rfl rfl (zz_in (by decide)) dX11_putFour_22 (fun H locs hP hD hS => ?_)
  obtain ⟨f_9, hP, hD⟩ : ∃ f_9 : Nat → Int32, va_P (dC, dI) vwCl [(h0, .inr (11, (List.set (List.set fs 1 (.int 5)) 1 (.int 6)))), (h1, .inl (cI, 1200, .inl f_9))] H ∧ va_D A [(h0, .inr (11, (List.set (List.set fs 1 (.int 5)) 1 (.int 6)))), (h1, .inl (cI, 1200, .inl f_9))] := ⟨_, hP, hD⟩
  refine lv_aload_n hx hb dX11_putFour_23 rfl (lv_at hl 1 rfl) ?_
  refine lv_dup hx hb dX11_putFour_24 rfl ?_
  refine va_get (D := (dC, dI)) (ci := 11) (v := .int 6) (C := RX11) (T := TX11) (N := 16) hx hb hts hiX11 hown hK hP 0 rfl rfl 1 (by decide) (hts (.fieldLink RX11 107 "CakePapers" "taped" "I") (by decide +kernel)) (fun _ h9 => h9) (by simp [hn_fs]) dX11_putFour_25 ?_
  refine lv_iconst (v := 1) hx hb dX11_putFour_28 (by decide) ?_
  refine lv_iadd hx hb dX11_putFour_29 ?_
  refine zz_ci (y := 7) (by decide) ?_
  refine va_put (D := (dC, dI)) (ci := 11) (v := .int 7) (ty := .int) (C := RX11) (T := TX11) (N := 16) hx hb hts hiX11 tyX11 tyX11_ok nmX11 hown hK hP hD hS 0 rfl rfl 1 (by decide) (hts (.fieldLink RX11 107 "CakePapers" "taped" "I") (by decide +kernel)) (fun _ h9 => h9) rfl (by decide +kernel) rfl rfl (by simp [hn_fs]) dX11_putFour_30 (fun H locs hP hD hS => ?_)
  have hP : va_P (dC, dI) vwCl [(h0, .inr (11, (List.set (List.set (List.set fs 1 (.int 5)) 1 (.int 6)) 1 (.int 7)))), (h1, .inl (cI, 1200, .inl f_9))] H := hP
  have hD : va_D A [(h0, .inr (11, (List.set (List.set (List.set fs 1 (.int 5)) 1 (.int 6)) 1 (.int 7)))), (h1, .inl (cI, 1200, .inl f_9))] := hD
  refine lv_iinc (v := 0) (lv' := [(2, .int 0), (0, .ref h0), (1, .int p0)]) hx hb dX11_putFour_33 hl (k := 0) rfl (by decide) (by decide) rfl (fun ls hl => ?_)
  refine lv_goto (tgt := 3) hx hb dX11_putFour_36 (by decide) ?_
  refine lv_iload_n hx hb dX11_putFour_3 rfl (lv_at hl 0 rfl) ?_
  refine lv_if_lt (tgt := 39) hx hb dX11_putFour_4 (by decide) (fun c_10 => absurd c_10 (by decide)) (fun c_10 => ?_)
  refine lv_aload_n hx hb dX11_putFour_7 rfl (lv_at hl 1 rfl) ?_
  refine va_get (D := (dC, dI)) (ci := 11) (v := .ref h1) (C := RX11) (T := TX11) (N := 16) hx hb hts hiX11 hown hK hP 0 rfl rfl 0 (by decide) (hts (.fieldLink RX11 9 "CakePapers" "tape" "[I") (by decide +kernel)) (fun _ h9 => h9) (by simp [e_fs_0]) dX11_putFour_8 ?_
  refine lv_aload_n hx hb dX11_putFour_11 rfl (lv_at hl 1 rfl) ?_
  refine va_get (D := (dC, dI)) (ci := 11) (v := .int 7) (C := RX11) (T := TX11) (N := 16) hx hb hts hiX11 hown hK hP 0 rfl rfl 1 (by decide) (hts (.fieldLink RX11 107 "CakePapers" "taped" "I") (by decide +kernel)) (fun _ h9 => h9) (by simp [hn_fs]) dX11_putFour_12 ?_
  refine lv_iload_n hx hb dX11_putFour_15 rfl (lv_at hl 2 rfl) ?_
  refine lv_iload_n hx hb dX11_putFour_16 rfl (lv_at hl 0 rfl) ?_
  refine lv_iushr (v := (Int32.toUInt32 p0 >>> (Int32.toUInt32 0 &&& Int32.toUInt32 31)).toInt32) hx hb dX11_putFour_17 rfl ?_
  refine lv_topi (fun v_11 _ => ?_)
  refine lv_sipush (v := 255) hx hb dX11_putFour_18 (by decide) ?_
  refine lv_iand hx hb dX11_putFour_21 ?_
  refine va_iast hx hb hK hP hD hS 1 0 rfl rfl (zz_in (by decide)) dX11_putFour_22 (fun H locs hP hD hS => ?_)
  obtain ⟨f_12, hP, hD⟩ : ∃ f_12 : Nat → Int32, va_P (dC, dI) vwCl [(h0, .inr (11, (List.set (List.set (List.set fs 1 (.int 5)) 1 (.int 6)) 1 (.int 7)))), (h1, .inl (cI, 1200, .inl f_12))] H ∧ va_D A [(h0, .inr (11, (List.set (List.set (List.set fs 1 (.int 5)) 1 (.int 6)) 1 (.int 7)))), (h1, .inl (cI, 1200, .inl f_12))] := ⟨_, hP, hD⟩
  refine lv_aload_n hx hb dX11_putFour_23 rfl (lv_at hl 1 rfl) ?_
  refine lv_dup hx hb dX11_putFour_24 rfl ?_
  refine va_get (D := (dC, dI)) (ci := 11) (v := .int 7) (C := RX11) (T := TX11) (N := 16) hx hb hts hiX11 hown hK hP 0 rfl rfl 1 (by decide) (hts (.fieldLink RX11 107 "CakePapers" "taped" "I") (by decide +kernel)) (fun _ h9 => h9) (by simp [hn_fs]) dX11_putFour_25 ?_
  refine lv_iconst (v := 1) hx hb dX11_putFour_28 (by decide) ?_
  refine lv_iadd hx hb dX11_putFour_29 ?_
  refine zz_ci (y := 8) (by decide) ?_
  refine va_put (D := (dC, dI)) (ci := 11) (v := .int 8) (ty := .int) (C := RX11) (T := TX11) (N := 16) hx hb hts hiX11 tyX11 tyX11_ok nmX11 hown hK hP hD hS 0 rfl rfl 1 (by decide) (hts (.fieldLink RX11 107 "CakePapers" "taped" "I") (by decide +kernel)) (fun _ h9 => h9) rfl (by decide +kernel) rfl rfl (by simp [hn_fs]) dX11_putFour_30 (fun H locs hP hD hS => ?_)
  have hP : va_P (dC, dI) vwCl [(h0, .inr (11, (List.set (List.set (List.set (List.set fs 1 (.int 5)) 1 (.int 6)) 1 (.int 7)) 1 (.int 8)))), (h1, .inl (cI, 1200, .inl f_12))] H := hP
  have hD : va_D A [(h0, .inr (11, (List.set (List.set (List.set (List.set fs 1 (.int 5)) 1 (.int 6)) 1 (.int 7)) 1 (.int 8)))), (h1, .inl (cI, 1200, .inl f_12))] := hD
  refine lv_iinc (v := (-8)) (lv' := [(2, .int (-8)), (0, .ref h0), (1, .int p0)]) hx hb dX11_putFour_33 hl (k := 0) rfl (by decide) (by decide) rfl (fun ls hl => ?_)
  refine lv_goto (tgt := 3) hx hb dX11_putFour_36 (by decide) ?_
  refine lv_iload_n hx hb dX11_putFour_3 rfl (lv_at hl 0 rfl) ?_
  refine lv_if_lt (tgt := 39) hx hb dX11_putFour_4 (by decide) (fun c_13 => ?_) (fun c_13 => absurd c_13 (by decide))
  refine W.widen (k := 0) (n := 0) (Nat.le_of_ble_eq_true rfl) (Nat.le_of_ble_eq_true rfl) ?_
  have hP9 := hP.sub (ws' := [(h0, .inr (11, (List.set (List.set (List.set (List.set fs 1 (.int 5)) 1 (.int 6)) 1 (.int 7)) 1 (.int 8)))), (h1, .inl (cI, 1200, .inl f_12))]) [0, 1] rfl
  have hD9 := hD.sub (ws' := [(h0, .inr (11, (List.set (List.set (List.set (List.set fs 1 (.int 5)) 1 (.int 6)) 1 (.int 7)) 1 (.int 8)))), (h1, .inl (cI, 1200, .inl f_12))]) [0, 1] (by decide) rfl
  exact W.vret hx hb hr (fun t ht hW => ⟨⟨(), rfl, trivial, f_12, by rw [ht]; exact hP9, hD9⟩, hS.F ht⟩) hS.2.2 dX11_putFour_39
def u_c_X11_putFour_8 : List Cond := .code yX11_putFour cX11_putFour 3 none :: ([.fieldLink RX11 9 "CakePapers" "tape" "[I", .fieldLink RX11 107 "CakePapers" "taped" "I"] ++ wsX110)
set_option maxHeartbeats 1000000 in
set_option maxRecDepth 100000 in
theorem c_X11_putFour_8 (l : Launch) (dC : Nat → ClassId) (dI : Nat → Nat → Nat) (sz : Nat) (h0 h1 : Nat) (cI : ClassId) (f : Nat → Int32) (fs : List Value) (hn_fs : fs.length = 16) (e_fs_0 : fs[0]? = some (.ref h1)) (e_fs_1 : fs[1]? = some (.int 8)) (p0 : Int32) : Met l yX11_putFour u_c_X11_putFour_8 ({ frames := 0, cells := 0, slots := 0, locals := 0 }) (va_Pc [.ref h0, .int p0] (fun U => U.heap.size = sz ∧ va_P (dC, dI) vwCl [(h0, .inr (11, fs)), (h1, .inl (cI, 1200, .inl f))] U.heap ∧ va_K (dC, dI) vwCl [(cI, .int)] U ∧ va_D (fun _ => True) [(h0, .inr (11, fs)), (h1, .inl (cI, 1200, .inl f))])) (va_Qv (fun (_ : Unit) => True) (fun _ t => ∃ (f_12 : Nat → Int32), va_P (dC, dI) vwCl [(h0, .inr (11, (List.set (List.set (List.set (List.set fs 1 (.int 9)) 1 (.int 10)) 1 (.int 11)) 1 (.int 12)))), (h1, .inl (cI, 1200, .inl f_12))] t.heap ∧ va_D (va_A [(h0, .inr (11, fs)), (h1, .inl (cI, 1200, .inl f))] sz) [(h0, .inr (11, (List.set (List.set (List.set (List.set fs 1 (.int 9)) 1 (.int 10)) 1 (.int 11)) 1 (.int 12)))), (h1, .inl (cI, 1200, .inl f_12))]) (va_A [(h0, .inr (11, fs)), (h1, .inl (cI, 1200, .inl f))] sz)) 0 0 (va_A [(h0, .inr (11, fs)), (h1, .inl (cI, 1200, .inl f))] sz) := by
  refine Met.ofW (cc := cX11_putFour) (maxL := 3) (ret := none) (by decide) rfl ?_
  intro p e s m args below meth c s₁ B hml hv
  obtain ⟨rfl, hsz, hP, hK, hD0⟩ := hv
  have hx := B.exec
  have hb := B.bytes
  have hr := B.returns
  have hts := atoms_spec (ws := u_c_X11_putFour_8) B.pre
  have hown : s.vm.findClass RX11 = some m.cls := findClass_of_methodNamed B.named
  have hlocks := B.notSynchronized
  have hiX11 : ∀ w ∈ wsX110, w ∈ u_c_X11_putFour_8 := fun w h => List.mem_cons_of_mem _ (List.mem_append_right _ h)
  subst hsz
  have hD := hD0.self (sz := s.heap.size)
  generalize hAe : va_A [(h0, .inr (11, fs)), (h1, .inl (cI, 1200, .inl f))] s.heap.size = A at hD ⊢
  have hA : ∀ q : Nat, s.heap.size ≤ q → A q := fun q h => by rw [← hAe]; exact Or.inr h
  have hS : va_S A s.heap s.heap [] := va_S.rf
  obtain ⟨H, hH⟩ : ∃ H : Heap, H = s.heap := ⟨_, rfl⟩
  have hP : va_P (dC, dI) vwCl [(h0, .inr (11, fs)), (h1, .inl (cI, 1200, .inl f))] H := by rw [hH]; exact hP
  have hS : va_S A s.heap H [] := by rw [hH]; exact hS
  have hl := lv_entry ([.ref h0, .int p0]) (n := 3) (Nat.le_of_ble_eq_true rfl)
  rw [lg_entry_eq]
  generalize (lg_sl ([.ref h0, .int p0]) ++ List.replicate (3 - (lg_sl ([.ref h0, .int p0])).length) Slot.unset).toArray = ls at hl ⊢
  have hl : lv_has ls 3 [(0, .ref h0), (1, .int p0)] := hl
  suffices h9 : W p l e (headSpec u_c_X11_putFour_8 _).room s m _ below meth c H [] 0 0 _ (F0 m 0 ls []) by rw [hH] at h9; exact h9
  refine lv_bipush (v := 24) hx hb dX11_putFour_0 (by decide) ?_
  refine lv_istore_n (lv' := [(2, .int 24), (0, .ref h0), (1, .int p0)]) hx hb dX11_putFour_2 rfl hl (by decide) rfl (fun ls hl => ?_)
  refine lv_iload_n hx hb dX11_putFour_3 rfl (lv_at hl 0 rfl) ?_
  refine lv_if_lt (tgt := 39) hx hb dX11_putFour_4 (by decide) (fun c_1 => absurd c_1 (by decide)) (fun c_1 => ?_)
  refine lv_aload_n hx hb dX11_putFour_7 rfl (lv_at hl 1 rfl) ?_
  refine va_get (D := (dC, dI)) (ci := 11) (v := .ref h1) (C := RX11) (T := TX11) (N := 16) hx hb hts hiX11 hown hK hP 0 rfl rfl 0 (by decide) (hts (.fieldLink RX11 9 "CakePapers" "tape" "[I") (by decide +kernel)) (fun _ h9 => h9) e_fs_0 dX11_putFour_8 ?_
  refine lv_aload_n hx hb dX11_putFour_11 rfl (lv_at hl 1 rfl) ?_
  refine va_get (D := (dC, dI)) (ci := 11) (v := .int 8) (C := RX11) (T := TX11) (N := 16) hx hb hts hiX11 hown hK hP 0 rfl rfl 1 (by decide) (hts (.fieldLink RX11 107 "CakePapers" "taped" "I") (by decide +kernel)) (fun _ h9 => h9) e_fs_1 dX11_putFour_12 ?_
  refine lv_iload_n hx hb dX11_putFour_15 rfl (lv_at hl 2 rfl) ?_
  refine lv_iload_n hx hb dX11_putFour_16 rfl (lv_at hl 0 rfl) ?_
  refine lv_iushr (v := (Int32.toUInt32 p0 >>> (Int32.toUInt32 24 &&& Int32.toUInt32 31)).toInt32) hx hb dX11_putFour_17 rfl ?_
  refine lv_topi (fun v_2 _ => ?_)
  refine lv_sipush (v := 255) hx hb dX11_putFour_18 (by decide) ?_
  refine lv_iand hx hb dX11_putFour_21 ?_
  refine va_iast hx hb hK hP hD hS 1 0 rfl rfl (zz_in (by decide)) dX11_putFour_22 (fun H locs hP hD hS => ?_)
  obtain ⟨f_3, hP, hD⟩ : ∃ f_3 : Nat → Int32, va_P (dC, dI) vwCl [(h0, .inr (11, fs)), (h1, .inl (cI, 1200, .inl f_3))] H ∧ va_D A [(h0, .inr (11, fs)), (h1, .inl (cI, 1200, .inl f_3))] := ⟨_, hP, hD⟩
  refine lv_aload_n hx hb dX11_putFour_23 rfl (lv_at hl 1 rfl) ?_
  refine lv_dup hx hb dX11_putFour_24 rfl ?_
  refine va_get (D := (dC, dI)) (ci := 11) (v := .int 8) (C := RX11) (T := TX11) (N := 16) hx hb hts hiX11 hown hK hP 0 rfl rfl 1 (by decide) (hts (.fieldLink RX11 107 "CakePapers" "taped" "I") (by decide +kernel)) (fun _ h9 => h9) e_fs_1 dX11_putFour_25 ?_
  refine lv_iconst (v := 1) hx hb dX11_putFour_28 (by decide) ?_
  refine lv_iadd hx hb dX11_putFour_29 ?_
  refine zz_ci (y := 9) (by decide) ?_
  refine va_put (D := (dC, dI)) (ci := 11) (v := .int 9) (ty := .int) (C := RX11) (T := TX11) (N := 16) hx hb hts hiX11 tyX11 tyX11_ok nmX11 hown hK hP hD hS 0 rfl rfl 1 (by decide) (hts (.fieldLink RX11 107 "CakePapers" "taped" "I") (by decide +kernel)) (fun _ h9 => h9) rfl (by decide +kernel) rfl rfl (by simp [hn_fs]) dX11_putFour_30 (fun H locs hP hD hS => ?_)
  have hP : va_P (dC, dI) vwCl [(h0, .inr (11, (List.set fs 1 (.int 9)))), (h1, .inl (cI, 1200, .inl f_3))] H := hP
  have hD : va_D A [(h0, .inr (11, (List.set fs 1 (.int 9)))), (h1, .inl (cI, 1200, .inl f_3))] := hD
  refine lv_iinc (v := 16) (lv' := [(2, .int 16), (0, .ref h0), (1, .int p0)]) hx hb dX11_putFour_33 hl (k := 0) rfl (by decide) (by decide) rfl (fun ls hl => ?_)
  refine lv_goto (tgt := 3) hx hb dX11_putFour_36 (by decide) ?_
  refine lv_iload_n hx hb dX11_putFour_3 rfl (lv_at hl 0 rfl) ?_
  refine lv_if_lt (tgt := 39) hx hb dX11_putFour_4 (by decide) (fun c_4 => absurd c_4 (by decide)) (fun c_4 => ?_)
  refine lv_aload_n hx hb dX11_putFour_7 rfl (lv_at hl 1 rfl) ?_
  refine va_get (D := (dC, dI)) (ci := 11) (v := .ref h1) (C := RX11) (T := TX11) (N := 16) hx hb hts hiX11 hown hK hP 0 rfl rfl 0 (by decide) (hts (.fieldLink RX11 9 "CakePapers" "tape" "[I") (by decide +kernel)) (fun _ h9 => h9) (by simp [e_fs_0]) dX11_putFour_8 ?_
  refine lv_aload_n hx hb dX11_putFour_11 rfl (lv_at hl 1 rfl) ?_
  refine va_get (D := (dC, dI)) (ci := 11) (v := .int 9) (C := RX11) (T := TX11) (N := 16) hx hb hts hiX11 hown hK hP 0 rfl rfl 1 (by decide) (hts (.fieldLink RX11 107 "CakePapers" "taped" "I") (by decide +kernel)) (fun _ h9 => h9) (by simp [hn_fs]) dX11_putFour_12 ?_
  refine lv_iload_n hx hb dX11_putFour_15 rfl (lv_at hl 2 rfl) ?_
  refine lv_iload_n hx hb dX11_putFour_16 rfl (lv_at hl 0 rfl) ?_
  refine lv_iushr (v := (Int32.toUInt32 p0 >>> (Int32.toUInt32 16 &&& Int32.toUInt32 31)).toInt32) hx hb dX11_putFour_17 rfl ?_
  refine lv_topi (fun v_5 _ => ?_)
  refine lv_sipush (v := 255) hx hb dX11_putFour_18 (by decide) ?_
  refine lv_iand hx hb dX11_putFour_21 ?_
  refine va_iast hx hb hK hP hD hS 1 0 rfl rfl (zz_in (by decide)) dX11_putFour_22 (fun H locs hP hD hS => ?_)
  obtain ⟨f_6, hP, hD⟩ : ∃ f_6 : Nat → Int32, va_P (dC, dI) vwCl [(h0, .inr (11, (List.set fs 1 (.int 9)))), (h1, .inl (cI, 1200, .inl f_6))] H ∧ va_D A [(h0, .inr (11, (List.set fs 1 (.int 9)))), (h1, .inl (cI, 1200, .inl f_6))] := ⟨_, hP, hD⟩
  refine lv_aload_n hx hb dX11_putFour_23 rfl (lv_at hl 1 rfl) ?_
  refine lv_dup hx hb dX11_putFour_24 rfl ?_
  refine va_get (D := (dC, dI)) (ci := 11) (v := .int 9) (C := RX11) (T := TX11) (N := 16) hx hb hts hiX11 hown hK hP 0 rfl rfl 1 (by decide) (hts (.fieldLink RX11 107 "CakePapers" "taped" "I") (by decide +kernel)) (fun _ h9 => h9) (by simp [hn_fs]) dX11_putFour_25 ?_
  refine lv_iconst (v := 1) hx hb dX11_putFour_28 (by decide) ?_
  refine lv_iadd hx hb dX11_putFour_29 ?_
  refine zz_ci (y := 10) (by decide) ?_
  refine va_put (D := (dC, dI)) (ci := 11) (v := .int 10) (ty := .int) (C := RX11) (T := TX11) (N := 16) hx hb hts hiX11 tyX11 tyX11_ok nmX11 hown hK hP hD hS 0 rfl rfl 1 (by decide) (hts (.fieldLink RX11 107 "CakePapers" "taped" "I") (by decide +kernel)) (fun _ h9 => h9) rfl (by decide +kernel) rfl rfl (by simp [hn_fs]) dX11_putFour_30 (fun H locs hP hD hS => ?_)
  have hP : va_P (dC, dI) vwCl [(h0, .inr (11, (List.set (List.set fs 1 (.int 9)) 1 (.int 10)))), (h1, .inl (cI, 1200, .inl f_6))] H := hP
  have hD : va_D A [(h0, .inr (11, (List.set (List.set fs 1 (.int 9)) 1 (.int 10)))), (h1, .inl (cI, 1200, .inl f_6))] := hD
  refine lv_iinc (v := 8) (lv' := [(2, .int 8), (0, .ref h0), (1, .int p0)]) hx hb dX11_putFour_33 hl (k := 0) rfl (by decide) (by decide) rfl (fun ls hl => ?_)
  refine lv_goto (tgt := 3) hx hb dX11_putFour_36 (by decide) ?_
  refine lv_iload_n hx hb dX11_putFour_3 rfl (lv_at hl 0 rfl) ?_
  refine lv_if_lt (tgt := 39) hx hb dX11_putFour_4 (by decide) (fun c_7 => absurd c_7 (by decide)) (fun c_7 => ?_)
  refine lv_aload_n hx hb dX11_putFour_7 rfl (lv_at hl 1 rfl) ?_
  refine va_get (D := (dC, dI)) (ci := 11) (v := .ref h1) (C := RX11) (T := TX11) (N := 16) hx hb hts hiX11 hown hK hP 0 rfl rfl 0 (by decide) (hts (.fieldLink RX11 9 "CakePapers" "tape" "[I") (by decide +kernel)) (fun _ h9 => h9) (by simp [e_fs_0]) dX11_putFour_8 ?_
  refine lv_aload_n hx hb dX11_putFour_11 rfl (lv_at hl 1 rfl) ?_
  refine va_get (D := (dC, dI)) (ci := 11) (v := .int 10) (C := RX11) (T := TX11) (N := 16) hx hb hts hiX11 hown hK hP 0 rfl rfl 1 (by decide) (hts (.fieldLink RX11 107 "CakePapers" "taped" "I") (by decide +kernel)) (fun _ h9 => h9) (by simp [hn_fs]) dX11_putFour_12 ?_
  refine lv_iload_n hx hb dX11_putFour_15 rfl (lv_at hl 2 rfl) ?_
  refine lv_iload_n hx hb dX11_putFour_16 rfl (lv_at hl 0 rfl) ?_
  refine lv_iushr (v := (Int32.toUInt32 p0 >>> (Int32.toUInt32 8 &&& Int32.toUInt32 31)).toInt32) hx hb dX11_putFour_17 rfl ?_
  refine lv_topi (fun v_8 _ => ?_)
  refine lv_sipush (v := 255) hx hb dX11_putFour_18 (by decide) ?_
  refine lv_iand hx hb dX11_putFour_21 ?_
  refine va_iast hx hb hK hP hD hS 1 0 rfl rfl (zz_in (by decide)) dX11_putFour_22 (fun H locs hP hD hS => ?_)
  obtain ⟨f_9, hP, hD⟩ : ∃ f_9 : Nat → Int32, va_P (dC, dI) vwCl [(h0, .inr (11, (List.set (List.set fs 1 (.int 9)) 1 (.int 10)))), (h1, .inl (cI, 1200, .inl f_9))] H ∧ va_D A [(h0, .inr (11, (List.set (List.set fs 1 (.int 9)) 1 (.int 10)))), (h1, .inl (cI, 1200, .inl f_9))] := ⟨_, hP, hD⟩
  refine lv_aload_n hx hb dX11_putFour_23 rfl (lv_at hl 1 rfl) ?_
  refine lv_dup hx hb dX11_putFour_24 rfl ?_
  refine va_get (D := (dC, dI)) (ci := 11) (v := .int 10) (C := RX11) (T := TX11) (N := 16) hx hb hts hiX11 hown hK hP 0 rfl rfl 1 (by decide) (hts (.fieldLink RX11 107 "CakePapers" "taped" "I") (by decide +kernel)) (fun _ h9 => h9) (by simp [hn_fs]) dX11_putFour_25 ?_
  refine lv_iconst (v := 1) hx hb dX11_putFour_28 (by decide) ?_
  refine lv_iadd hx hb dX11_putFour_29 ?_
  refine zz_ci (y := 11) (by decide) ?_
  refine va_put (D := (dC, dI)) (ci := 11) (v := .int 11) (ty := .int) (C := RX11) (T := TX11) (N := 16) hx hb hts hiX11 tyX11 tyX11_ok nmX11 hown hK hP hD hS 0 rfl rfl 1 (by decide) (hts (.fieldLink RX11 107 "CakePapers" "taped" "I") (by decide +kernel)) (fun _ h9 => h9) rfl (by decide +kernel) rfl rfl (by simp [hn_fs]) dX11_putFour_30 (fun H locs hP hD hS => ?_)
  have hP : va_P (dC, dI) vwCl [(h0, .inr (11, (List.set (List.set (List.set fs 1 (.int 9)) 1 (.int 10)) 1 (.int 11)))), (h1, .inl (cI, 1200, .inl f_9))] H := hP
  have hD : va_D A [(h0, .inr (11, (List.set (List.set (List.set fs 1 (.int 9)) 1 (.int 10)) 1 (.int 11)))), (h1, .inl (cI, 1200, .inl f_9))] := hD
  refine lv_iinc (v := 0) (lv' := [(2, .int 0), (0, .ref h0), (1, .int p0)]) hx hb dX11_putFour_33 hl (k := 0) rfl (by decide) (by decide) rfl (fun ls hl => ?_)
  refine lv_goto (tgt := 3) hx hb dX11_putFour_36 (by decide) ?_
  refine lv_iload_n hx hb dX11_putFour_3 rfl (lv_at hl 0 rfl) ?_
  refine lv_if_lt (tgt := 39) hx hb dX11_putFour_4 (by decide) (fun c_10 => absurd c_10 (by decide)) (fun c_10 => ?_)
  refine lv_aload_n hx hb dX11_putFour_7 rfl (lv_at hl 1 rfl) ?_
  refine va_get (D := (dC, dI)) (ci := 11) (v := .ref h1) (C := RX11) (T := TX11) (N := 16) hx hb hts hiX11 hown hK hP 0 rfl rfl 0 (by decide) (hts (.fieldLink RX11 9 "CakePapers" "tape" "[I") (by decide +kernel)) (fun _ h9 => h9) (by simp [e_fs_0]) dX11_putFour_8 ?_
  refine lv_aload_n hx hb dX11_putFour_11 rfl (lv_at hl 1 rfl) ?_
  refine va_get (D := (dC, dI)) (ci := 11) (v := .int 11) (C := RX11) (T := TX11) (N := 16) hx hb hts hiX11 hown hK hP 0 rfl rfl 1 (by decide) (hts (.fieldLink RX11 107 "CakePapers" "taped" "I") (by decide +kernel)) (fun _ h9 => h9) (by simp [hn_fs]) dX11_putFour_12 ?_
  refine lv_iload_n hx hb dX11_putFour_15 rfl (lv_at hl 2 rfl) ?_
  refine lv_iload_n hx hb dX11_putFour_16 rfl (lv_at hl 0 rfl) ?_
  refine lv_iushr (v := (Int32.toUInt32 p0 >>> (Int32.toUInt32 0 &&& Int32.toUInt32 31)).toInt32) hx hb dX11_putFour_17 rfl ?_
  refine lv_topi (fun v_11 _ => ?_)
  refine lv_sipush (v := 255) hx hb dX11_putFour_18 (by decide) ?_
  refine lv_iand hx hb dX11_putFour_21 ?_
  refine va_iast hx hb hK hP hD hS 1 0 rfl rfl (zz_in (by decide)) dX11_putFour_22 (fun H locs hP hD hS => ?_)
  obtain ⟨f_12, hP, hD⟩ : ∃ f_12 : Nat → Int32, va_P (dC, dI) vwCl [(h0, .inr (11, (List.set (List.set (List.set fs 1 (.int 9)) 1 (.int 10)) 1 (.int 11)))), (h1, .inl (cI, 1200, .inl f_12))] H ∧ va_D A [(h0, .inr (11, (List.set (List.set (List.set fs 1 (.int 9)) 1 (.int 10)) 1 (.int 11)))), (h1, .inl (cI, 1200, .inl f_12))] := ⟨_, hP, hD⟩
  refine lv_aload_n hx hb dX11_putFour_23 rfl (lv_at hl 1 rfl) ?_
  refine lv_dup hx hb dX11_putFour_24 rfl ?_
  refine va_get (D := (dC, dI)) (ci := 11) (v := .int 11) (C := RX11) (T := TX11) (N := 16) hx hb hts hiX11 hown hK hP 0 rfl rfl 1 (by decide) (hts (.fieldLink RX11 107 "CakePapers" "taped" "I") (by decide +kernel)) (fun _ h9 => h9) (by simp [hn_fs]) dX11_putFour_25 ?_
  refine lv_iconst (v := 1) hx hb dX11_putFour_28 (by decide) ?_
  refine lv_iadd hx hb dX11_putFour_29 ?_
  refine zz_ci (y := 12) (by decide) ?_
  refine va_put (D := (dC, dI)) (ci := 11) (v := .int 12) (ty := .int) (C := RX11) (T := TX11) (N := 16) hx hb hts hiX11 tyX11 tyX11_ok nmX11 hown hK hP hD hS 0 rfl rfl 1 (by decide) (hts (.fieldLink RX11 107 "CakePapers" "taped" "I") (by decide +kernel)) (fun _ h9 => h9) rfl (by decide +kernel) rfl rfl (by simp [hn_fs]) dX11_putFour_30 (fun H locs hP hD hS => ?_)
  have hP : va_P (dC, dI) vwCl [(h0, .inr (11, (List.set (List.set (List.set (List.set fs 1 (.int 9)) 1 (.int 10)) 1 (.int 11)) 1 (.int 12)))), (h1, .inl (cI, 1200, .inl f_12))] H := hP
  have hD : va_D A [(h0, .inr (11, (List.set (List.set (List.set (List.set fs 1 (.int 9)) 1 (.int 10)) 1 (.int 11)) 1 (.int 12)))), (h1, .inl (cI, 1200, .inl f_12))] := hD
  refine lv_iinc (v := (-8)) (lv' := [(2, .int (-8)), (0, .ref h0), (1, .int p0)]) hx hb dX11_putFour_33 hl (k := 0) rfl (by decide) (by decide) rfl (fun ls hl => ?_)
  refine lv_goto (tgt := 3) hx hb dX11_putFour_36 (by decide) ?_
  refine lv_iload_n hx hb dX11_putFour_3 rfl (lv_at hl 0 rfl) ?_
  refine lv_if_lt (tgt := 39) hx hb dX11_putFour_4 (by decide) (fun c_13 => ?_) (fun c_13 => absurd c_13 (by decide))
  refine W.widen (k := 0) (n := 0) (Nat.le_of_ble_eq_true rfl) (Nat.le_of_ble_eq_true rfl) ?_
  have hP9 := hP.sub (ws' := [(h0, .inr (11, (List.set (List.set (List.set (List.set fs 1 (.int 9)) 1 (.int 10)) 1 (.int 11)) 1 (.int 12)))), (h1, .inl (cI, 1200, .inl f_12))]) [0, 1] rfl
  have hD9 := hD.sub (ws' := [(h0, .inr (11, (List.set (List.set (List.set (List.set fs 1 (.int 9)) 1 (.int 10)) 1 (.int 11)) 1 (.int 12)))), (h1, .inl (cI, 1200, .inl f_12))]) [0, 1] (by decide) rfl
  exact W.vret hx hb hr (fun t ht hW => ⟨⟨(), rfl, trivial, f_12, by rw [ht]; exact hP9, hD9⟩, hS.F ht⟩) hS.2.2 dX11_putFour_39
def u_c_X11_putFour_12 : List Cond := .code yX11_putFour cX11_putFour 3 none :: ([.fieldLink RX11 9 "CakePapers" "tape" "[I", .fieldLink RX11 107 "CakePapers" "taped" "I"] ++ wsX110)
set_option maxHeartbeats 1000000 in
set_option maxRecDepth 100000 in
theorem c_X11_putFour_12 (l : Launch) (dC : Nat → ClassId) (dI : Nat → Nat → Nat) (sz : Nat) (h0 h1 : Nat) (cI : ClassId) (f : Nat → Int32) (fs : List Value) (hn_fs : fs.length = 16) (e_fs_0 : fs[0]? = some (.ref h1)) (e_fs_1 : fs[1]? = some (.int 12)) (p0 : Int32) : Met l yX11_putFour u_c_X11_putFour_12 ({ frames := 0, cells := 0, slots := 0, locals := 0 }) (va_Pc [.ref h0, .int p0] (fun U => U.heap.size = sz ∧ va_P (dC, dI) vwCl [(h0, .inr (11, fs)), (h1, .inl (cI, 1200, .inl f))] U.heap ∧ va_K (dC, dI) vwCl [(cI, .int)] U ∧ va_D (fun _ => True) [(h0, .inr (11, fs)), (h1, .inl (cI, 1200, .inl f))])) (va_Qv (fun (_ : Unit) => True) (fun _ t => ∃ (f_12 : Nat → Int32), va_P (dC, dI) vwCl [(h0, .inr (11, (List.set (List.set (List.set (List.set fs 1 (.int 13)) 1 (.int 14)) 1 (.int 15)) 1 (.int 16)))), (h1, .inl (cI, 1200, .inl f_12))] t.heap ∧ va_D (va_A [(h0, .inr (11, fs)), (h1, .inl (cI, 1200, .inl f))] sz) [(h0, .inr (11, (List.set (List.set (List.set (List.set fs 1 (.int 13)) 1 (.int 14)) 1 (.int 15)) 1 (.int 16)))), (h1, .inl (cI, 1200, .inl f_12))]) (va_A [(h0, .inr (11, fs)), (h1, .inl (cI, 1200, .inl f))] sz)) 0 0 (va_A [(h0, .inr (11, fs)), (h1, .inl (cI, 1200, .inl f))] sz) := by
  refine Met.ofW (cc := cX11_putFour) (maxL := 3) (ret := none) (by decide) rfl ?_
  intro p e s m args below meth c s₁ B hml hv
  obtain ⟨rfl, hsz, hP, hK, hD0⟩ := hv
  have hx := B.exec
  have hb := B.bytes
  have hr := B.returns
  have hts := atoms_spec (ws := u_c_X11_putFour_12) B.pre
  have hown : s.vm.findClass RX11 = some m.cls := findClass_of_methodNamed B.named
  have hlocks := B.notSynchronized
  have hiX11 : ∀ w ∈ wsX110, w ∈ u_c_X11_putFour_12 := fun w h => List.mem_cons_of_mem _ (List.mem_append_right _ h)
  subst hsz
  have hD := hD0.self (sz := s.heap.size)
  generalize hAe : va_A [(h0, .inr (11, fs)), (h1, .inl (cI, 1200, .inl f))] s.heap.size = A at hD ⊢
  have hA : ∀ q : Nat, s.heap.size ≤ q → A q := fun q h => by rw [← hAe]; exact Or.inr h
  have hS : va_S A s.heap s.heap [] := va_S.rf
  obtain ⟨H, hH⟩ : ∃ H : Heap, H = s.heap := ⟨_, rfl⟩
  have hP : va_P (dC, dI) vwCl [(h0, .inr (11, fs)), (h1, .inl (cI, 1200, .inl f))] H := by rw [hH]; exact hP
  have hS : va_S A s.heap H [] := by rw [hH]; exact hS
  have hl := lv_entry ([.ref h0, .int p0]) (n := 3) (Nat.le_of_ble_eq_true rfl)
  rw [lg_entry_eq]
  generalize (lg_sl ([.ref h0, .int p0]) ++ List.replicate (3 - (lg_sl ([.ref h0, .int p0])).length) Slot.unset).toArray = ls at hl ⊢
  have hl : lv_has ls 3 [(0, .ref h0), (1, .int p0)] := hl
  suffices h9 : W p l e (headSpec u_c_X11_putFour_12 _).room s m _ below meth c H [] 0 0 _ (F0 m 0 ls []) by rw [hH] at h9; exact h9
  refine lv_bipush (v := 24) hx hb dX11_putFour_0 (by decide) ?_
  refine lv_istore_n (lv' := [(2, .int 24), (0, .ref h0), (1, .int p0)]) hx hb dX11_putFour_2 rfl hl (by decide) rfl (fun ls hl => ?_)
  refine lv_iload_n hx hb dX11_putFour_3 rfl (lv_at hl 0 rfl) ?_
  refine lv_if_lt (tgt := 39) hx hb dX11_putFour_4 (by decide) (fun c_1 => absurd c_1 (by decide)) (fun c_1 => ?_)
  refine lv_aload_n hx hb dX11_putFour_7 rfl (lv_at hl 1 rfl) ?_
  refine va_get (D := (dC, dI)) (ci := 11) (v := .ref h1) (C := RX11) (T := TX11) (N := 16) hx hb hts hiX11 hown hK hP 0 rfl rfl 0 (by decide) (hts (.fieldLink RX11 9 "CakePapers" "tape" "[I") (by decide +kernel)) (fun _ h9 => h9) e_fs_0 dX11_putFour_8 ?_
  refine lv_aload_n hx hb dX11_putFour_11 rfl (lv_at hl 1 rfl) ?_
  refine va_get (D := (dC, dI)) (ci := 11) (v := .int 12) (C := RX11) (T := TX11) (N := 16) hx hb hts hiX11 hown hK hP 0 rfl rfl 1 (by decide) (hts (.fieldLink RX11 107 "CakePapers" "taped" "I") (by decide +kernel)) (fun _ h9 => h9) e_fs_1 dX11_putFour_12 ?_
  refine lv_iload_n hx hb dX11_putFour_15 rfl (lv_at hl 2 rfl) ?_
  refine lv_iload_n hx hb dX11_putFour_16 rfl (lv_at hl 0 rfl) ?_
  refine lv_iushr (v := (Int32.toUInt32 p0 >>> (Int32.toUInt32 24 &&& Int32.toUInt32 31)).toInt32) hx hb dX11_putFour_17 rfl ?_
  refine lv_topi (fun v_2 _ => ?_)
  refine lv_sipush (v := 255) hx hb dX11_putFour_18 (by decide) ?_
  refine lv_iand hx hb dX11_putFour_21 ?_
  refine va_iast hx hb hK hP hD hS 1 0 rfl rfl (zz_in (by decide)) dX11_putFour_22 (fun H locs hP hD hS => ?_)
  obtain ⟨f_3, hP, hD⟩ : ∃ f_3 : Nat → Int32, va_P (dC, dI) vwCl [(h0, .inr (11, fs)), (h1, .inl (cI, 1200, .inl f_3))] H ∧ va_D A [(h0, .inr (11, fs)), (h1, .inl (cI, 1200, .inl f_3))] := ⟨_, hP, hD⟩
  refine lv_aload_n hx hb dX11_putFour_23 rfl (lv_at hl 1 rfl) ?_
  refine lv_dup hx hb dX11_putFour_24 rfl ?_
  refine va_get (D := (dC, dI)) (ci := 11) (v := .int 12) (C := RX11) (T := TX11) (N := 16) hx hb hts hiX11 hown hK hP 0 rfl rfl 1 (by decide) (hts (.fieldLink RX11 107 "CakePapers" "taped" "I") (by decide +kernel)) (fun _ h9 => h9) e_fs_1 dX11_putFour_25 ?_
  refine lv_iconst (v := 1) hx hb dX11_putFour_28 (by decide) ?_
  refine lv_iadd hx hb dX11_putFour_29 ?_
  refine zz_ci (y := 13) (by decide) ?_
  refine va_put (D := (dC, dI)) (ci := 11) (v := .int 13) (ty := .int) (C := RX11) (T := TX11) (N := 16) hx hb hts hiX11 tyX11 tyX11_ok nmX11 hown hK hP hD hS 0 rfl rfl 1 (by decide) (hts (.fieldLink RX11 107 "CakePapers" "taped" "I") (by decide +kernel)) (fun _ h9 => h9) rfl (by decide +kernel) rfl rfl (by simp [hn_fs]) dX11_putFour_30 (fun H locs hP hD hS => ?_)
  have hP : va_P (dC, dI) vwCl [(h0, .inr (11, (List.set fs 1 (.int 13)))), (h1, .inl (cI, 1200, .inl f_3))] H := hP
  have hD : va_D A [(h0, .inr (11, (List.set fs 1 (.int 13)))), (h1, .inl (cI, 1200, .inl f_3))] := hD
  refine lv_iinc (v := 16) (lv' := [(2, .int 16), (0, .ref h0), (1, .int p0)]) hx hb dX11_putFour_33 hl (k := 0) rfl (by decide) (by decide) rfl (fun ls hl => ?_)
  refine lv_goto (tgt := 3) hx hb dX11_putFour_36 (by decide) ?_
  refine lv_iload_n hx hb dX11_putFour_3 rfl (lv_at hl 0 rfl) ?_
  refine lv_if_lt (tgt := 39) hx hb dX11_putFour_4 (by decide) (fun c_4 => absurd c_4 (by decide)) (fun c_4 => ?_)
  refine lv_aload_n hx hb dX11_putFour_7 rfl (lv_at hl 1 rfl) ?_
  refine va_get (D := (dC, dI)) (ci := 11) (v := .ref h1) (C := RX11) (T := TX11) (N := 16) hx hb hts hiX11 hown hK hP 0 rfl rfl 0 (by decide) (hts (.fieldLink RX11 9 "CakePapers" "tape" "[I") (by decide +kernel)) (fun _ h9 => h9) (by simp [e_fs_0]) dX11_putFour_8 ?_
  refine lv_aload_n hx hb dX11_putFour_11 rfl (lv_at hl 1 rfl) ?_
  refine va_get (D := (dC, dI)) (ci := 11) (v := .int 13) (C := RX11) (T := TX11) (N := 16) hx hb hts hiX11 hown hK hP 0 rfl rfl 1 (by decide) (hts (.fieldLink RX11 107 "CakePapers" "taped" "I") (by decide +kernel)) (fun _ h9 => h9) (by simp [hn_fs]) dX11_putFour_12 ?_
  refine lv_iload_n hx hb dX11_putFour_15 rfl (lv_at hl 2 rfl) ?_
  refine lv_iload_n hx hb dX11_putFour_16 rfl (lv_at hl 0 rfl) ?_
  refine lv_iushr (v := (Int32.toUInt32 p0 >>> (Int32.toUInt32 16 &&& Int32.toUInt32 31)).toInt32) hx hb dX11_putFour_17 rfl ?_
  refine lv_topi (fun v_5 _ => ?_)
  refine lv_sipush (v := 255) hx hb dX11_putFour_18 (by decide) ?_
  refine lv_iand hx hb dX11_putFour_21 ?_
  refine va_iast hx hb hK hP hD hS 1 0 rfl rfl (zz_in (by decide)) dX11_putFour_22 (fun H locs hP hD hS => ?_)
  obtain ⟨f_6, hP, hD⟩ : ∃ f_6 : Nat → Int32, va_P (dC, dI) vwCl [(h0, .inr (11, (List.set fs 1 (.int 13)))), (h1, .inl (cI, 1200, .inl f_6))] H ∧ va_D A [(h0, .inr (11, (List.set fs 1 (.int 13)))), (h1, .inl (cI, 1200, .inl f_6))] := ⟨_, hP, hD⟩
  refine lv_aload_n hx hb dX11_putFour_23 rfl (lv_at hl 1 rfl) ?_
  refine lv_dup hx hb dX11_putFour_24 rfl ?_
  refine va_get (D := (dC, dI)) (ci := 11) (v := .int 13) (C := RX11) (T := TX11) (N := 16) hx hb hts hiX11 hown hK hP 0 rfl rfl 1 (by decide) (hts (.fieldLink RX11 107 "CakePapers" "taped" "I") (by decide +kernel)) (fun _ h9 => h9) (by simp [hn_fs]) dX11_putFour_25 ?_
  refine lv_iconst (v := 1) hx hb dX11_putFour_28 (by decide) ?_
  refine lv_iadd hx hb dX11_putFour_29 ?_
  refine zz_ci (y := 14) (by decide) ?_
  refine va_put (D := (dC, dI)) (ci := 11) (v := .int 14) (ty := .int) (C := RX11) (T := TX11) (N := 16) hx hb hts hiX11 tyX11 tyX11_ok nmX11 hown hK hP hD hS 0 rfl rfl 1 (by decide) (hts (.fieldLink RX11 107 "CakePapers" "taped" "I") (by decide +kernel)) (fun _ h9 => h9) rfl (by decide +kernel) rfl rfl (by simp [hn_fs]) dX11_putFour_30 (fun H locs hP hD hS => ?_)
  have hP : va_P (dC, dI) vwCl [(h0, .inr (11, (List.set (List.set fs 1 (.int 13)) 1 (.int 14)))), (h1, .inl (cI, 1200, .inl f_6))] H := hP
  have hD : va_D A [(h0, .inr (11, (List.set (List.set fs 1 (.int 13)) 1 (.int 14)))), (h1, .inl (cI, 1200, .inl f_6))] := hD
  refine lv_iinc (v := 8) (lv' := [(2, .int 8), (0, .ref h0), (1, .int p0)]) hx hb dX11_putFour_33 hl (k := 0) rfl (by decide) (by decide) rfl (fun ls hl => ?_)
  refine lv_goto (tgt := 3) hx hb dX11_putFour_36 (by decide) ?_
  refine lv_iload_n hx hb dX11_putFour_3 rfl (lv_at hl 0 rfl) ?_
  refine lv_if_lt (tgt := 39) hx hb dX11_putFour_4 (by decide) (fun c_7 => absurd c_7 (by decide)) (fun c_7 => ?_)
  refine lv_aload_n hx hb dX11_putFour_7 rfl (lv_at hl 1 rfl) ?_
  refine va_get (D := (dC, dI)) (ci := 11) (v := .ref h1) (C := RX11) (T := TX11) (N := 16) hx hb hts hiX11 hown hK hP 0 rfl rfl 0 (by decide) (hts (.fieldLink RX11 9 "CakePapers" "tape" "[I") (by decide +kernel)) (fun _ h9 => h9) (by simp [e_fs_0]) dX11_putFour_8 ?_
  refine lv_aload_n hx hb dX11_putFour_11 rfl (lv_at hl 1 rfl) ?_
  refine va_get (D := (dC, dI)) (ci := 11) (v := .int 14) (C := RX11) (T := TX11) (N := 16) hx hb hts hiX11 hown hK hP 0 rfl rfl 1 (by decide) (hts (.fieldLink RX11 107 "CakePapers" "taped" "I") (by decide +kernel)) (fun _ h9 => h9) (by simp [hn_fs]) dX11_putFour_12 ?_
  refine lv_iload_n hx hb dX11_putFour_15 rfl (lv_at hl 2 rfl) ?_
  refine lv_iload_n hx hb dX11_putFour_16 rfl (lv_at hl 0 rfl) ?_
  refine lv_iushr (v := (Int32.toUInt32 p0 >>> (Int32.toUInt32 8 &&& Int32.toUInt32 31)).toInt32) hx hb dX11_putFour_17 rfl ?_
  refine lv_topi (fun v_8 _ => ?_)
  refine lv_sipush (v := 255) hx hb dX11_putFour_18 (by decide) ?_
  refine lv_iand hx hb dX11_putFour_21 ?_
  refine va_iast hx hb hK hP hD hS 1 0 rfl rfl (zz_in (by decide)) dX11_putFour_22 (fun H locs hP hD hS => ?_)
  obtain ⟨f_9, hP, hD⟩ : ∃ f_9 : Nat → Int32, va_P (dC, dI) vwCl [(h0, .inr (11, (List.set (List.set fs 1 (.int 13)) 1 (.int 14)))), (h1, .inl (cI, 1200, .inl f_9))] H ∧ va_D A [(h0, .inr (11, (List.set (List.set fs 1 (.int 13)) 1 (.int 14)))), (h1, .inl (cI, 1200, .inl f_9))] := ⟨_, hP, hD⟩
  refine lv_aload_n hx hb dX11_putFour_23 rfl (lv_at hl 1 rfl) ?_
  refine lv_dup hx hb dX11_putFour_24 rfl ?_
  refine va_get (D := (dC, dI)) (ci := 11) (v := .int 14) (C := RX11) (T := TX11) (N := 16) hx hb hts hiX11 hown hK hP 0 rfl rfl 1 (by decide) (hts (.fieldLink RX11 107 "CakePapers" "taped" "I") (by decide +kernel)) (fun _ h9 => h9) (by simp [hn_fs]) dX11_putFour_25 ?_
  refine lv_iconst (v := 1) hx hb dX11_putFour_28 (by decide) ?_
  refine lv_iadd hx hb dX11_putFour_29 ?_
  refine zz_ci (y := 15) (by decide) ?_
  refine va_put (D := (dC, dI)) (ci := 11) (v := .int 15) (ty := .int) (C := RX11) (T := TX11) (N := 16) hx hb hts hiX11 tyX11 tyX11_ok nmX11 hown hK hP hD hS 0 rfl rfl 1 (by decide) (hts (.fieldLink RX11 107 "CakePapers" "taped" "I") (by decide +kernel)) (fun _ h9 => h9) rfl (by decide +kernel) rfl rfl (by simp [hn_fs]) dX11_putFour_30 (fun H locs hP hD hS => ?_)
  have hP : va_P (dC, dI) vwCl [(h0, .inr (11, (List.set (List.set (List.set fs 1 (.int 13)) 1 (.int 14)) 1 (.int 15)))), (h1, .inl (cI, 1200, .inl f_9))] H := hP
  have hD : va_D A [(h0, .inr (11, (List.set (List.set (List.set fs 1 (.int 13)) 1 (.int 14)) 1 (.int 15)))), (h1, .inl (cI, 1200, .inl f_9))] := hD
  refine lv_iinc (v := 0) (lv' := [(2, .int 0), (0, .ref h0), (1, .int p0)]) hx hb dX11_putFour_33 hl (k := 0) rfl (by decide) (by decide) rfl (fun ls hl => ?_)
  refine lv_goto (tgt := 3) hx hb dX11_putFour_36 (by decide) ?_
  refine lv_iload_n hx hb dX11_putFour_3 rfl (lv_at hl 0 rfl) ?_
  refine lv_if_lt (tgt := 39) hx hb dX11_putFour_4 (by decide) (fun c_10 => absurd c_10 (by decide)) (fun c_10 => ?_)
  refine lv_aload_n hx hb dX11_putFour_7 rfl (lv_at hl 1 rfl) ?_
  refine va_get (D := (dC, dI)) (ci := 11) (v := .ref h1) (C := RX11) (T := TX11) (N := 16) hx hb hts hiX11 hown hK hP 0 rfl rfl 0 (by decide) (hts (.fieldLink RX11 9 "CakePapers" "tape" "[I") (by decide +kernel)) (fun _ h9 => h9) (by simp [e_fs_0]) dX11_putFour_8 ?_
  refine lv_aload_n hx hb dX11_putFour_11 rfl (lv_at hl 1 rfl) ?_
  refine va_get (D := (dC, dI)) (ci := 11) (v := .int 15) (C := RX11) (T := TX11) (N := 16) hx hb hts hiX11 hown hK hP 0 rfl rfl 1 (by decide) (hts (.fieldLink RX11 107 "CakePapers" "taped" "I") (by decide +kernel)) (fun _ h9 => h9) (by simp [hn_fs]) dX11_putFour_12 ?_
  refine lv_iload_n hx hb dX11_putFour_15 rfl (lv_at hl 2 rfl) ?_
  refine lv_iload_n hx hb dX11_putFour_16 rfl (lv_at hl 0 rfl) ?_
  refine lv_iushr (v := (Int32.toUInt32 p0 >>> (Int32.toUInt32 0 &&& Int32.toUInt32 31)).toInt32) hx hb dX11_putFour_17 rfl ?_
  refine lv_topi (fun v_11 _ => ?_)
  refine lv_sipush (v := 255) hx hb dX11_putFour_18 (by decide) ?_
  refine lv_iand hx hb dX11_putFour_21 ?_
  refine va_iast hx hb hK hP hD hS 1 0 rfl rfl (zz_in (by decide)) dX11_putFour_22 (fun H locs hP hD hS => ?_)
  obtain ⟨f_12, hP, hD⟩ : ∃ f_12 : Nat → Int32, va_P (dC, dI) vwCl [(h0, .inr (11, (List.set (List.set (List.set fs 1 (.int 13)) 1 (.int 14)) 1 (.int 15)))), (h1, .inl (cI, 1200, .inl f_12))] H ∧ va_D A [(h0, .inr (11, (List.set (List.set (List.set fs 1 (.int 13)) 1 (.int 14)) 1 (.int 15)))), (h1, .inl (cI, 1200, .inl f_12))] := ⟨_, hP, hD⟩
  refine lv_aload_n hx hb dX11_putFour_23 rfl (lv_at hl 1 rfl) ?_
  refine lv_dup hx hb dX11_putFour_24 rfl ?_
  refine va_get (D := (dC, dI)) (ci := 11) (v := .int 15) (C := RX11) (T := TX11) (N := 16) hx hb hts hiX11 hown hK hP 0 rfl rfl 1 (by decide) (hts (.fieldLink RX11 107 "CakePapers" "taped" "I") (by decide +kernel)) (fun _ h9 => h9) (by simp [hn_fs]) dX11_putFour_25 ?_
  refine lv_iconst (v := 1) hx hb dX11_putFour_28 (by decide) ?_
  refine lv_iadd hx hb dX11_putFour_29 ?_
  refine zz_ci (y := 16) (by decide) ?_
  refine va_put (D := (dC, dI)) (ci := 11) (v := .int 16) (ty := .int) (C := RX11) (T := TX11) (N := 16) hx hb hts hiX11 tyX11 tyX11_ok nmX11 hown hK hP hD hS 0 rfl rfl 1 (by decide) (hts (.fieldLink RX11 107 "CakePapers" "taped" "I") (by decide +kernel)) (fun _ h9 => h9) rfl (by decide +kernel) rfl rfl (by simp [hn_fs]) dX11_putFour_30 (fun H locs hP hD hS => ?_)
  have hP : va_P (dC, dI) vwCl [(h0, .inr (11, (List.set (List.set (List.set (List.set fs 1 (.int 13)) 1 (.int 14)) 1 (.int 15)) 1 (.int 16)))), (h1, .inl (cI, 1200, .inl f_12))] H := hP
  have hD : va_D A [(h0, .inr (11, (List.set (List.set (List.set (List.set fs 1 (.int 13)) 1 (.int 14)) 1 (.int 15)) 1 (.int 16)))), (h1, .inl (cI, 1200, .inl f_12))] := hD
  refine lv_iinc (v := (-8)) (lv' := [(2, .int (-8)), (0, .ref h0), (1, .int p0)]) hx hb dX11_putFour_33 hl (k := 0) rfl (by decide) (by decide) rfl (fun ls hl => ?_)
  refine lv_goto (tgt := 3) hx hb dX11_putFour_36 (by decide) ?_
  refine lv_iload_n hx hb dX11_putFour_3 rfl (lv_at hl 0 rfl) ?_
  refine lv_if_lt (tgt := 39) hx hb dX11_putFour_4 (by decide) (fun c_13 => ?_) (fun c_13 => absurd c_13 (by decide))
  refine W.widen (k := 0) (n := 0) (Nat.le_of_ble_eq_true rfl) (Nat.le_of_ble_eq_true rfl) ?_
  have hP9 := hP.sub (ws' := [(h0, .inr (11, (List.set (List.set (List.set (List.set fs 1 (.int 13)) 1 (.int 14)) 1 (.int 15)) 1 (.int 16)))), (h1, .inl (cI, 1200, .inl f_12))]) [0, 1] rfl
  have hD9 := hD.sub (ws' := [(h0, .inr (11, (List.set (List.set (List.set (List.set fs 1 (.int 13)) 1 (.int 14)) 1 (.int 15)) 1 (.int 16)))), (h1, .inl (cI, 1200, .inl f_12))]) [0, 1] (by decide) rfl
  exact W.vret hx hb hr (fun t ht hW => ⟨⟨(), rfl, trivial, f_12, by rw [ht]; exact hP9, hD9⟩, hS.F ht⟩) hS.2.2 dX11_putFour_39
def u_c_X11_putFour_16 : List Cond := .code yX11_putFour cX11_putFour 3 none :: ([.fieldLink RX11 9 "CakePapers" "tape" "[I", .fieldLink RX11 107 "CakePapers" "taped" "I"] ++ wsX110)
set_option maxHeartbeats 1000000 in
set_option maxRecDepth 100000 in
theorem c_X11_putFour_16 (l : Launch) (dC : Nat → ClassId) (dI : Nat → Nat → Nat) (sz : Nat) (h0 h1 : Nat) (cI : ClassId) (f : Nat → Int32) (fs : List Value) (hn_fs : fs.length = 16) (e_fs_0 : fs[0]? = some (.ref h1)) (e_fs_1 : fs[1]? = some (.int 16)) (p0 : Int32) : Met l yX11_putFour u_c_X11_putFour_16 ({ frames := 0, cells := 0, slots := 0, locals := 0 }) (va_Pc [.ref h0, .int p0] (fun U => U.heap.size = sz ∧ va_P (dC, dI) vwCl [(h0, .inr (11, fs)), (h1, .inl (cI, 1200, .inl f))] U.heap ∧ va_K (dC, dI) vwCl [(cI, .int)] U ∧ va_D (fun _ => True) [(h0, .inr (11, fs)), (h1, .inl (cI, 1200, .inl f))])) (va_Qv (fun (_ : Unit) => True) (fun _ t => ∃ (f_12 : Nat → Int32), va_P (dC, dI) vwCl [(h0, .inr (11, (List.set (List.set (List.set (List.set fs 1 (.int 17)) 1 (.int 18)) 1 (.int 19)) 1 (.int 20)))), (h1, .inl (cI, 1200, .inl f_12))] t.heap ∧ va_D (va_A [(h0, .inr (11, fs)), (h1, .inl (cI, 1200, .inl f))] sz) [(h0, .inr (11, (List.set (List.set (List.set (List.set fs 1 (.int 17)) 1 (.int 18)) 1 (.int 19)) 1 (.int 20)))), (h1, .inl (cI, 1200, .inl f_12))]) (va_A [(h0, .inr (11, fs)), (h1, .inl (cI, 1200, .inl f))] sz)) 0 0 (va_A [(h0, .inr (11, fs)), (h1, .inl (cI, 1200, .inl f))] sz) := by
  refine Met.ofW (cc := cX11_putFour) (maxL := 3) (ret := none) (by decide) rfl ?_
  intro p e s m args below meth c s₁ B hml hv
  obtain ⟨rfl, hsz, hP, hK, hD0⟩ := hv
  have hx := B.exec
  have hb := B.bytes
  have hr := B.returns
  have hts := atoms_spec (ws := u_c_X11_putFour_16) B.pre
  have hown : s.vm.findClass RX11 = some m.cls := findClass_of_methodNamed B.named
  have hlocks := B.notSynchronized
  have hiX11 : ∀ w ∈ wsX110, w ∈ u_c_X11_putFour_16 := fun w h => List.mem_cons_of_mem _ (List.mem_append_right _ h)
  subst hsz
  have hD := hD0.self (sz := s.heap.size)
  generalize hAe : va_A [(h0, .inr (11, fs)), (h1, .inl (cI, 1200, .inl f))] s.heap.size = A at hD ⊢
  have hA : ∀ q : Nat, s.heap.size ≤ q → A q := fun q h => by rw [← hAe]; exact Or.inr h
  have hS : va_S A s.heap s.heap [] := va_S.rf
  obtain ⟨H, hH⟩ : ∃ H : Heap, H = s.heap := ⟨_, rfl⟩
  have hP : va_P (dC, dI) vwCl [(h0, .inr (11, fs)), (h1, .inl (cI, 1200, .inl f))] H := by rw [hH]; exact hP
  have hS : va_S A s.heap H [] := by rw [hH]; exact hS
  have hl := lv_entry ([.ref h0, .int p0]) (n := 3) (Nat.le_of_ble_eq_true rfl)
  rw [lg_entry_eq]
  generalize (lg_sl ([.ref h0, .int p0]) ++ List.replicate (3 - (lg_sl ([.ref h0, .int p0])).length) Slot.unset).toArray = ls at hl ⊢
  have hl : lv_has ls 3 [(0, .ref h0), (1, .int p0)] := hl
  suffices h9 : W p l e (headSpec u_c_X11_putFour_16 _).room s m _ below meth c H [] 0 0 _ (F0 m 0 ls []) by rw [hH] at h9; exact h9
  refine lv_bipush (v := 24) hx hb dX11_putFour_0 (by decide) ?_
  refine lv_istore_n (lv' := [(2, .int 24), (0, .ref h0), (1, .int p0)]) hx hb dX11_putFour_2 rfl hl (by decide) rfl (fun ls hl => ?_)
  refine lv_iload_n hx hb dX11_putFour_3 rfl (lv_at hl 0 rfl) ?_
  refine lv_if_lt (tgt := 39) hx hb dX11_putFour_4 (by decide) (fun c_1 => absurd c_1 (by decide)) (fun c_1 => ?_)
  refine lv_aload_n hx hb dX11_putFour_7 rfl (lv_at hl 1 rfl) ?_
  refine va_get (D := (dC, dI)) (ci := 11) (v := .ref h1) (C := RX11) (T := TX11) (N := 16) hx hb hts hiX11 hown hK hP 0 rfl rfl 0 (by decide) (hts (.fieldLink RX11 9 "CakePapers" "tape" "[I") (by decide +kernel)) (fun _ h9 => h9) e_fs_0 dX11_putFour_8 ?_
  refine lv_aload_n hx hb dX11_putFour_11 rfl (lv_at hl 1 rfl) ?_
  refine va_get (D := (dC, dI)) (ci := 11) (v := .int 16) (C := RX11) (T := TX11) (N := 16) hx hb hts hiX11 hown hK hP 0 rfl rfl 1 (by decide) (hts (.fieldLink RX11 107 "CakePapers" "taped" "I") (by decide +kernel)) (fun _ h9 => h9) e_fs_1 dX11_putFour_12 ?_
  refine lv_iload_n hx hb dX11_putFour_15 rfl (lv_at hl 2 rfl) ?_
  refine lv_iload_n hx hb dX11_putFour_16 rfl (lv_at hl 0 rfl) ?_
  refine lv_iushr (v := (Int32.toUInt32 p0 >>> (Int32.toUInt32 24 &&& Int32.toUInt32 31)).toInt32) hx hb dX11_putFour_17 rfl ?_
  refine lv_topi (fun v_2 _ => ?_)
  refine lv_sipush (v := 255) hx hb dX11_putFour_18 (by decide) ?_
  refine lv_iand hx hb dX11_putFour_21 ?_
  refine va_iast hx hb hK hP hD hS 1 0 rfl rfl (zz_in (by decide)) dX11_putFour_22 (fun H locs hP hD hS => ?_)
  obtain ⟨f_3, hP, hD⟩ : ∃ f_3 : Nat → Int32, va_P (dC, dI) vwCl [(h0, .inr (11, fs)), (h1, .inl (cI, 1200, .inl f_3))] H ∧ va_D A [(h0, .inr (11, fs)), (h1, .inl (cI, 1200, .inl f_3))] := ⟨_, hP, hD⟩
  refine lv_aload_n hx hb dX11_putFour_23 rfl (lv_at hl 1 rfl) ?_
  refine lv_dup hx hb dX11_putFour_24 rfl ?_
  refine va_get (D := (dC, dI)) (ci := 11) (v := .int 16) (C := RX11) (T := TX11) (N := 16) hx hb hts hiX11 hown hK hP 0 rfl rfl 1 (by decide) (hts (.fieldLink RX11 107 "CakePapers" "taped" "I") (by decide +kernel)) (fun _ h9 => h9) e_fs_1 dX11_putFour_25 ?_
  refine lv_iconst (v := 1) hx hb dX11_putFour_28 (by decide) ?_
  refine lv_iadd hx hb dX11_putFour_29 ?_
  refine zz_ci (y := 17) (by decide) ?_
  refine va_put (D := (dC, dI)) (ci := 11) (v := .int 17) (ty := .int) (C := RX11) (T := TX11) (N := 16) hx hb hts hiX11 tyX11 tyX11_ok nmX11 hown hK hP hD hS 0 rfl rfl 1 (by decide) (hts (.fieldLink RX11 107 "CakePapers" "taped" "I") (by decide +kernel)) (fun _ h9 => h9) rfl (by decide +kernel) rfl rfl (by simp [hn_fs]) dX11_putFour_30 (fun H locs hP hD hS => ?_)
  have hP : va_P (dC, dI) vwCl [(h0, .inr (11, (List.set fs 1 (.int 17)))), (h1, .inl (cI, 1200, .inl f_3))] H := hP
  have hD : va_D A [(h0, .inr (11, (List.set fs 1 (.int 17)))), (h1, .inl (cI, 1200, .inl f_3))] := hD
  refine lv_iinc (v := 16) (lv' := [(2, .int 16), (0, .ref h0), (1, .int p0)]) hx hb dX11_putFour_33 hl (k := 0) rfl (by decide) (by decide) rfl (fun ls hl => ?_)
  refine lv_goto (tgt := 3) hx hb dX11_putFour_36 (by decide) ?_
  refine lv_iload_n hx hb dX11_putFour_3 rfl (lv_at hl 0 rfl) ?_
  refine lv_if_lt (tgt := 39) hx hb dX11_putFour_4 (by decide) (fun c_4 => absurd c_4 (by decide)) (fun c_4 => ?_)
  refine lv_aload_n hx hb dX11_putFour_7 rfl (lv_at hl 1 rfl) ?_
  refine va_get (D := (dC, dI)) (ci := 11) (v := .ref h1) (C := RX11) (T := TX11) (N := 16) hx hb hts hiX11 hown hK hP 0 rfl rfl 0 (by decide) (hts (.fieldLink RX11 9 "CakePapers" "tape" "[I") (by decide +kernel)) (fun _ h9 => h9) (by simp [e_fs_0]) dX11_putFour_8 ?_
  refine lv_aload_n hx hb dX11_putFour_11 rfl (lv_at hl 1 rfl) ?_
  refine va_get (D := (dC, dI)) (ci := 11) (v := .int 17) (C := RX11) (T := TX11) (N := 16) hx hb hts hiX11 hown hK hP 0 rfl rfl 1 (by decide) (hts (.fieldLink RX11 107 "CakePapers" "taped" "I") (by decide +kernel)) (fun _ h9 => h9) (by simp [hn_fs]) dX11_putFour_12 ?_
  refine lv_iload_n hx hb dX11_putFour_15 rfl (lv_at hl 2 rfl) ?_
  refine lv_iload_n hx hb dX11_putFour_16 rfl (lv_at hl 0 rfl) ?_
  refine lv_iushr (v := (Int32.toUInt32 p0 >>> (Int32.toUInt32 16 &&& Int32.toUInt32 31)).toInt32) hx hb dX11_putFour_17 rfl ?_
  refine lv_topi (fun v_5 _ => ?_)
  refine lv_sipush (v := 255) hx hb dX11_putFour_18 (by decide) ?_
  refine lv_iand hx hb dX11_putFour_21 ?_
  refine va_iast hx hb hK hP hD hS 1 0 rfl rfl (zz_in (by decide)) dX11_putFour_22 (fun H locs hP hD hS => ?_)
  obtain ⟨f_6, hP, hD⟩ : ∃ f_6 : Nat → Int32, va_P (dC, dI) vwCl [(h0, .inr (11, (List.set fs 1 (.int 17)))), (h1, .inl (cI, 1200, .inl f_6))] H ∧ va_D A [(h0, .inr (11, (List.set fs 1 (.int 17)))), (h1, .inl (cI, 1200, .inl f_6))] := ⟨_, hP, hD⟩
  refine lv_aload_n hx hb dX11_putFour_23 rfl (lv_at hl 1 rfl) ?_
  refine lv_dup hx hb dX11_putFour_24 rfl ?_
  refine va_get (D := (dC, dI)) (ci := 11) (v := .int 17) (C := RX11) (T := TX11) (N := 16) hx hb hts hiX11 hown hK hP 0 rfl rfl 1 (by decide) (hts (.fieldLink RX11 107 "CakePapers" "taped" "I") (by decide +kernel)) (fun _ h9 => h9) (by simp [hn_fs]) dX11_putFour_25 ?_
  refine lv_iconst (v := 1) hx hb dX11_putFour_28 (by decide) ?_
  refine lv_iadd hx hb dX11_putFour_29 ?_
  refine zz_ci (y := 18) (by decide) ?_
  refine va_put (D := (dC, dI)) (ci := 11) (v := .int 18) (ty := .int) (C := RX11) (T := TX11) (N := 16) hx hb hts hiX11 tyX11 tyX11_ok nmX11 hown hK hP hD hS 0 rfl rfl 1 (by decide) (hts (.fieldLink RX11 107 "CakePapers" "taped" "I") (by decide +kernel)) (fun _ h9 => h9) rfl (by decide +kernel) rfl rfl (by simp [hn_fs]) dX11_putFour_30 (fun H locs hP hD hS => ?_)
  have hP : va_P (dC, dI) vwCl [(h0, .inr (11, (List.set (List.set fs 1 (.int 17)) 1 (.int 18)))), (h1, .inl (cI, 1200, .inl f_6))] H := hP
  have hD : va_D A [(h0, .inr (11, (List.set (List.set fs 1 (.int 17)) 1 (.int 18)))), (h1, .inl (cI, 1200, .inl f_6))] := hD
  refine lv_iinc (v := 8) (lv' := [(2, .int 8), (0, .ref h0), (1, .int p0)]) hx hb dX11_putFour_33 hl (k := 0) rfl (by decide) (by decide) rfl (fun ls hl => ?_)
  refine lv_goto (tgt := 3) hx hb dX11_putFour_36 (by decide) ?_
  refine lv_iload_n hx hb dX11_putFour_3 rfl (lv_at hl 0 rfl) ?_
  refine lv_if_lt (tgt := 39) hx hb dX11_putFour_4 (by decide) (fun c_7 => absurd c_7 (by decide)) (fun c_7 => ?_)
  refine lv_aload_n hx hb dX11_putFour_7 rfl (lv_at hl 1 rfl) ?_
  refine va_get (D := (dC, dI)) (ci := 11) (v := .ref h1) (C := RX11) (T := TX11) (N := 16) hx hb hts hiX11 hown hK hP 0 rfl rfl 0 (by decide) (hts (.fieldLink RX11 9 "CakePapers" "tape" "[I") (by decide +kernel)) (fun _ h9 => h9) (by simp [e_fs_0]) dX11_putFour_8 ?_
  refine lv_aload_n hx hb dX11_putFour_11 rfl (lv_at hl 1 rfl) ?_
  refine va_get (D := (dC, dI)) (ci := 11) (v := .int 18) (C := RX11) (T := TX11) (N := 16) hx hb hts hiX11 hown hK hP 0 rfl rfl 1 (by decide) (hts (.fieldLink RX11 107 "CakePapers" "taped" "I") (by decide +kernel)) (fun _ h9 => h9) (by simp [hn_fs]) dX11_putFour_12 ?_
  refine lv_iload_n hx hb dX11_putFour_15 rfl (lv_at hl 2 rfl) ?_
  refine lv_iload_n hx hb dX11_putFour_16 rfl (lv_at hl 0 rfl) ?_
  refine lv_iushr (v := (Int32.toUInt32 p0 >>> (Int32.toUInt32 8 &&& Int32.toUInt32 31)).toInt32) hx hb dX11_putFour_17 rfl ?_
  refine lv_topi (fun v_8 _ => ?_)
  refine lv_sipush (v := 255) hx hb dX11_putFour_18 (by decide) ?_
  refine lv_iand hx hb dX11_putFour_21 ?_
  refine va_iast hx hb hK hP hD hS 1 0 rfl rfl (zz_in (by decide)) dX11_putFour_22 (fun H locs hP hD hS => ?_)
  obtain ⟨f_9, hP, hD⟩ : ∃ f_9 : Nat → Int32, va_P (dC, dI) vwCl [(h0, .inr (11, (List.set (List.set fs 1 (.int 17)) 1 (.int 18)))), (h1, .inl (cI, 1200, .inl f_9))] H ∧ va_D A [(h0, .inr (11, (List.set (List.set fs 1 (.int 17)) 1 (.int 18)))), (h1, .inl (cI, 1200, .inl f_9))] := ⟨_, hP, hD⟩
  refine lv_aload_n hx hb dX11_putFour_23 rfl (lv_at hl 1 rfl) ?_
  refine lv_dup hx hb dX11_putFour_24 rfl ?_
  refine va_get (D := (dC, dI)) (ci := 11) (v := .int 18) (C := RX11) (T := TX11) (N := 16) hx hb hts hiX11 hown hK hP 0 rfl rfl 1 (by decide) (hts (.fieldLink RX11 107 "CakePapers" "taped" "I") (by decide +kernel)) (fun _ h9 => h9) (by simp [hn_fs]) dX11_putFour_25 ?_
  refine lv_iconst (v := 1) hx hb dX11_putFour_28 (by decide) ?_
  refine lv_iadd hx hb dX11_putFour_29 ?_
  refine zz_ci (y := 19) (by decide) ?_
  refine va_put (D := (dC, dI)) (ci := 11) (v := .int 19) (ty := .int) (C := RX11) (T := TX11) (N := 16) hx hb hts hiX11 tyX11 tyX11_ok nmX11 hown hK hP hD hS 0 rfl rfl 1 (by decide) (hts (.fieldLink RX11 107 "CakePapers" "taped" "I") (by decide +kernel)) (fun _ h9 => h9) rfl (by decide +kernel) rfl rfl (by simp [hn_fs]) dX11_putFour_30 (fun H locs hP hD hS => ?_)
  have hP : va_P (dC, dI) vwCl [(h0, .inr (11, (List.set (List.set (List.set fs 1 (.int 17)) 1 (.int 18)) 1 (.int 19)))), (h1, .inl (cI, 1200, .inl f_9))] H := hP
  have hD : va_D A [(h0, .inr (11, (List.set (List.set (List.set fs 1 (.int 17)) 1 (.int 18)) 1 (.int 19)))), (h1, .inl (cI, 1200, .inl f_9))] := hD
  refine lv_iinc (v := 0) (lv' := [(2, .int 0), (0, .ref h0), (1, .int p0)]) hx hb dX11_putFour_33 hl (k := 0) rfl (by decide) (by decide) rfl (fun ls hl => ?_)
  refine lv_goto (tgt := 3) hx hb dX11_putFour_36 (by decide) ?_
  refine lv_iload_n hx hb dX11_putFour_3 rfl (lv_at hl 0 rfl) ?_
  refine lv_if_lt (tgt := 39) hx hb dX11_putFour_4 (by decide) (fun c_10 => absurd c_10 (by decide)) (fun c_10 => ?_)
  refine lv_aload_n hx hb dX11_putFour_7 rfl (lv_at hl 1 rfl) ?_
  refine va_get (D := (dC, dI)) (ci := 11) (v := .ref h1) (C := RX11) (T := TX11) (N := 16) hx hb hts hiX11 hown hK hP 0 rfl rfl 0 (by decide) (hts (.fieldLink RX11 9 "CakePapers" "tape" "[I") (by decide +kernel)) (fun _ h9 => h9) (by simp [e_fs_0]) dX11_putFour_8 ?_
  refine lv_aload_n hx hb dX11_putFour_11 rfl (lv_at hl 1 rfl) ?_
  refine va_get (D := (dC, dI)) (ci := 11) (v := .int 19) (C := RX11) (T := TX11) (N := 16) hx hb hts hiX11 hown hK hP 0 rfl rfl 1 (by decide) (hts (.fieldLink RX11 107 "CakePapers" "taped" "I") (by decide +kernel)) (fun _ h9 => h9) (by simp [hn_fs]) dX11_putFour_12 ?_
  refine lv_iload_n hx hb dX11_putFour_15 rfl (lv_at hl 2 rfl) ?_
  refine lv_iload_n hx hb dX11_putFour_16 rfl (lv_at hl 0 rfl) ?_
  refine lv_iushr (v := (Int32.toUInt32 p0 >>> (Int32.toUInt32 0 &&& Int32.toUInt32 31)).toInt32) hx hb dX11_putFour_17 rfl ?_
  refine lv_topi (fun v_11 _ => ?_)
  refine lv_sipush (v := 255) hx hb dX11_putFour_18 (by decide) ?_
  refine lv_iand hx hb dX11_putFour_21 ?_
  refine va_iast hx hb hK hP hD hS 1 0 rfl rfl (zz_in (by decide)) dX11_putFour_22 (fun H locs hP hD hS => ?_)
  obtain ⟨f_12, hP, hD⟩ : ∃ f_12 : Nat → Int32, va_P (dC, dI) vwCl [(h0, .inr (11, (List.set (List.set (List.set fs 1 (.int 17)) 1 (.int 18)) 1 (.int 19)))), (h1, .inl (cI, 1200, .inl f_12))] H ∧ va_D A [(h0, .inr (11, (List.set (List.set (List.set fs 1 (.int 17)) 1 (.int 18)) 1 (.int 19)))), (h1, .inl (cI, 1200, .inl f_12))] := ⟨_, hP, hD⟩
  refine lv_aload_n hx hb dX11_putFour_23 rfl (lv_at hl 1 rfl) ?_
  refine lv_dup hx hb dX11_putFour_24 rfl ?_
  refine va_get (D := (dC, dI)) (ci := 11) (v := .int 19) (C := RX11) (T := TX11) (N := 16) hx hb hts hiX11 hown hK hP 0 rfl rfl 1 (by decide) (hts (.fieldLink RX11 107 "CakePapers" "taped" "I") (by decide +kernel)) (fun _ h9 => h9) (by simp [hn_fs]) dX11_putFour_25 ?_
  refine lv_iconst (v := 1) hx hb dX11_putFour_28 (by decide) ?_
  refine lv_iadd hx hb dX11_putFour_29 ?_
  refine zz_ci (y := 20) (by decide) ?_
  refine va_put (D := (dC, dI)) (ci := 11) (v := .int 20) (ty := .int) (C := RX11) (T := TX11) (N := 16) hx hb hts hiX11 tyX11 tyX11_ok nmX11 hown hK hP hD hS 0 rfl rfl 1 (by decide) (hts (.fieldLink RX11 107 "CakePapers" "taped" "I") (by decide +kernel)) (fun _ h9 => h9) rfl (by decide +kernel) rfl rfl (by simp [hn_fs]) dX11_putFour_30 (fun H locs hP hD hS => ?_)
  have hP : va_P (dC, dI) vwCl [(h0, .inr (11, (List.set (List.set (List.set (List.set fs 1 (.int 17)) 1 (.int 18)) 1 (.int 19)) 1 (.int 20)))), (h1, .inl (cI, 1200, .inl f_12))] H := hP
  have hD : va_D A [(h0, .inr (11, (List.set (List.set (List.set (List.set fs 1 (.int 17)) 1 (.int 18)) 1 (.int 19)) 1 (.int 20)))), (h1, .inl (cI, 1200, .inl f_12))] := hD
  refine lv_iinc (v := (-8)) (lv' := [(2, .int (-8)), (0, .ref h0), (1, .int p0)]) hx hb dX11_putFour_33 hl (k := 0) rfl (by decide) (by decide) rfl (fun ls hl => ?_)
  refine lv_goto (tgt := 3) hx hb dX11_putFour_36 (by decide) ?_
  refine lv_iload_n hx hb dX11_putFour_3 rfl (lv_at hl 0 rfl) ?_
  refine lv_if_lt (tgt := 39) hx hb dX11_putFour_4 (by decide) (fun c_13 => ?_) (fun c_13 => absurd c_13 (by decide))
  refine W.widen (k := 0) (n := 0) (Nat.le_of_ble_eq_true rfl) (Nat.le_of_ble_eq_true rfl) ?_
  have hP9 := hP.sub (ws' := [(h0, .inr (11, (List.set (List.set (List.set (List.set fs 1 (.int 17)) 1 (.int 18)) 1 (.int 19)) 1 (.int 20)))), (h1, .inl (cI, 1200, .inl f_12))]) [0, 1] rfl
  have hD9 := hD.sub (ws' := [(h0, .inr (11, (List.set (List.set (List.set (List.set fs 1 (.int 17)) 1 (.int 18)) 1 (.int 19)) 1 (.int 20)))), (h1, .inl (cI, 1200, .inl f_12))]) [0, 1] (by decide) rfl
  exact W.vret hx hb hr (fun t ht hW => ⟨⟨(), rfl, trivial, f_12, by rw [ht]; exact hP9, hD9⟩, hS.F ht⟩) hS.2.2 dX11_putFour_39
def u_c_X11_feed : List Cond := .code yX11_feed cX11_feed 6 (some .int) :: ([.fieldLink RX11 107 "CakePapers" "taped" "I", .code yX11_putFour cX11_putFour 3 none, .fieldLink RX11 9 "CakePapers" "tape" "[I", .methodLink RX11 110 yX11_putFour, .instanceMethod yX11_putFour, .selects RX11 yX11_putFour yX11_putFour, .initialized RX11] ++ wsX110)
set_option maxRecDepth 20000 in
theorem g_c_X11_feed_c_X11_putFour_0_0 : GoodIn u_c_X11_feed (wsV RX11 110 RX11 yX11_putFour u_c_X11_putFour_0) := goodIn_of _ (by decide +kernel)
set_option maxRecDepth 20000 in
theorem g_c_X11_feed_c_X11_putFour_4_1 : GoodIn u_c_X11_feed (wsV RX11 110 RX11 yX11_putFour u_c_X11_putFour_4) := goodIn_of _ (by decide +kernel)
set_option maxRecDepth 20000 in
theorem g_c_X11_feed_c_X11_putFour_8_2 : GoodIn u_c_X11_feed (wsV RX11 110 RX11 yX11_putFour u_c_X11_putFour_8) := goodIn_of _ (by decide +kernel)
set_option maxRecDepth 20000 in
theorem g_c_X11_feed_c_X11_putFour_12_3 : GoodIn u_c_X11_feed (wsV RX11 110 RX11 yX11_putFour u_c_X11_putFour_12) := goodIn_of _ (by decide +kernel)
set_option maxRecDepth 20000 in
theorem g_c_X11_feed_c_X11_putFour_16_4 : GoodIn u_c_X11_feed (wsV RX11 110 RX11 yX11_putFour u_c_X11_putFour_16) := goodIn_of _ (by decide +kernel)
set_option maxHeartbeats 1000000 in
set_option maxRecDepth 100000 in
theorem c_X11_feed (l : Launch) (dC : Nat → ClassId) (dI : Nat → Nat → Nat) (sz : Nat) (h0 h1 : Nat) (cI : ClassId) (f : Nat → Int32) (fs : List Value) (hn_fs : fs.length = 16) (e_fs_0 : fs[0]? = some (.ref h1)) (e_fs_1 : fs[1]? = some (.int 0)) (p0 : Int32) (p1 : Int32) (p2 : Int32) (p3 : Int32) (p4 : Int32) : Met l yX11_feed u_c_X11_feed ({ frames := 1, cells := 0, slots := 0, locals := 22 }) (va_Pc [.ref h0, .int p0, .int p1, .int p2, .int p3, .int p4] (fun U => U.heap.size = sz ∧ va_P (dC, dI) vwCl [(h0, .inr (11, fs)), (h1, .inl (cI, 1200, .inl f))] U.heap ∧ va_K (dC, dI) vwCl [(cI, .int)] U ∧ va_D (fun _ => True) [(h0, .inr (11, fs)), (h1, .inl (cI, 1200, .inl f))])) (va_Qi (fun (r : Int32) (_ : Unit) => r = 20) (fun _ _ => True) (va_A [(h0, .inr (11, fs)), (h1, .inl (cI, 1200, .inl f))] sz)) 0 0 (va_A [(h0, .inr (11, fs)), (h1, .inl (cI, 1200, .inl f))] sz) := by
  refine Met.ofW (cc := cX11_feed) (maxL := 6) (ret := (some .int)) (by decide) rfl ?_
  intro p e s m args below meth c s₁ B hml hv
  obtain ⟨rfl, hsz, hP, hK, hD0⟩ := hv
  have hx := B.exec
  have hb := B.bytes
  have hr := B.returns
  have hts := atoms_spec (ws := u_c_X11_feed) B.pre
  have hown : s.vm.findClass RX11 = some m.cls := findClass_of_methodNamed B.named
  have hlocks := B.notSynchronized
  have hiX11 : ∀ w ∈ wsX110, w ∈ u_c_X11_feed := fun w h => List.mem_cons_of_mem _ (List.mem_append_right _ h)
  subst hsz
  have hD := hD0.self (sz := s.heap.size)
  generalize hAe : va_A [(h0, .inr (11, fs)), (h1, .inl (cI, 1200, .inl f))] s.heap.size = A at hD ⊢
  have hA : ∀ q : Nat, s.heap.size ≤ q → A q := fun q h => by rw [← hAe]; exact Or.inr h
  have hS : va_S A s.heap s.heap [] := va_S.rf
  obtain ⟨H, hH⟩ : ∃ H : Heap, H = s.heap := ⟨_, rfl⟩
  have hP : va_P (dC, dI) vwCl [(h0, .inr (11, fs)), (h1, .inl (cI, 1200, .inl f))] H := by rw [hH]; exact hP
  have hS : va_S A s.heap H [] := by rw [hH]; exact hS
  have hl := lv_entry ([.ref h0, .int p0, .int p1, .int p2, .int p3, .int p4]) (n := 6) (Nat.le_of_ble_eq_true rfl)
  rw [lg_entry_eq]
  generalize (lg_sl ([.ref h0, .int p0, .int p1, .int p2, .int p3, .int p4]) ++ List.replicate (6 - (lg_sl ([.ref h0, .int p0, .int p1, .int p2, .int p3, .int p4])).length) Slot.unset).toArray = ls at hl ⊢
  have hl : lv_has ls 6 [(0, .ref h0), (1, .int p0), (2, .int p1), (3, .int p2), (4, .int p3), (5, .int p4)] := hl
  suffices h9 : W p l e (headSpec u_c_X11_feed _).room s m _ below meth c H [] 0 0 _ (F0 m 0 ls []) by rw [hH] at h9; exact h9
  refine lv_aload_n hx hb dX11_feed_0 rfl (lv_at hl 0 rfl) ?_
  refine va_get (D := (dC, dI)) (ci := 11) (v := .int 0) (C := RX11) (T := TX11) (N := 16) hx hb hts hiX11 hown hK hP 0 rfl rfl 1 (by decide) (hts (.fieldLink RX11 107 "CakePapers" "taped" "I") (by decide +kernel)) (fun _ h9 => h9) e_fs_1 dX11_feed_1 ?_
  refine lv_bipush (v := 20) hx hb dX11_feed_4 (by decide) ?_
  refine lv_iadd hx hb dX11_feed_6 ?_
  refine zz_ci (y := 20) (by decide) ?_
  refine lv_sipush (v := 1200) hx hb dX11_feed_7 (by decide) ?_
  refine lv_icmp_le (tgt := 15) hx hb dX11_feed_10 (by decide) (fun c_1 => ?_) (fun c_1 => absurd c_1 (by decide))
  refine lv_aload_n hx hb dX11_feed_15 rfl (lv_at hl 0 rfl) ?_
  refine lv_iload_n hx hb dX11_feed_16 rfl (lv_at hl 1 rfl) ?_
  have hPc := hP.sub (ws' := [(h0, .inr (11, fs)), (h1, .inl (cI, 1200, .inl f))]) [0, 1] rfl
  have hDc := hD.sub (ws' := [(h0, .inr (11, fs)), (h1, .inl (cI, 1200, .inl f))]) [0, 1] (by decide) rfl
  have hKc := hK.sub (tys' := [(cI, .int)]) [0] rfl
  have hFc := va_free (wc := [(h0, .inr (11, fs)), (h1, .inl (cI, 1200, .inl f))]) hD hS hA [0, 1] rfl
  refine va_callv (va_runV (As := [.int p0]) (rest := []) ⟨hx, hb, hml, hown, hts⟩ (c_X11_putFour_0 l dC dI H.size h0 h1 cI f fs hn_fs e_fs_0 e_fs_1 p0) (cwV 1 hts g_c_X11_feed_c_X11_putFour_0_0 rfl rfl rfl (by decide +kernel) ⟨Nat.le_of_ble_eq_true rfl, Nat.le_of_ble_eq_true rfl⟩) ⟨fun a U g mk q => by obtain ⟨q0, q1, qP, qK, qD⟩ := q; exact ⟨q0, q1, qP, va_K.moved (u := U) (U := U.calling g mk a) (Vm.Alike.refl U.vm) qK, qD⟩, va_recv hKc hPc (ci := 11) (q0 := 0) rfl rfl, fun U hU hW => ⟨rfl, by rw [hU], by rw [hU]; exact hPc, va_K.moved hW.alike hKc, hDc.weaken (fun _ _ _ _ => trivial)⟩⟩ rfl rfl hl.1 rfl (lv_room (Nat.le_of_ble_eq_true rfl)) dX11_feed_17 ⟨Nat.le_of_ble_eq_true rfl, Nat.le_of_ble_eq_true rfl⟩) hS (fun q _ h => hFc q h) hFc (fun u t H1 locs ht hvm hw hB hz1 hk1 hS => ?_)
  obtain ⟨f_12_2, hP1, hD1⟩ := hB
  rw [ht] at hP1
  obtain ⟨hP, hD⟩ := va_join (wr := []) (w1 := [(h0, .inr (11, (List.set (List.set (List.set (List.set fs 1 (.int 1)) 1 (.int 2)) 1 (.int 3)) 1 (.int 4)))), (h1, .inl (cI, 1200, .inl f_12_2))]) hP hD [0, 1] [] rfl rfl (by decide) (by decide) hk1 hFc hP1 hD1
  generalize H1 = H at hP hS ⊢
  have hP : va_P (dC, dI) vwCl [(h0, .inr (11, (List.set (List.set (List.set (List.set fs 1 (.int 1)) 1 (.int 2)) 1 (.int 3)) 1 (.int 4)))), (h1, .inl (cI, 1200, .inl f_12_2))] H := hP
  have hD : va_D A [(h0, .inr (11, (List.set (List.set (List.set (List.set fs 1 (.int 1)) 1 (.int 2)) 1 (.int 3)) 1 (.int 4)))), (h1, .inl (cI, 1200, .inl f_12_2))] := hD
  refine W.widen (k := 0) (n := 0) (Nat.le_of_ble_eq_true rfl) (Nat.le_of_ble_eq_true rfl) ?_
  refine lv_aload_n hx hb dX11_feed_20 rfl (lv_at hl 0 rfl) ?_
  refine lv_iload_n hx hb dX11_feed_21 rfl (lv_at hl 2 rfl) ?_
  have hPc := hP.sub (ws' := [(h0, .inr (11, (List.set (List.set (List.set (List.set fs 1 (.int 1)) 1 (.int 2)) 1 (.int 3)) 1 (.int 4)))), (h1, .inl (cI, 1200, .inl f_12_2))]) [0, 1] rfl
  have hDc := hD.sub (ws' := [(h0, .inr (11, (List.set (List.set (List.set (List.set fs 1 (.int 1)) 1 (.int 2)) 1 (.int 3)) 1 (.int 4)))), (h1, .inl (cI, 1200, .inl f_12_2))]) [0, 1] (by decide) rfl
  have hKc := hK.sub (tys' := [(cI, .int)]) [0] rfl
  have hFc := va_free (wc := [(h0, .inr (11, (List.set (List.set (List.set (List.set fs 1 (.int 1)) 1 (.int 2)) 1 (.int 3)) 1 (.int 4)))), (h1, .inl (cI, 1200, .inl f_12_2))]) hD hS hA [0, 1] rfl
  refine va_callv (va_runV (As := [.int p1]) (rest := []) ⟨hx, hb, hml, hown, hts⟩ (c_X11_putFour_4 l dC dI H.size h0 h1 cI f_12_2 (List.set (List.set (List.set (List.set fs 1 (.int 1)) 1 (.int 2)) 1 (.int 3)) 1 (.int 4)) (by simp [hn_fs]) (by simp [e_fs_0]) (by simp [hn_fs]) p1) (cwV 1 hts g_c_X11_feed_c_X11_putFour_4_1 rfl rfl rfl (by decide +kernel) ⟨Nat.le_of_ble_eq_true rfl, Nat.le_of_ble_eq_true rfl⟩) ⟨fun a U g mk q => by obtain ⟨q0, q1, qP, qK, qD⟩ := q; exact ⟨q0, q1, qP, va_K.moved (u := U) (U := U.calling g mk a) (Vm.Alike.refl U.vm) qK, qD⟩, va_recv hKc hPc (ci := 11) (q0 := 0) rfl rfl, fun U hU hW => ⟨rfl, by rw [hU], by rw [hU]; exact hPc, va_K.moved hW.alike hKc, hDc.weaken (fun _ _ _ _ => trivial)⟩⟩ rfl rfl hl.1 rfl (lv_room (Nat.le_of_ble_eq_true rfl)) dX11_feed_22 ⟨Nat.le_of_ble_eq_true rfl, Nat.le_of_ble_eq_true rfl⟩) hS (fun q _ h => hFc q h) hFc (fun u t H1 locs ht hvm hw hB hz1 hk1 hS => ?_)
  obtain ⟨f_12_3, hP1, hD1⟩ := hB
  rw [ht] at hP1
  obtain ⟨hP, hD⟩ := va_join (wr := []) (w1 := [(h0, .inr (11, (List.set (List.set (List.set (List.set (List.set (List.set (List.set (List.set fs 1 (.int 1)) 1 (.int 2)) 1 (.int 3)) 1 (.int 4)) 1 (.int 5)) 1 (.int 6)) 1 (.int 7)) 1 (.int 8)))), (h1, .inl (cI, 1200, .inl f_12_3))]) hP hD [0, 1] [] rfl rfl (by decide) (by decide) hk1 hFc hP1 hD1
  generalize H1 = H at hP hS ⊢
  have hP : va_P (dC, dI) vwCl [(h0, .inr (11, (List.set (List.set (List.set (List.set (List.set (List.set (List.set (List.set fs 1 (.int 1)) 1 (.int 2)) 1 (.int 3)) 1 (.int 4)) 1 (.int 5)) 1 (.int 6)) 1 (.int 7)) 1 (.int 8)))), (h1, .inl (cI, 1200, .inl f_12_3))] H := hP
  have hD : va_D A [(h0, .inr (11, (List.set (List.set (List.set (List.set (List.set (List.set (List.set (List.set fs 1 (.int 1)) 1 (.int 2)) 1 (.int 3)) 1 (.int 4)) 1 (.int 5)) 1 (.int 6)) 1 (.int 7)) 1 (.int 8)))), (h1, .inl (cI, 1200, .inl f_12_3))] := hD
  refine W.widen (k := 0) (n := 0) (Nat.le_of_ble_eq_true rfl) (Nat.le_of_ble_eq_true rfl) ?_
  refine lv_aload_n hx hb dX11_feed_25 rfl (lv_at hl 0 rfl) ?_
  refine lv_iload_n hx hb dX11_feed_26 rfl (lv_at hl 3 rfl) ?_
  have hPc := hP.sub (ws' := [(h0, .inr (11, (List.set (List.set (List.set (List.set (List.set (List.set (List.set (List.set fs 1 (.int 1)) 1 (.int 2)) 1 (.int 3)) 1 (.int 4)) 1 (.int 5)) 1 (.int 6)) 1 (.int 7)) 1 (.int 8)))), (h1, .inl (cI, 1200, .inl f_12_3))]) [0, 1] rfl
  have hDc := hD.sub (ws' := [(h0, .inr (11, (List.set (List.set (List.set (List.set (List.set (List.set (List.set (List.set fs 1 (.int 1)) 1 (.int 2)) 1 (.int 3)) 1 (.int 4)) 1 (.int 5)) 1 (.int 6)) 1 (.int 7)) 1 (.int 8)))), (h1, .inl (cI, 1200, .inl f_12_3))]) [0, 1] (by decide) rfl
  have hKc := hK.sub (tys' := [(cI, .int)]) [0] rfl
  have hFc := va_free (wc := [(h0, .inr (11, (List.set (List.set (List.set (List.set (List.set (List.set (List.set (List.set fs 1 (.int 1)) 1 (.int 2)) 1 (.int 3)) 1 (.int 4)) 1 (.int 5)) 1 (.int 6)) 1 (.int 7)) 1 (.int 8)))), (h1, .inl (cI, 1200, .inl f_12_3))]) hD hS hA [0, 1] rfl
  refine va_callv (va_runV (As := [.int p2]) (rest := []) ⟨hx, hb, hml, hown, hts⟩ (c_X11_putFour_8 l dC dI H.size h0 h1 cI f_12_3 (List.set (List.set (List.set (List.set (List.set (List.set (List.set (List.set fs 1 (.int 1)) 1 (.int 2)) 1 (.int 3)) 1 (.int 4)) 1 (.int 5)) 1 (.int 6)) 1 (.int 7)) 1 (.int 8)) (by simp [hn_fs]) (by simp [e_fs_0]) (by simp [hn_fs]) p2) (cwV 1 hts g_c_X11_feed_c_X11_putFour_8_2 rfl rfl rfl (by decide +kernel) ⟨Nat.le_of_ble_eq_true rfl, Nat.le_of_ble_eq_true rfl⟩) ⟨fun a U g mk q => by obtain ⟨q0, q1, qP, qK, qD⟩ := q; exact ⟨q0, q1, qP, va_K.moved (u := U) (U := U.calling g mk a) (Vm.Alike.refl U.vm) qK, qD⟩, va_recv hKc hPc (ci := 11) (q0 := 0) rfl rfl, fun U hU hW => ⟨rfl, by rw [hU], by rw [hU]; exact hPc, va_K.moved hW.alike hKc, hDc.weaken (fun _ _ _ _ => trivial)⟩⟩ rfl rfl hl.1 rfl (lv_room (Nat.le_of_ble_eq_true rfl)) dX11_feed_27 ⟨Nat.le_of_ble_eq_true rfl, Nat.le_of_ble_eq_true rfl⟩) hS (fun q _ h => hFc q h) hFc (fun u t H1 locs ht hvm hw hB hz1 hk1 hS => ?_)
  obtain ⟨f_12_4, hP1, hD1⟩ := hB
  rw [ht] at hP1
  obtain ⟨hP, hD⟩ := va_join (wr := []) (w1 := [(h0, .inr (11, (List.set (List.set (List.set (List.set (List.set (List.set (List.set (List.set (List.set (List.set (List.set (List.set fs 1 (.int 1)) 1 (.int 2)) 1 (.int 3)) 1 (.int 4)) 1 (.int 5)) 1 (.int 6)) 1 (.int 7)) 1 (.int 8)) 1 (.int 9)) 1 (.int 10)) 1 (.int 11)) 1 (.int 12)))), (h1, .inl (cI, 1200, .inl f_12_4))]) hP hD [0, 1] [] rfl rfl (by decide) (by decide) hk1 hFc hP1 hD1
  generalize H1 = H at hP hS ⊢
  have hP : va_P (dC, dI) vwCl [(h0, .inr (11, (List.set (List.set (List.set (List.set (List.set (List.set (List.set (List.set (List.set (List.set (List.set (List.set fs 1 (.int 1)) 1 (.int 2)) 1 (.int 3)) 1 (.int 4)) 1 (.int 5)) 1 (.int 6)) 1 (.int 7)) 1 (.int 8)) 1 (.int 9)) 1 (.int 10)) 1 (.int 11)) 1 (.int 12)))), (h1, .inl (cI, 1200, .inl f_12_4))] H := hP
  have hD : va_D A [(h0, .inr (11, (List.set (List.set (List.set (List.set (List.set (List.set (List.set (List.set (List.set (List.set (List.set (List.set fs 1 (.int 1)) 1 (.int 2)) 1 (.int 3)) 1 (.int 4)) 1 (.int 5)) 1 (.int 6)) 1 (.int 7)) 1 (.int 8)) 1 (.int 9)) 1 (.int 10)) 1 (.int 11)) 1 (.int 12)))), (h1, .inl (cI, 1200, .inl f_12_4))] := hD
  refine W.widen (k := 0) (n := 0) (Nat.le_of_ble_eq_true rfl) (Nat.le_of_ble_eq_true rfl) ?_
  refine lv_aload_n hx hb dX11_feed_30 rfl (lv_at hl 0 rfl) ?_
  refine lv_iload hx hb dX11_feed_31 (lv_at hl 4 rfl) ?_
  have hPc := hP.sub (ws' := [(h0, .inr (11, (List.set (List.set (List.set (List.set (List.set (List.set (List.set (List.set (List.set (List.set (List.set (List.set fs 1 (.int 1)) 1 (.int 2)) 1 (.int 3)) 1 (.int 4)) 1 (.int 5)) 1 (.int 6)) 1 (.int 7)) 1 (.int 8)) 1 (.int 9)) 1 (.int 10)) 1 (.int 11)) 1 (.int 12)))), (h1, .inl (cI, 1200, .inl f_12_4))]) [0, 1] rfl
  have hDc := hD.sub (ws' := [(h0, .inr (11, (List.set (List.set (List.set (List.set (List.set (List.set (List.set (List.set (List.set (List.set (List.set (List.set fs 1 (.int 1)) 1 (.int 2)) 1 (.int 3)) 1 (.int 4)) 1 (.int 5)) 1 (.int 6)) 1 (.int 7)) 1 (.int 8)) 1 (.int 9)) 1 (.int 10)) 1 (.int 11)) 1 (.int 12)))), (h1, .inl (cI, 1200, .inl f_12_4))]) [0, 1] (by decide) rfl
  have hKc := hK.sub (tys' := [(cI, .int)]) [0] rfl
  have hFc := va_free (wc := [(h0, .inr (11, (List.set (List.set (List.set (List.set (List.set (List.set (List.set (List.set (List.set (List.set (List.set (List.set fs 1 (.int 1)) 1 (.int 2)) 1 (.int 3)) 1 (.int 4)) 1 (.int 5)) 1 (.int 6)) 1 (.int 7)) 1 (.int 8)) 1 (.int 9)) 1 (.int 10)) 1 (.int 11)) 1 (.int 12)))), (h1, .inl (cI, 1200, .inl f_12_4))]) hD hS hA [0, 1] rfl
  refine va_callv (va_runV (As := [.int p3]) (rest := []) ⟨hx, hb, hml, hown, hts⟩ (c_X11_putFour_12 l dC dI H.size h0 h1 cI f_12_4 (List.set (List.set (List.set (List.set (List.set (List.set (List.set (List.set (List.set (List.set (List.set (List.set fs 1 (.int 1)) 1 (.int 2)) 1 (.int 3)) 1 (.int 4)) 1 (.int 5)) 1 (.int 6)) 1 (.int 7)) 1 (.int 8)) 1 (.int 9)) 1 (.int 10)) 1 (.int 11)) 1 (.int 12)) (by simp [hn_fs]) (by simp [e_fs_0]) (by simp [hn_fs]) p3) (cwV 1 hts g_c_X11_feed_c_X11_putFour_12_3 rfl rfl rfl (by decide +kernel) ⟨Nat.le_of_ble_eq_true rfl, Nat.le_of_ble_eq_true rfl⟩) ⟨fun a U g mk q => by obtain ⟨q0, q1, qP, qK, qD⟩ := q; exact ⟨q0, q1, qP, va_K.moved (u := U) (U := U.calling g mk a) (Vm.Alike.refl U.vm) qK, qD⟩, va_recv hKc hPc (ci := 11) (q0 := 0) rfl rfl, fun U hU hW => ⟨rfl, by rw [hU], by rw [hU]; exact hPc, va_K.moved hW.alike hKc, hDc.weaken (fun _ _ _ _ => trivial)⟩⟩ rfl rfl hl.1 rfl (lv_room (Nat.le_of_ble_eq_true rfl)) dX11_feed_33 ⟨Nat.le_of_ble_eq_true rfl, Nat.le_of_ble_eq_true rfl⟩) hS (fun q _ h => hFc q h) hFc (fun u t H1 locs ht hvm hw hB hz1 hk1 hS => ?_)
  obtain ⟨f_12_5, hP1, hD1⟩ := hB
  rw [ht] at hP1
  obtain ⟨hP, hD⟩ := va_join (wr := []) (w1 := [(h0, .inr (11, (List.set (List.set (List.set (List.set (List.set (List.set (List.set (List.set (List.set (List.set (List.set (List.set (List.set (List.set (List.set (List.set fs 1 (.int 1)) 1 (.int 2)) 1 (.int 3)) 1 (.int 4)) 1 (.int 5)) 1 (.int 6)) 1 (.int 7)) 1 (.int 8)) 1 (.int 9)) 1 (.int 10)) 1 (.int 11)) 1 (.int 12)) 1 (.int 13)) 1 (.int 14)) 1 (.int 15)) 1 (.int 16)))), (h1, .inl (cI, 1200, .inl f_12_5))]) hP hD [0, 1] [] rfl rfl (by decide) (by decide) hk1 hFc hP1 hD1
  generalize H1 = H at hP hS ⊢
  have hP : va_P (dC, dI) vwCl [(h0, .inr (11, (List.set (List.set (List.set (List.set (List.set (List.set (List.set (List.set (List.set (List.set (List.set (List.set (List.set (List.set (List.set (List.set fs 1 (.int 1)) 1 (.int 2)) 1 (.int 3)) 1 (.int 4)) 1 (.int 5)) 1 (.int 6)) 1 (.int 7)) 1 (.int 8)) 1 (.int 9)) 1 (.int 10)) 1 (.int 11)) 1 (.int 12)) 1 (.int 13)) 1 (.int 14)) 1 (.int 15)) 1 (.int 16)))), (h1, .inl (cI, 1200, .inl f_12_5))] H := hP
  have hD : va_D A [(h0, .inr (11, (List.set (List.set (List.set (List.set (List.set (List.set (List.set (List.set (List.set (List.set (List.set (List.set (List.set (List.set (List.set (List.set fs 1 (.int 1)) 1 (.int 2)) 1 (.int 3)) 1 (.int 4)) 1 (.int 5)) 1 (.int 6)) 1 (.int 7)) 1 (.int 8)) 1 (.int 9)) 1 (.int 10)) 1 (.int 11)) 1 (.int 12)) 1 (.int 13)) 1 (.int 14)) 1 (.int 15)) 1 (.int 16)))), (h1, .inl (cI, 1200, .inl f_12_5))] := hD
  refine W.widen (k := 0) (n := 0) (Nat.le_of_ble_eq_true rfl) (Nat.le_of_ble_eq_true rfl) ?_
  refine lv_aload_n hx hb dX11_feed_36 rfl (lv_at hl 0 rfl) ?_
  refine lv_iload hx hb dX11_feed_37 (lv_at hl 5 rfl) ?_
  have hPc := hP.sub (ws' := [(h0, .inr (11, (List.set (List.set (List.set (List.set (List.set (List.set (List.set (List.set (List.set (List.set (List.set (List.set (List.set (List.set (List.set (List.set fs 1 (.int 1)) 1 (.int 2)) 1 (.int 3)) 1 (.int 4)) 1 (.int 5)) 1 (.int 6)) 1 (.int 7)) 1 (.int 8)) 1 (.int 9)) 1 (.int 10)) 1 (.int 11)) 1 (.int 12)) 1 (.int 13)) 1 (.int 14)) 1 (.int 15)) 1 (.int 16)))), (h1, .inl (cI, 1200, .inl f_12_5))]) [0, 1] rfl
  have hDc := hD.sub (ws' := [(h0, .inr (11, (List.set (List.set (List.set (List.set (List.set (List.set (List.set (List.set (List.set (List.set (List.set (List.set (List.set (List.set (List.set (List.set fs 1 (.int 1)) 1 (.int 2)) 1 (.int 3)) 1 (.int 4)) 1 (.int 5)) 1 (.int 6)) 1 (.int 7)) 1 (.int 8)) 1 (.int 9)) 1 (.int 10)) 1 (.int 11)) 1 (.int 12)) 1 (.int 13)) 1 (.int 14)) 1 (.int 15)) 1 (.int 16)))), (h1, .inl (cI, 1200, .inl f_12_5))]) [0, 1] (by decide) rfl
  have hKc := hK.sub (tys' := [(cI, .int)]) [0] rfl
  have hFc := va_free (wc := [(h0, .inr (11, (List.set (List.set (List.set (List.set (List.set (List.set (List.set (List.set (List.set (List.set (List.set (List.set (List.set (List.set (List.set (List.set fs 1 (.int 1)) 1 (.int 2)) 1 (.int 3)) 1 (.int 4)) 1 (.int 5)) 1 (.int 6)) 1 (.int 7)) 1 (.int 8)) 1 (.int 9)) 1 (.int 10)) 1 (.int 11)) 1 (.int 12)) 1 (.int 13)) 1 (.int 14)) 1 (.int 15)) 1 (.int 16)))), (h1, .inl (cI, 1200, .inl f_12_5))]) hD hS hA [0, 1] rfl
  refine va_callv (va_runV (As := [.int p4]) (rest := []) ⟨hx, hb, hml, hown, hts⟩ (c_X11_putFour_16 l dC dI H.size h0 h1 cI f_12_5 (List.set (List.set (List.set (List.set (List.set (List.set (List.set (List.set (List.set (List.set (List.set (List.set (List.set (List.set (List.set (List.set fs 1 (.int 1)) 1 (.int 2)) 1 (.int 3)) 1 (.int 4)) 1 (.int 5)) 1 (.int 6)) 1 (.int 7)) 1 (.int 8)) 1 (.int 9)) 1 (.int 10)) 1 (.int 11)) 1 (.int 12)) 1 (.int 13)) 1 (.int 14)) 1 (.int 15)) 1 (.int 16)) (by simp [hn_fs]) (by simp [e_fs_0]) (by simp [hn_fs]) p4) (cwV 1 hts g_c_X11_feed_c_X11_putFour_16_4 rfl rfl rfl (by decide +kernel) ⟨Nat.le_of_ble_eq_true rfl, Nat.le_of_ble_eq_true rfl⟩) ⟨fun a U g mk q => by obtain ⟨q0, q1, qP, qK, qD⟩ := q; exact ⟨q0, q1, qP, va_K.moved (u := U) (U := U.calling g mk a) (Vm.Alike.refl U.vm) qK, qD⟩, va_recv hKc hPc (ci := 11) (q0 := 0) rfl rfl, fun U hU hW => ⟨rfl, by rw [hU], by rw [hU]; exact hPc, va_K.moved hW.alike hKc, hDc.weaken (fun _ _ _ _ => trivial)⟩⟩ rfl rfl hl.1 rfl (lv_room (Nat.le_of_ble_eq_true rfl)) dX11_feed_39 ⟨Nat.le_of_ble_eq_true rfl, Nat.le_of_ble_eq_true rfl⟩) hS (fun q _ h => hFc q h) hFc (fun u t H1 locs ht hvm hw hB hz1 hk1 hS => ?_)
  obtain ⟨f_12_6, hP1, hD1⟩ := hB
  rw [ht] at hP1
  obtain ⟨hP, hD⟩ := va_join (wr := []) (w1 := [(h0, .inr (11, (List.set (List.set (List.set (List.set (List.set (List.set (List.set (List.set (List.set (List.set (List.set (List.set (List.set (List.set (List.set (List.set (List.set (List.set (List.set (List.set fs 1 (.int 1)) 1 (.int 2)) 1 (.int 3)) 1 (.int 4)) 1 (.int 5)) 1 (.int 6)) 1 (.int 7)) 1 (.int 8)) 1 (.int 9)) 1 (.int 10)) 1 (.int 11)) 1 (.int 12)) 1 (.int 13)) 1 (.int 14)) 1 (.int 15)) 1 (.int 16)) 1 (.int 17)) 1 (.int 18)) 1 (.int 19)) 1 (.int 20)))), (h1, .inl (cI, 1200, .inl f_12_6))]) hP hD [0, 1] [] rfl rfl (by decide) (by decide) hk1 hFc hP1 hD1
  generalize H1 = H at hP hS ⊢
  have hP : va_P (dC, dI) vwCl [(h0, .inr (11, (List.set (List.set (List.set (List.set (List.set (List.set (List.set (List.set (List.set (List.set (List.set (List.set (List.set (List.set (List.set (List.set (List.set (List.set (List.set (List.set fs 1 (.int 1)) 1 (.int 2)) 1 (.int 3)) 1 (.int 4)) 1 (.int 5)) 1 (.int 6)) 1 (.int 7)) 1 (.int 8)) 1 (.int 9)) 1 (.int 10)) 1 (.int 11)) 1 (.int 12)) 1 (.int 13)) 1 (.int 14)) 1 (.int 15)) 1 (.int 16)) 1 (.int 17)) 1 (.int 18)) 1 (.int 19)) 1 (.int 20)))), (h1, .inl (cI, 1200, .inl f_12_6))] H := hP
  have hD : va_D A [(h0, .inr (11, (List.set (List.set (List.set (List.set (List.set (List.set (List.set (List.set (List.set (List.set (List.set (List.set (List.set (List.set (List.set (List.set (List.set (List.set (List.set (List.set fs 1 (.int 1)) 1 (.int 2)) 1 (.int 3)) 1 (.int 4)) 1 (.int 5)) 1 (.int 6)) 1 (.int 7)) 1 (.int 8)) 1 (.int 9)) 1 (.int 10)) 1 (.int 11)) 1 (.int 12)) 1 (.int 13)) 1 (.int 14)) 1 (.int 15)) 1 (.int 16)) 1 (.int 17)) 1 (.int 18)) 1 (.int 19)) 1 (.int 20)))), (h1, .inl (cI, 1200, .inl f_12_6))] := hD
  refine W.widen (k := 0) (n := 0) (Nat.le_of_ble_eq_true rfl) (Nat.le_of_ble_eq_true rfl) ?_
  refine lv_aload_n hx hb dX11_feed_42 rfl (lv_at hl 0 rfl) ?_
  refine va_get (D := (dC, dI)) (ci := 11) (v := .int 20) (C := RX11) (T := TX11) (N := 16) hx hb hts hiX11 hown hK hP 0 rfl rfl 1 (by decide) (hts (.fieldLink RX11 107 "CakePapers" "taped" "I") (by decide +kernel)) (fun _ h9 => h9) (by simp [hn_fs]) dX11_feed_43 ?_
  refine W.widen (k := 0) (n := 0) (Nat.le_of_ble_eq_true rfl) (Nat.le_of_ble_eq_true rfl) ?_
  exact W.iret (v := 20) hx hb hr (fun t ht hW => ⟨⟨20, (), rfl, rfl, trivial⟩, hS.F ht⟩) hS.2.2 dX11_feed_46
def u_c_X1_add : List Cond := .code yX1_add cX1_add 2 (some .int) :: ([.code yX1_isFull cX1_isFull 1 (some .boolean), .fieldLink RX1 24 "CakePapers$Desk" "count" "I", .methodLink RX1 28 yX1_isFull, .instanceMethod yX1_isFull, .selects RX1 yX1_isFull yX1_isFull, .initialized RX1, .fieldLink RX1 13 "CakePapers$Desk" "papers" "[LCakePapers$Paper;"] ++ wsX10 ++ wsX60)
set_option maxRecDepth 20000 in
theorem g_c_X1_add_c_X1_isFull_0 : GoodIn u_c_X1_add (wsV RX1 28 RX1 yX1_isFull u_c_X1_isFull) := goodIn_of _ (by decide +kernel)
set_option maxHeartbeats 1000000 in
set_option maxRecDepth 100000 in
theorem c_X1_add (l : Launch) (dC : Nat → ClassId) (dI : Nat → Nat → Nat) (sz : Nat) (h0 h1 h2 : Nat) (cP : ClassId) (f : Nat → Option Nat) (fs : List Value) (hn_fs : fs.length = 3) (e_fs_0 : fs[0]? = some (.ref h2)) (e_fs_2 : fs[2]? = some (.int 0)) (gs : List Value) (hn_gs : gs.length = 14) : Met l yX1_add u_c_X1_add ({ frames := 1, cells := 0, slots := 0, locals := 20 }) (va_Pc [.ref h0, .ref h1] (fun U => U.heap.size = sz ∧ va_P (dC, dI) vwCl [(h0, .inr (1, fs)), (h1, .inr (6, gs)), (h2, .inl (cP, 8, .inr (.inr (.inr (.inr f)))))] U.heap ∧ va_K (dC, dI) vwCl [(cP, (.object RX6))] U ∧ va_D (fun _ => True) [(h0, .inr (1, fs)), (h1, .inr (6, gs)), (h2, .inl (cP, 8, .inr (.inr (.inr (.inr f)))))])) (va_Qi (fun (r : Int32) (_ : Unit) => r = 0) (fun _ _ => True) (va_A [(h0, .inr (1, fs)), (h1, .inr (6, gs)), (h2, .inl (cP, 8, .inr (.inr (.inr (.inr f)))))] sz)) 0 0 (va_A [(h0, .inr (1, fs)), (h1, .inr (6, gs)), (h2, .inl (cP, 8, .inr (.inr (.inr (.inr f)))))] sz) := by
  refine Met.ofW (cc := cX1_add) (maxL := 2) (ret := (some .int)) (by decide) rfl ?_
  intro p e s m args below meth c s₁ B hml hv
  obtain ⟨rfl, hsz, hP, hK, hD0⟩ := hv
  have hx := B.exec
  have hb := B.bytes
  have hr := B.returns
  have hts := atoms_spec (ws := u_c_X1_add) B.pre
  have hown : s.vm.findClass RX1 = some m.cls := findClass_of_methodNamed B.named
  have hlocks := B.notSynchronized
  have hiX1 : ∀ w ∈ wsX10, w ∈ u_c_X1_add := fun w h => List.mem_cons_of_mem _ (List.mem_append_left _ (List.mem_append_right _ h))
  have hiX6 : ∀ w ∈ wsX60, w ∈ u_c_X1_add := fun w h => List.mem_cons_of_mem _ (List.mem_append_right _ h)
  subst hsz
  have hD := hD0.self (sz := s.heap.size)
  generalize hAe : va_A [(h0, .inr (1, fs)), (h1, .inr (6, gs)), (h2, .inl (cP, 8, .inr (.inr (.inr (.inr f)))))] s.heap.size = A at hD ⊢
  have hA : ∀ q : Nat, s.heap.size ≤ q → A q := fun q h => by rw [← hAe]; exact Or.inr h
  have hS : va_S A s.heap s.heap [] := va_S.rf
  obtain ⟨H, hH⟩ : ∃ H : Heap, H = s.heap := ⟨_, rfl⟩
  have hP : va_P (dC, dI) vwCl [(h0, .inr (1, fs)), (h1, .inr (6, gs)), (h2, .inl (cP, 8, .inr (.inr (.inr (.inr f)))))] H := by rw [hH]; exact hP
  have hS : va_S A s.heap H [] := by rw [hH]; exact hS
  have hl := lv_entry ([.ref h0, .ref h1]) (n := 2) (Nat.le_of_ble_eq_true rfl)
  rw [lg_entry_eq]
  generalize (lg_sl ([.ref h0, .ref h1]) ++ List.replicate (2 - (lg_sl ([.ref h0, .ref h1])).length) Slot.unset).toArray = ls at hl ⊢
  have hl : lv_has ls 2 [(0, .ref h0), (1, .ref h1)] := hl
  suffices h9 : W p l e (headSpec u_c_X1_add _).room s m _ below meth c H [] 0 0 _ (F0 m 0 ls []) by rw [hH] at h9; exact h9
  refine lv_aload_n hx hb dX1_add_0 rfl (lv_at hl 0 rfl) ?_
  have hPc := hP.sub (ws' := [(h0, .inr (1, fs))]) [0] rfl
  have hDc := hD.sub (ws' := [(h0, .inr (1, fs))]) [0] (by decide) rfl
  have hKc := hK.sub (tys' := []) [] rfl
  have hFc := va_free (wc := [(h0, .inr (1, fs))]) hD hS hA [0] rfl
  refine va_calli (va_runV (As := []) (rest := []) ⟨hx, hb, hml, hown, hts⟩ (c_X1_isFull l dC dI H.size h0 fs hn_fs e_fs_2) (cwV 0 hts g_c_X1_add_c_X1_isFull_0 rfl rfl rfl (by decide +kernel) ⟨Nat.le_of_ble_eq_true rfl, Nat.le_of_ble_eq_true rfl⟩) ⟨fun a U g mk q => by obtain ⟨q0, q1, qP, qK, qD⟩ := q; exact ⟨q0, q1, qP, va_K.moved (u := U) (U := U.calling g mk a) (Vm.Alike.refl U.vm) qK, qD⟩, va_recv hKc hPc (ci := 1) (q0 := 0) rfl rfl, fun U hU hW => ⟨rfl, by rw [hU], by rw [hU]; exact hPc, va_K.moved hW.alike hKc, hDc.weaken (fun _ _ _ _ => trivial)⟩⟩ rfl rfl hl.1 rfl (lv_room (Nat.le_of_ble_eq_true rfl)) dX1_add_1 ⟨Nat.le_of_ble_eq_true rfl, Nat.le_of_ble_eq_true rfl⟩) hS (fun q _ h => hFc q h) hFc (fun r_1 u t H1 locs ht hvm hw hB hz1 hk1 hS => ?_)
  obtain ⟨hP1, hD1⟩ := hB
  rw [ht] at hP1
  obtain ⟨hP, hD⟩ := va_join (wr := [(h1, .inr (6, gs)), (h2, .inl (cP, 8, .inr (.inr (.inr (.inr f)))))]) (w1 := [(h0, .inr (1, fs))]) hP hD [0] [1, 2] rfl rfl (by decide) (by decide) hk1 hFc hP1 hD1
  generalize H1 = H at hP hS ⊢
  have hP : va_P (dC, dI) vwCl [(h1, .inr (6, gs)), (h2, .inl (cP, 8, .inr (.inr (.inr (.inr f))))), (h0, .inr (1, fs))] H := hP
  have hD : va_D A [(h1, .inr (6, gs)), (h2, .inl (cP, 8, .inr (.inr (.inr (.inr f))))), (h0, .inr (1, fs))] := hD
  refine W.widen (k := 0) (n := 0) (Nat.le_of_ble_eq_true rfl) (Nat.le_of_ble_eq_true rfl) ?_
  refine zz_ci (y := 0) hw ?_
  refine lv_if_ne (tgt := 14) hx hb dX1_add_4 (by decide) (fun c_2 => absurd c_2 (by decide)) (fun c_2 => ?_)
  refine lv_aload_n hx hb dX1_add_7 rfl (lv_at hl 0 rfl) ?_
  refine va_get (D := (dC, dI)) (ci := 1) (v := .int 0) (C := RX1) (T := TX1) (N := 3) hx hb hts hiX1 hown hK hP 2 rfl rfl 2 (by decide) (hts (.fieldLink RX1 24 "CakePapers$Desk" "count" "I") (by decide +kernel)) (fun _ h9 => h9) e_fs_2 dX1_add_8 ?_
  refine lv_if_ge (tgt := 16) hx hb dX1_add_11 (by decide) (fun c_3 => ?_) (fun c_3 => absurd c_3 (by decide))
  refine lv_aload_n hx hb dX1_add_16 rfl (lv_at hl 0 rfl) ?_
  refine va_get (D := (dC, dI)) (ci := 1) (v := .ref h2) (C := RX1) (T := TX1) (N := 3) hx hb hts hiX1 hown hK hP 2 rfl rfl 0 (by decide) (hts (.fieldLink RX1 13 "CakePapers$Desk" "papers" "[LCakePapers$Paper;") (by decide +kernel)) (fun _ h9 => h9) e_fs_0 dX1_add_17 ?_
  refine lv_aload_n hx hb dX1_add_20 rfl (lv_at hl 0 rfl) ?_
  refine va_get (D := (dC, dI)) (ci := 1) (v := .int 0) (C := RX1) (T := TX1) (N := 3) hx hb hts hiX1 hown hK hP 2 rfl rfl 2 (by decide) (hts (.fieldLink RX1 24 "CakePapers$Desk" "count" "I") (by decide +kernel)) (fun _ h9 => h9) e_fs_2 dX1_add_21 ?_
  refine lv_aload_n hx hb dX1_add_24 rfl (lv_at hl 1 rfl) ?_
  refine va_astq (r := (RX6, TX6, 14)) hx hb hK hP hD hS 1 0 0 6 rfl rfl rfl rfl (zz_in (by decide)) dX1_add_25 (fun H locs hP hD hS => ?_)
  obtain ⟨f_4, hP, hD⟩ : ∃ f_4 : Nat → Option Nat, va_P (dC, dI) vwCl [(h1, .inr (6, gs)), (h2, .inl (cP, 8, .inr (.inr (.inr (.inr f_4))))), (h0, .inr (1, fs))] H ∧ va_D A [(h1, .inr (6, gs)), (h2, .inl (cP, 8, .inr (.inr (.inr (.inr f_4))))), (h0, .inr (1, fs))] := ⟨_, hP, hD⟩
  refine lv_aload_n hx hb dX1_add_26 rfl (lv_at hl 0 rfl) ?_
  refine lv_dup hx hb dX1_add_27 rfl ?_
  refine va_get (D := (dC, dI)) (ci := 1) (v := .int 0) (C := RX1) (T := TX1) (N := 3) hx hb hts hiX1 hown hK hP 2 rfl rfl 2 (by decide) (hts (.fieldLink RX1 24 "CakePapers$Desk" "count" "I") (by decide +kernel)) (fun _ h9 => h9) e_fs_2 dX1_add_28 ?_
  refine lv_iconst (v := 1) hx hb dX1_add_31 (by decide) ?_
  refine lv_iadd hx hb dX1_add_32 ?_
  refine zz_ci (y := 1) (by decide) ?_
  refine va_put (D := (dC, dI)) (ci := 1) (v := .int 1) (ty := .int) (C := RX1) (T := TX1) (N := 3) hx hb hts hiX1 tyX1 tyX1_ok nmX1 hown hK hP hD hS 2 rfl rfl 2 (by decide) (hts (.fieldLink RX1 24 "CakePapers$Desk" "count" "I") (by decide +kernel)) (fun _ h9 => h9) rfl (by decide +kernel) rfl rfl (by simp [hn_fs]) dX1_add_33 (fun H locs hP hD hS => ?_)
  have hP : va_P (dC, dI) vwCl [(h1, .inr (6, gs)), (h2, .inl (cP, 8, .inr (.inr (.inr (.inr f_4))))), (h0, .inr (1, (List.set fs 2 (.int 1))))] H := hP
  have hD : va_D A [(h1, .inr (6, gs)), (h2, .inl (cP, 8, .inr (.inr (.inr (.inr f_4))))), (h0, .inr (1, (List.set fs 2 (.int 1))))] := hD
  refine lv_aload_n hx hb dX1_add_36 rfl (lv_at hl 0 rfl) ?_
  refine va_get (D := (dC, dI)) (ci := 1) (v := .int 1) (C := RX1) (T := TX1) (N := 3) hx hb hts hiX1 hown hK hP 2 rfl rfl 2 (by decide) (hts (.fieldLink RX1 24 "CakePapers$Desk" "count" "I") (by decide +kernel)) (fun _ h9 => h9) (by simp [hn_fs]) dX1_add_37 ?_
  refine lv_iconst (v := 1) hx hb dX1_add_40 (by decide) ?_
  refine lv_isub hx hb dX1_add_41 ?_
  refine zz_ci (y := 0) (by decide) ?_
  refine W.widen (k := 0) (n := 0) (Nat.le_of_ble_eq_true rfl) (Nat.le_of_ble_eq_true rfl) ?_
  exact W.iret (v := 0) hx hb hr (fun t ht hW => ⟨⟨0, (), rfl, rfl, trivial⟩, hS.F ht⟩) hS.2.2 dX1_add_42
def u_c_X11_keep : List Cond := .code yX11_keepSparePaper cX11_keepSparePaper 2 (some .int) :: ([.fieldLink RX11 39 "CakePapers" "desk" "LCakePapers$Desk;", .fieldLink RX11 56 "CakePapers" "sparePaper" "LCakePapers$Paper;", .code yX1_add cX1_add 2 (some .int), .code yX1_isFull cX1_isFull 1 (some .boolean), .fieldLink RX1 24 "CakePapers$Desk" "count" "I", .methodLink RX1 28 yX1_isFull, .instanceMethod yX1_isFull, .selects RX1 yX1_isFull yX1_isFull, .initialized RX1, .fieldLink RX1 13 "CakePapers$Desk" "papers" "[LCakePapers$Paper;", .methodLink RX11 129 yX1_add, .instanceMethod yX1_add, .selects RX1 yX1_add yX1_add, .classLink RX11 51 RX6, .instantiable RX6 14, .initialized RX6, .code yX6_init cX6_init 3 none, .methodLink RX6 3 objectInit, .instanceMethod objectInit, .code objectInit ⟨#[0xb1]⟩ 1 none, .methodLink RX6 9 Lib.Math.max.name, .static Lib.Math.max.name, .initialized "java/lang/Math", .code Lib.Math.max.name Lib.Math.max.code 2 (some .int), .arrayClass .long, .fieldLink RX6 15 "CakePapers$Paper" "makes" "[J", .fieldLink RX6 21 "CakePapers$Paper" "verbs" "[J", .arrayClass .int, .fieldLink RX6 24 "CakePapers$Paper" "much" "[I", .fieldLink RX6 28 "CakePapers$Paper" "lasts" "[I", .fieldLink RX6 31 "CakePapers$Paper" "needCount" "[I", .fieldLink RX6 34 "CakePapers$Paper" "needs" "[J", .fieldLink RX6 37 "CakePapers$Paper" "makers" "[I", .arrayClass .boolean, .fieldLink RX6 40 "CakePapers$Paper" "isEnd" "[Z", .fieldLink RX6 44 "CakePapers$Paper" "reach" "[I", .methodLink RX11 53 yX6_init, .instanceMethod yX6_init] ++ wsX110 ++ wsX10 ++ wsX60)
set_option maxRecDepth 20000 in
theorem g_c_X11_keep_c_X1_add_0 : GoodIn u_c_X11_keep (wsV RX11 129 RX1 yX1_add u_c_X1_add) := goodIn_of _ (by decide +kernel)
set_option maxRecDepth 20000 in
theorem g_c_X11_keep_c_X6_init_1 : GoodIn u_c_X11_keep (u_c_X6_init) := goodIn_of _ (by decide +kernel)
set_option maxHeartbeats 1000000 in
set_option maxRecDepth 100000 in
theorem c_X11_keep (l : Launch) (dC : Nat → ClassId) (dI : Nat → Nat → Nat) (sz : Nat) (h0 h1 h2 h3 : Nat) (cP : ClassId) (f : Nat → Option Nat) (fs : List Value) (hn_fs : fs.length = 16) (e_fs_5 : fs[5]? = some (.ref h1)) (e_fs_7 : fs[7]? = some (.ref h2)) (gs : List Value) (hn_gs : gs.length = 3) (e_gs_0 : gs[0]? = some (.ref h3)) (e_gs_2 : gs[2]? = some (.int 0)) (ps : List Value) (hn_ps : ps.length = 14) : Met l yX11_keepSparePaper u_c_X11_keep ({ frames := 2, cells := 10, slots := 194, locals := 43 }) (va_Pc [.ref h0] (fun U => U.heap.size = sz ∧ va_P (dC, dI) vwCl [(h0, .inr (11, fs)), (h1, .inr (1, gs)), (h2, .inr (6, ps)), (h3, .inl (cP, 8, .inr (.inr (.inr (.inr f)))))] U.heap ∧ va_K (dC, dI) vwCl [(cP, (.object RX6))] U ∧ va_D (fun _ => True) [(h0, .inr (11, fs)), (h1, .inr (1, gs)), (h2, .inr (6, ps)), (h3, .inl (cP, 8, .inr (.inr (.inr (.inr f)))))])) (va_Qi (fun (r : Int32) (_ : Unit) => r = 0) (fun _ _ => True) (va_A [(h0, .inr (11, fs)), (h1, .inr (1, gs)), (h2, .inr (6, ps)), (h3, .inl (cP, 8, .inr (.inr (.inr (.inr f)))))] sz)) 10 194 (va_A [(h0, .inr (11, fs)), (h1, .inr (1, gs)), (h2, .inr (6, ps)), (h3, .inl (cP, 8, .inr (.inr (.inr (.inr f)))))] sz) := by
  refine Met.ofW (cc := cX11_keepSparePaper) (maxL := 2) (ret := (some .int)) (by decide) rfl ?_
  intro p e s m args below meth c s₁ B hml hv
  obtain ⟨rfl, hsz, hP, hK, hD0⟩ := hv
  have hx := B.exec
  have hb := B.bytes
  have hr := B.returns
  have hts := atoms_spec (ws := u_c_X11_keep) B.pre
  have hown : s.vm.findClass RX11 = some m.cls := findClass_of_methodNamed B.named
  have hlocks := B.notSynchronized
  have hiX11 : ∀ w ∈ wsX110, w ∈ u_c_X11_keep := fun w h => List.mem_cons_of_mem _ (List.mem_append_left _ (List.mem_append_left _ (List.mem_append_right _ h)))
  have hiX1 : ∀ w ∈ wsX10, w ∈ u_c_X11_keep := fun w h => List.mem_cons_of_mem _ (List.mem_append_left _ (List.mem_append_right _ h))
  have hiX6 : ∀ w ∈ wsX60, w ∈ u_c_X11_keep := fun w h => List.mem_cons_of_mem _ (List.mem_append_right _ h)
  subst hsz
  have hD := hD0.self (sz := s.heap.size)
  generalize hAe : va_A [(h0, .inr (11, fs)), (h1, .inr (1, gs)), (h2, .inr (6, ps)), (h3, .inl (cP, 8, .inr (.inr (.inr (.inr f)))))] s.heap.size = A at hD ⊢
  have hA : ∀ q : Nat, s.heap.size ≤ q → A q := fun q h => by rw [← hAe]; exact Or.inr h
  have hS : va_S A s.heap s.heap [] := va_S.rf
  obtain ⟨H, hH⟩ : ∃ H : Heap, H = s.heap := ⟨_, rfl⟩
  have hP : va_P (dC, dI) vwCl [(h0, .inr (11, fs)), (h1, .inr (1, gs)), (h2, .inr (6, ps)), (h3, .inl (cP, 8, .inr (.inr (.inr (.inr f)))))] H := by rw [hH]; exact hP
  have hS : va_S A s.heap H [] := by rw [hH]; exact hS
  have hl := lv_entry ([.ref h0]) (n := 2) (Nat.le_of_ble_eq_true rfl)
  rw [lg_entry_eq]
  generalize (lg_sl ([.ref h0]) ++ List.replicate (2 - (lg_sl ([.ref h0])).length) Slot.unset).toArray = ls at hl ⊢
  have hl : lv_has ls 2 [(0, .ref h0)] := hl
  suffices h9 : W p l e (headSpec u_c_X11_keep _).room s m _ below meth c H [] 0 0 _ (F0 m 0 ls []) by rw [hH] at h9; exact h9
  refine lv_aload_n hx hb dX11_keepSparePaper_0 rfl (lv_at hl 0 rfl) ?_
  refine va_get (D := (dC, dI)) (ci := 11) (v := .ref h1) (C := RX11) (T := TX11) (N := 16) hx hb hts hiX11 hown hK hP 0 rfl rfl 5 (by decide) (hts (.fieldLink RX11 39 "CakePapers" "desk" "LCakePapers$Desk;") (by decide +kernel)) (fun _ h9 => h9) e_fs_5 dX11_keepSparePaper_1 ?_
  refine lv_aload_n hx hb dX11_keepSparePaper_4 rfl (lv_at hl 0 rfl) ?_
  refine va_get (D := (dC, dI)) (ci := 11) (v := .ref h2) (C := RX11) (T := TX11) (N := 16) hx hb hts hiX11 hown hK hP 0 rfl rfl 7 (by decide) (hts (.fieldLink RX11 56 "CakePapers" "sparePaper" "LCakePapers$Paper;") (by decide +kernel)) (fun _ h9 => h9) e_fs_7 dX11_keepSparePaper_5 ?_
  have hPc := hP.sub (ws' := [(h1, .inr (1, gs)), (h2, .inr (6, ps)), (h3, .inl (cP, 8, .inr (.inr (.inr (.inr f)))))]) [1, 2, 3] rfl
  have hDc := hD.sub (ws' := [(h1, .inr (1, gs)), (h2, .inr (6, ps)), (h3, .inl (cP, 8, .inr (.inr (.inr (.inr f)))))]) [1, 2, 3] (by decide) rfl
  have hKc := hK.sub (tys' := [(cP, (.object RX6))]) [0] rfl
  have hFc := va_free (wc := [(h1, .inr (1, gs)), (h2, .inr (6, ps)), (h3, .inl (cP, 8, .inr (.inr (.inr (.inr f)))))]) hD hS hA [1, 2, 3] rfl
  refine va_calli (va_runV (As := [.ref h2]) (rest := []) ⟨hx, hb, hml, hown, hts⟩ (c_X1_add l dC dI H.size h1 h2 h3 cP f gs hn_gs e_gs_0 e_gs_2 ps hn_ps) (cwV 1 hts g_c_X11_keep_c_X1_add_0 rfl rfl rfl (by decide +kernel) ⟨Nat.le_of_ble_eq_true rfl, Nat.le_of_ble_eq_true rfl⟩) ⟨fun a U g mk q => by obtain ⟨q0, q1, qP, qK, qD⟩ := q; exact ⟨q0, q1, qP, va_K.moved (u := U) (U := U.calling g mk a) (Vm.Alike.refl U.vm) qK, qD⟩, va_recv hKc hPc (ci := 1) (q0 := 0) rfl rfl, fun U hU hW => ⟨rfl, by rw [hU], by rw [hU]; exact hPc, va_K.moved hW.alike hKc, hDc.weaken (fun _ _ _ _ => trivial)⟩⟩ rfl rfl hl.1 rfl (lv_room (Nat.le_of_ble_eq_true rfl)) dX11_keepSparePaper_8 ⟨Nat.le_of_ble_eq_true rfl, Nat.le_of_ble_eq_true rfl⟩) hS (fun q _ h => hFc q h) hFc (fun r_1 u t H1 locs ht hvm hw hB hz1 hk1 hS => ?_)
  obtain ⟨hP, hD⟩ := va_join (wr := [(h0, .inr (11, fs))]) (w1 := []) hP hD [1, 2, 3] [0] rfl rfl (by decide) (by decide) hk1 hFc zz_P0 zz_D0
  generalize H1 = H at hP hS ⊢
  have hP : va_P (dC, dI) vwCl [(h0, .inr (11, fs))] H := hP
  have hD : va_D A [(h0, .inr (11, fs))] := hD
  refine W.widen (k := 0) (n := 0) (Nat.le_of_ble_eq_true rfl) (Nat.le_of_ble_eq_true rfl) ?_
  refine zz_ci (y := 0) hw ?_
  refine lv_istore_n (lv' := [(1, .int 0), (0, .ref h0)]) hx hb dX11_keepSparePaper_11 rfl hl (by decide) rfl (fun ls hl => ?_)
  refine lv_aload_n hx hb dX11_keepSparePaper_12 rfl (lv_at hl 1 rfl) ?_
  refine va_new (ci := 6) (fs := [.null, .null, .null, .null, .null, .null, .null, .null, .null, .int 0, .int 0, .int 0, .int 0, .int 0]) (C := RX6) (T := TX6) (N := 14) hx hb hts hiX6 tyX6 tyX6_ok hown (hts (.classLink RX11 51 RX6) (by decide +kernel)) (hts (.instantiable RX6 14) (by decide +kernel)) (hts (.initialized RX6) (by decide +kernel)) hK hP hD hS hA rfl (by decide +kernel) (Nat.le_of_ble_eq_true rfl) (Nat.le_of_ble_eq_true rfl) dX11_keepSparePaper_13 (fun q_2 H hP hD hS => ?_)
  have hP : va_P (dC, dI) vwCl [(h0, .inr (11, fs)), (q_2, .inr (6, [.null, .null, .null, .null, .null, .null, .null, .null, .null, .int 0, .int 0, .int 0, .int 0, .int 0]))] H := hP
  have hD : va_D A [(h0, .inr (11, fs)), (q_2, .inr (6, [.null, .null, .null, .null, .null, .null, .null, .null, .null, .int 0, .int 0, .int 0, .int 0, .int 0]))] := hD
  refine W.widen (k := 1) (n := 14) (Nat.le_of_ble_eq_true rfl) (Nat.le_of_ble_eq_true rfl) ?_
  refine lv_dup hx hb dX11_keepSparePaper_16 rfl ?_
  refine lv_bipush (v := 12) hx hb dX11_keepSparePaper_17 (by decide) ?_
  have hPc := hP.sub (ws' := [(q_2, .inr (6, [.null, .null, .null, .null, .null, .null, .null, .null, .null, .int 0, .int 0, .int 0, .int 0, .int 0]))]) [1] rfl
  have hDc := hD.sub (ws' := [(q_2, .inr (6, [.null, .null, .null, .null, .null, .null, .null, .null, .null, .int 0, .int 0, .int 0, .int 0, .int 0]))]) [1] (by decide) rfl
  have hKc := hK.sub (tys' := []) [] rfl
  have hFc := va_free (wc := [(q_2, .inr (6, [.null, .null, .null, .null, .null, .null, .null, .null, .null, .int 0, .int 0, .int 0, .int 0, .int 0]))]) hD hS hA [1] rfl
  refine va_callv (va_runI (As := [.int 12]) (rest := [.ref q_2, .ref h0]) ⟨hx, hb, hml, hown, hts⟩ (c_X6_init l dC dI H.size q_2) (cwI 1 hts g_c_X11_keep_c_X6_init_1 rfl rfl rfl (hts (.initialized RX6) (by decide +kernel)) (hts (.methodLink RX11 53 yX6_init) (by decide +kernel)) (hts (.instanceMethod yX6_init) (by decide +kernel)) rfl (by decide +kernel) ⟨Nat.le_of_ble_eq_true rfl, Nat.le_of_ble_eq_true rfl⟩) ⟨fun a U g mk q => by obtain ⟨q0, q1, qP, qK, qD⟩ := q; exact ⟨q0, q1, qP, va_K.moved (u := U) (U := U.calling g mk a) (Vm.Alike.refl U.vm) qK, qD⟩, fun U hU hW => ⟨rfl, by rw [hU], by rw [hU]; exact hPc, va_K.moved hW.alike hKc, hDc.weaken (fun _ _ _ _ => trivial)⟩⟩ rfl rfl hl.1 rfl (lv_room (Nat.le_of_ble_eq_true rfl)) dX11_keepSparePaper_19 ⟨Nat.le_of_ble_eq_true rfl, Nat.le_of_ble_eq_true rfl⟩) hS (fun q _ h => hFc q h) hFc (fun u t H1 locs ht hvm hw hB hz1 hk1 hS => ?_)
  obtain ⟨q_1_3, q_2_3, q_3_3, q_4_3, q_5_3, q_6_3, q_7_3, q_8_3, q_9_3, hP1, hD1⟩ := hB
  rw [ht] at hP1
  obtain ⟨hP, hD⟩ := va_join (wr := [(h0, .inr (11, fs))]) (w1 := [(q_2, .inr (6, [.ref q_1_3, .ref q_2_3, .ref q_3_3, .ref q_4_3, .ref q_5_3, .ref q_6_3, .ref q_7_3, .ref q_8_3, .ref q_9_3, .int 0, .int 0, .int 0, .int 0, .int 0]))]) hP hD [1] [0] rfl rfl (by decide) (by decide) hk1 hFc hP1 hD1
  generalize H1 = H at hP hS ⊢
  have hP : va_P (dC, dI) vwCl [(h0, .inr (11, fs)), (q_2, .inr (6, [.ref q_1_3, .ref q_2_3, .ref q_3_3, .ref q_4_3, .ref q_5_3, .ref q_6_3, .ref q_7_3, .ref q_8_3, .ref q_9_3, .int 0, .int 0, .int 0, .int 0, .int 0]))] H := hP
  have hD : va_D A [(h0, .inr (11, fs)), (q_2, .inr (6, [.ref q_1_3, .ref q_2_3, .ref q_3_3, .ref q_4_3, .ref q_5_3, .ref q_6_3, .ref q_7_3, .ref q_8_3, .ref q_9_3, .int 0, .int 0, .int 0, .int 0, .int 0]))] := hD
  refine W.widen (k := 10) (n := 194) (Nat.le_of_ble_eq_true rfl) (Nat.le_of_ble_eq_true rfl) ?_
  refine va_put (D := (dC, dI)) (ci := 11) (v := .ref q_2) (ty := (.object "CakePapers$Paper")) (C := RX11) (T := TX11) (N := 16) hx hb hts hiX11 tyX11 tyX11_ok nmX11 hown hK hP hD hS 0 rfl rfl 7 (by decide) (hts (.fieldLink RX11 56 "CakePapers" "sparePaper" "LCakePapers$Paper;") (by decide +kernel)) (fun _ h9 => h9) rfl (by decide +kernel) rfl rfl (by simp [hn_fs]) dX11_keepSparePaper_22 (fun H locs hP hD hS => ?_)
  have hP : va_P (dC, dI) vwCl [(h0, .inr (11, (List.set fs 7 (.ref q_2)))), (q_2, .inr (6, [.ref q_1_3, .ref q_2_3, .ref q_3_3, .ref q_4_3, .ref q_5_3, .ref q_6_3, .ref q_7_3, .ref q_8_3, .ref q_9_3, .int 0, .int 0, .int 0, .int 0, .int 0]))] H := hP
  have hD : va_D A [(h0, .inr (11, (List.set fs 7 (.ref q_2)))), (q_2, .inr (6, [.ref q_1_3, .ref q_2_3, .ref q_3_3, .ref q_4_3, .ref q_5_3, .ref q_6_3, .ref q_7_3, .ref q_8_3, .ref q_9_3, .int 0, .int 0, .int 0, .int 0, .int 0]))] := hD
  refine lv_iload_n hx hb dX11_keepSparePaper_25 rfl (lv_at hl 0 rfl) ?_
  refine W.widen (k := 10) (n := 194) (Nat.le_of_ble_eq_true rfl) (Nat.le_of_ble_eq_true rfl) ?_
  exact W.iret (v := 0) hx hb hr (fun t ht hW => ⟨⟨0, (), rfl, rfl, trivial⟩, hS.F ht⟩) hS.2.2 dX11_keepSparePaper_26
def u_c_X11_paper : List Cond := .code yX11_paper cX11_paper 1 (some .int) :: ([.fieldLink RX11 39 "CakePapers" "desk" "LCakePapers$Desk;", .code yX1_isFull cX1_isFull 1 (some .boolean), .fieldLink RX1 24 "CakePapers$Desk" "count" "I", .methodLink RX11 113 yX1_isFull, .instanceMethod yX1_isFull, .selects RX1 yX1_isFull yX1_isFull, .initialized RX1, .fieldLink RX11 16 "CakePapers" "scanner" "LCakePapers$Scanner;", .fieldLink RX11 9 "CakePapers" "tape" "[I", .fieldLink RX11 107 "CakePapers" "taped" "I", .code yX8_start cX8_start 3 none, .fieldLink RX8 15 "CakePapers$Scanner" "bytes" "[I", .methodLink RX8 35 Lib.Math.min.name, .static Lib.Math.min.name, .initialized "java/lang/Math", .code Lib.Math.min.name Lib.Math.min.code 2 (some .int), .fieldLink RX8 41 "CakePapers$Scanner" "length" "I", .fieldLink RX8 43 "CakePapers$Scanner" "at" "I", .fieldLink RX8 46 "CakePapers$Scanner" "fault" "I", .fieldLink RX8 19 "CakePapers$Scanner" "faultPlace" "I", .code yX8_next cX8_next 1 none, .fieldLink RX8 52 "CakePapers$Scanner" "place" "I", .fieldLink RX8 55 "CakePapers$Scanner" "kind" "I", .methodLink RX8 49 yX8_next, .instanceMethod yX8_next, .selects RX8 yX8_next yX8_next, .initialized RX8, .methodLink RX11 117 yX8_start, .instanceMethod yX8_start, .selects RX8 yX8_start yX8_start, .fieldLink RX11 25 "CakePapers" "paperReader" "LCakePapers$PaperReader;", .fieldLink RX11 56 "CakePapers" "sparePaper" "LCakePapers$Paper;", .code yX7_read cX7_read 3 (some .boolean), .fieldLink RX7 22 "CakePapers$PaperReader" "calls" "I", .fieldLink RX7 26 "CakePapers$Paper" "steps" "I", .fieldLink RX7 9 "CakePapers$PaperReader" "scanner" "LCakePapers$Scanner;", .fieldLink RX7 31 "CakePapers$Scanner" "kind" "I", .code yX6_workOut cX6_workOut 2 none, .fieldLink RX6 65 "CakePapers$Paper" "ends" "I", .fieldLink RX6 68 "CakePapers$Paper" "path" "I", .fieldLink RX6 71 "CakePapers$Paper" "allMuch" "I", .fieldLink RX6 74 "CakePapers$Paper" "allLong" "I", .fieldLink RX6 47 "CakePapers$Paper" "steps" "I", .methodLink RX7 47 yX6_workOut, .instanceMethod yX6_workOut, .selects RX6 yX6_workOut yX6_workOut, .initialized RX6, .methodLink RX11 121 yX7_read, .instanceMethod yX7_read, .selects RX7 yX7_read yX7_read, .initialized RX7, .code yX11_keepSparePaper cX11_keepSparePaper 2 (some .int), .code yX1_add cX1_add 2 (some .int), .methodLink RX1 28 yX1_isFull, .fieldLink RX1 13 "CakePapers$Desk" "papers" "[LCakePapers$Paper;", .methodLink RX11 129 yX1_add, .instanceMethod yX1_add, .selects RX1 yX1_add yX1_add, .classLink RX11 51 RX6, .instantiable RX6 14, .code yX6_init cX6_init 3 none, .methodLink RX6 3 objectInit, .instanceMethod objectInit, .code objectInit ⟨#[0xb1]⟩ 1 none, .methodLink RX6 9 Lib.Math.max.name, .static Lib.Math.max.name, .code Lib.Math.max.name Lib.Math.max.code 2 (some .int), .arrayClass .long, .fieldLink RX6 15 "CakePapers$Paper" "makes" "[J", .fieldLink RX6 21 "CakePapers$Paper" "verbs" "[J", .arrayClass .int, .fieldLink RX6 24 "CakePapers$Paper" "much" "[I", .fieldLink RX6 28 "CakePapers$Paper" "lasts" "[I", .fieldLink RX6 31 "CakePapers$Paper" "needCount" "[I", .fieldLink RX6 34 "CakePapers$Paper" "needs" "[J", .fieldLink RX6 37 "CakePapers$Paper" "makers" "[I", .arrayClass .boolean, .fieldLink RX6 40 "CakePapers$Paper" "isEnd" "[Z", .fieldLink RX6 44 "CakePapers$Paper" "reach" "[I", .methodLink RX11 53 yX6_init, .instanceMethod yX6_init, .methodLink RX11 125 yX11_keepSparePaper, .instanceMethod yX11_keepSparePaper, .selects RX11 yX11_keepSparePaper yX11_keepSparePaper, .initialized RX11] ++ wsX110 ++ wsX10 ++ wsX60 ++ wsX80 ++ wsX70)
set_option maxRecDepth 20000 in
theorem g_c_X11_paper_c_X1_isFull_0 : GoodIn u_c_X11_paper (wsV RX11 113 RX1 yX1_isFull u_c_X1_isFull) := goodIn_of _ (by decide +kernel)
set_option maxRecDepth 20000 in
theorem g_c_X11_paper_c_X8_start_1 : GoodIn u_c_X11_paper (wsV RX11 117 RX8 yX8_start u_c_X8_start) := goodIn_of _ (by decide +kernel)
set_option maxRecDepth 20000 in
theorem g_c_X11_paper_c_X7_read_2 : GoodIn u_c_X11_paper (wsV RX11 121 RX7 yX7_read u_c_X7_read) := goodIn_of _ (by decide +kernel)
set_option maxRecDepth 20000 in
theorem g_c_X11_paper_c_X11_keep_3 : GoodIn u_c_X11_paper (wsV RX11 125 RX11 yX11_keepSparePaper u_c_X11_keep) := goodIn_of _ (by decide +kernel)
set_option maxHeartbeats 1000000 in
set_option maxRecDepth 100000 in
theorem c_X11_paper (l : Launch) (dC : Nat → ClassId) (dI : Nat → Nat → Nat) (sz : Nat) (h0 h4 h5 h6 h1 h2 h3 : Nat) (cP cI : ClassId) (f : Nat → Option Nat) (g : Nat → Int32) (fs : List Value) (hn_fs : fs.length = 16) (e_fs_0 : fs[0]? = some (.ref h4)) (e_fs_1 : fs[1]? = some (.int 0)) (e_fs_2 : fs[2]? = some (.ref h5)) (e_fs_3 : fs[3]? = some (.ref h6)) (e_fs_5 : fs[5]? = some (.ref h1)) (e_fs_7 : fs[7]? = some (.ref h2)) (gs : List Value) (hn_gs : gs.length = 3) (e_gs_0 : gs[0]? = some (.ref h3)) (e_gs_2 : gs[2]? = some (.int 0)) (ps : List Value) (hn_ps : ps.length = 14) (ss : List Value) (hn_ss : ss.length = 10) (rs : List Value) (hn_rs : rs.length = 4) (e_rs_0 : rs[0]? = some (.ref h5)) : Met l yX11_paper u_c_X11_paper ({ frames := 3, cells := 10, slots := 194, locals := 64 }) (va_Pc [.ref h0] (fun U => U.heap.size = sz ∧ va_P (dC, dI) vwCl [(h0, .inr (11, fs)), (h1, .inr (1, gs)), (h2, .inr (6, ps)), (h3, .inl (cP, 8, .inr (.inr (.inr (.inr f))))), (h4, .inl (cI, 1200, .inl g)), (h5, .inr (8, ss)), (h6, .inr (7, rs))] U.heap ∧ va_K (dC, dI) vwCl [(cP, (.object RX6)), (cI, .int)] U ∧ va_D (fun _ => True) [(h0, .inr (11, fs)), (h1, .inr (1, gs)), (h2, .inr (6, ps)), (h3, .inl (cP, 8, .inr (.inr (.inr (.inr f))))), (h4, .inl (cI, 1200, .inl g)), (h5, .inr (8, ss)), (h6, .inr (7, rs))])) (va_Qi (fun (r : Int32) (_ : Unit) => r = 0) (fun _ _ => True) (va_A [(h0, .inr (11, fs)), (h1, .inr (1, gs)), (h2, .inr (6, ps)), (h3, .inl (cP, 8, .inr (.inr (.inr (.inr f))))), (h4, .inl (cI, 1200, .inl g)), (h5, .inr (8, ss)), (h6, .inr (7, rs))] sz)) 10 194 (va_A [(h0, .inr (11, fs)), (h1, .inr (1, gs)), (h2, .inr (6, ps)), (h3, .inl (cP, 8, .inr (.inr (.inr (.inr f))))), (h4, .inl (cI, 1200, .inl g)), (h5, .inr (8, ss)), (h6, .inr (7, rs))] sz) := by
  refine Met.ofW (cc := cX11_paper) (maxL := 1) (ret := (some .int)) (by decide) rfl ?_
  intro p e s m args below meth c s₁ B hml hv
  obtain ⟨rfl, hsz, hP, hK, hD0⟩ := hv
  have hx := B.exec
  have hb := B.bytes
  have hr := B.returns
  have hts := atoms_spec (ws := u_c_X11_paper) B.pre
  have hown : s.vm.findClass RX11 = some m.cls := findClass_of_methodNamed B.named
  have hlocks := B.notSynchronized
  have hiX11 : ∀ w ∈ wsX110, w ∈ u_c_X11_paper := fun w h => List.mem_cons_of_mem _ (List.mem_append_left _ (List.mem_append_left _ (List.mem_append_left _ (List.mem_append_left _ (List.mem_append_right _ h)))))
  have hiX1 : ∀ w ∈ wsX10, w ∈ u_c_X11_paper := fun w h => List.mem_cons_of_mem _ (List.mem_append_left _ (List.mem_append_left _ (List.mem_append_left _ (List.mem_append_right _ h))))
  have hiX6 : ∀ w ∈ wsX60, w ∈ u_c_X11_paper := fun w h => List.mem_cons_of_mem _ (List.mem_append_left _ (List.mem_append_left _ (List.mem_append_right _ h)))
  have hiX8 : ∀ w ∈ wsX80, w ∈ u_c_X11_paper := fun w h => List.mem_cons_of_mem _ (List.mem_append_left _ (List.mem_append_right _ h))
  have hiX7 : ∀ w ∈ wsX70, w ∈ u_c_X11_paper := fun w h => List.mem_cons_of_mem _ (List.mem_append_right _ h)
  subst hsz
  have hD := hD0.self (sz := s.heap.size)
  generalize hAe : va_A [(h0, .inr (11, fs)), (h1, .inr (1, gs)), (h2, .inr (6, ps)), (h3, .inl (cP, 8, .inr (.inr (.inr (.inr f))))), (h4, .inl (cI, 1200, .inl g)), (h5, .inr (8, ss)), (h6, .inr (7, rs))] s.heap.size = A at hD ⊢
  have hA : ∀ q : Nat, s.heap.size ≤ q → A q := fun q h => by rw [← hAe]; exact Or.inr h
  have hS : va_S A s.heap s.heap [] := va_S.rf
  obtain ⟨H, hH⟩ : ∃ H : Heap, H = s.heap := ⟨_, rfl⟩
  have hP : va_P (dC, dI) vwCl [(h0, .inr (11, fs)), (h1, .inr (1, gs)), (h2, .inr (6, ps)), (h3, .inl (cP, 8, .inr (.inr (.inr (.inr f))))), (h4, .inl (cI, 1200, .inl g)), (h5, .inr (8, ss)), (h6, .inr (7, rs))] H := by rw [hH]; exact hP
  have hS : va_S A s.heap H [] := by rw [hH]; exact hS
  have hl := lv_entry ([.ref h0]) (n := 1) (Nat.le_of_ble_eq_true rfl)
  rw [lg_entry_eq]
  generalize (lg_sl ([.ref h0]) ++ List.replicate (1 - (lg_sl ([.ref h0])).length) Slot.unset).toArray = ls at hl ⊢
  have hl : lv_has ls 1 [(0, .ref h0)] := hl
  suffices h9 : W p l e (headSpec u_c_X11_paper _).room s m _ below meth c H [] 0 0 _ (F0 m 0 ls []) by rw [hH] at h9; exact h9
  refine lv_aload_n hx hb dX11_paper_0 rfl (lv_at hl 0 rfl) ?_
  refine va_get (D := (dC, dI)) (ci := 11) (v := .ref h1) (C := RX11) (T := TX11) (N := 16) hx hb hts hiX11 hown hK hP 0 rfl rfl 5 (by decide) (hts (.fieldLink RX11 39 "CakePapers" "desk" "LCakePapers$Desk;") (by decide +kernel)) (fun _ h9 => h9) e_fs_5 dX11_paper_1 ?_
  have hPc := hP.sub (ws' := [(h1, .inr (1, gs))]) [1] rfl
  have hDc := hD.sub (ws' := [(h1, .inr (1, gs))]) [1] (by decide) rfl
  have hKc := hK.sub (tys' := []) [] rfl
  have hFc := va_free (wc := [(h1, .inr (1, gs))]) hD hS hA [1] rfl
  refine va_calli (va_runV (As := []) (rest := []) ⟨hx, hb, hml, hown, hts⟩ (c_X1_isFull l dC dI H.size h1 gs hn_gs e_gs_2) (cwV 0 hts g_c_X11_paper_c_X1_isFull_0 rfl rfl rfl (by decide +kernel) ⟨Nat.le_of_ble_eq_true rfl, Nat.le_of_ble_eq_true rfl⟩) ⟨fun a U g mk q => by obtain ⟨q0, q1, qP, qK, qD⟩ := q; exact ⟨q0, q1, qP, va_K.moved (u := U) (U := U.calling g mk a) (Vm.Alike.refl U.vm) qK, qD⟩, va_recv hKc hPc (ci := 1) (q0 := 0) rfl rfl, fun U hU hW => ⟨rfl, by rw [hU], by rw [hU]; exact hPc, va_K.moved hW.alike hKc, hDc.weaken (fun _ _ _ _ => trivial)⟩⟩ rfl rfl hl.1 rfl (lv_room (Nat.le_of_ble_eq_true rfl)) dX11_paper_4 ⟨Nat.le_of_ble_eq_true rfl, Nat.le_of_ble_eq_true rfl⟩) hS (fun q _ h => hFc q h) hFc (fun r_1 u t H1 locs ht hvm hw hB hz1 hk1 hS => ?_)
  obtain ⟨hP1, hD1⟩ := hB
  rw [ht] at hP1
  obtain ⟨hP, hD⟩ := va_join (wr := [(h0, .inr (11, fs)), (h2, .inr (6, ps)), (h3, .inl (cP, 8, .inr (.inr (.inr (.inr f))))), (h4, .inl (cI, 1200, .inl g)), (h5, .inr (8, ss)), (h6, .inr (7, rs))]) (w1 := [(h1, .inr (1, gs))]) hP hD [1] [0, 2, 3, 4, 5, 6] rfl rfl (by decide) (by decide) hk1 hFc hP1 hD1
  generalize H1 = H at hP hS ⊢
  have hP : va_P (dC, dI) vwCl [(h0, .inr (11, fs)), (h2, .inr (6, ps)), (h3, .inl (cP, 8, .inr (.inr (.inr (.inr f))))), (h4, .inl (cI, 1200, .inl g)), (h5, .inr (8, ss)), (h6, .inr (7, rs)), (h1, .inr (1, gs))] H := hP
  have hD : va_D A [(h0, .inr (11, fs)), (h2, .inr (6, ps)), (h3, .inl (cP, 8, .inr (.inr (.inr (.inr f))))), (h4, .inl (cI, 1200, .inl g)), (h5, .inr (8, ss)), (h6, .inr (7, rs)), (h1, .inr (1, gs))] := hD
  refine W.widen (k := 0) (n := 0) (Nat.le_of_ble_eq_true rfl) (Nat.le_of_ble_eq_true rfl) ?_
  refine zz_ci (y := 0) hw ?_
  refine lv_if_eq (tgt := 18) hx hb dX11_paper_7 (by decide) (fun c_2 => ?_) (fun c_2 => absurd c_2 (by decide))
  refine lv_aload_n hx hb dX11_paper_18 rfl (lv_at hl 0 rfl) ?_
  refine va_get (D := (dC, dI)) (ci := 11) (v := .ref h5) (C := RX11) (T := TX11) (N := 16) hx hb hts hiX11 hown hK hP 0 rfl rfl 2 (by decide) (hts (.fieldLink RX11 16 "CakePapers" "scanner" "LCakePapers$Scanner;") (by decide +kernel)) (fun _ h9 => h9) e_fs_2 dX11_paper_19 ?_
  refine lv_aload_n hx hb dX11_paper_22 rfl (lv_at hl 0 rfl) ?_
  refine va_get (D := (dC, dI)) (ci := 11) (v := .ref h4) (C := RX11) (T := TX11) (N := 16) hx hb hts hiX11 hown hK hP 0 rfl rfl 0 (by decide) (hts (.fieldLink RX11 9 "CakePapers" "tape" "[I") (by decide +kernel)) (fun _ h9 => h9) e_fs_0 dX11_paper_23 ?_
  refine lv_aload_n hx hb dX11_paper_26 rfl (lv_at hl 0 rfl) ?_
  refine va_get (D := (dC, dI)) (ci := 11) (v := .int 0) (C := RX11) (T := TX11) (N := 16) hx hb hts hiX11 hown hK hP 0 rfl rfl 1 (by decide) (hts (.fieldLink RX11 107 "CakePapers" "taped" "I") (by decide +kernel)) (fun _ h9 => h9) e_fs_1 dX11_paper_27 ?_
  have hPc := hP.sub (ws' := [(h5, .inr (8, ss)), (h4, .inl (cI, 1200, .inl g))]) [4, 3] rfl
  have hDc := hD.sub (ws' := [(h5, .inr (8, ss)), (h4, .inl (cI, 1200, .inl g))]) [4, 3] (by decide) rfl
  have hKc := hK.sub (tys' := [(cI, .int)]) [1] rfl
  have hFc := va_free (wc := [(h5, .inr (8, ss)), (h4, .inl (cI, 1200, .inl g))]) hD hS hA [4, 3] rfl
  refine va_callv (va_runV (As := [.ref h4, .int 0]) (rest := []) ⟨hx, hb, hml, hown, hts⟩ (c_X8_start l dC dI H.size h5 h4 cI g ss hn_ss) (cwV 2 hts g_c_X11_paper_c_X8_start_1 rfl rfl rfl (by decide +kernel) ⟨Nat.le_of_ble_eq_true rfl, Nat.le_of_ble_eq_true rfl⟩) ⟨fun a U g mk q => by obtain ⟨q0, q1, qP, qK, qD⟩ := q; exact ⟨q0, q1, qP, va_K.moved (u := U) (U := U.calling g mk a) (Vm.Alike.refl U.vm) qK, qD⟩, va_recv hKc hPc (ci := 8) (q0 := 0) rfl rfl, fun U hU hW => ⟨rfl, by rw [hU], by rw [hU]; exact hPc, va_K.moved hW.alike hKc, hDc.weaken (fun _ _ _ _ => trivial)⟩⟩ rfl rfl hl.1 rfl (lv_room (Nat.le_of_ble_eq_true rfl)) dX11_paper_30 ⟨Nat.le_of_ble_eq_true rfl, Nat.le_of_ble_eq_true rfl⟩) hS (fun q _ h => hFc q h) hFc (fun u t H1 locs ht hvm hw hB hz1 hk1 hS => ?_)
  obtain ⟨hP1, hD1⟩ := hB
  rw [ht] at hP1
  obtain ⟨hP, hD⟩ := va_join (wr := [(h0, .inr (11, fs)), (h2, .inr (6, ps)), (h3, .inl (cP, 8, .inr (.inr (.inr (.inr f))))), (h6, .inr (7, rs)), (h1, .inr (1, gs))]) (w1 := [(h5, .inr (8, (List.set (List.set (List.set (List.set (List.set (List.set (List.set ss 1 (.ref h4)) 2 (.int 0)) 3 (.int 0)) 8 (.int 0)) 9 (.int (-1))) 5 (.int 0)) 4 (.int 1)))), (h4, .inl (cI, 1200, .inl g))]) hP hD [4, 3] [0, 1, 2, 5, 6] rfl rfl (by decide) (by decide) hk1 hFc hP1 hD1
  generalize H1 = H at hP hS ⊢
  have hP : va_P (dC, dI) vwCl [(h0, .inr (11, fs)), (h2, .inr (6, ps)), (h3, .inl (cP, 8, .inr (.inr (.inr (.inr f))))), (h6, .inr (7, rs)), (h1, .inr (1, gs)), (h5, .inr (8, (List.set (List.set (List.set (List.set (List.set (List.set (List.set ss 1 (.ref h4)) 2 (.int 0)) 3 (.int 0)) 8 (.int 0)) 9 (.int (-1))) 5 (.int 0)) 4 (.int 1)))), (h4, .inl (cI, 1200, .inl g))] H := hP
  have hD : va_D A [(h0, .inr (11, fs)), (h2, .inr (6, ps)), (h3, .inl (cP, 8, .inr (.inr (.inr (.inr f))))), (h6, .inr (7, rs)), (h1, .inr (1, gs)), (h5, .inr (8, (List.set (List.set (List.set (List.set (List.set (List.set (List.set ss 1 (.ref h4)) 2 (.int 0)) 3 (.int 0)) 8 (.int 0)) 9 (.int (-1))) 5 (.int 0)) 4 (.int 1)))), (h4, .inl (cI, 1200, .inl g))] := hD
  refine W.widen (k := 0) (n := 0) (Nat.le_of_ble_eq_true rfl) (Nat.le_of_ble_eq_true rfl) ?_
  refine lv_aload_n hx hb dX11_paper_33 rfl (lv_at hl 0 rfl) ?_
  refine va_get (D := (dC, dI)) (ci := 11) (v := .ref h6) (C := RX11) (T := TX11) (N := 16) hx hb hts hiX11 hown hK hP 0 rfl rfl 3 (by decide) (hts (.fieldLink RX11 25 "CakePapers" "paperReader" "LCakePapers$PaperReader;") (by decide +kernel)) (fun _ h9 => h9) e_fs_3 dX11_paper_34 ?_
  refine lv_aload_n hx hb dX11_paper_37 rfl (lv_at hl 0 rfl) ?_
  refine va_get (D := (dC, dI)) (ci := 11) (v := .ref h2) (C := RX11) (T := TX11) (N := 16) hx hb hts hiX11 hown hK hP 0 rfl rfl 7 (by decide) (hts (.fieldLink RX11 56 "CakePapers" "sparePaper" "LCakePapers$Paper;") (by decide +kernel)) (fun _ h9 => h9) e_fs_7 dX11_paper_38 ?_
  have hPc := hP.sub (ws' := [(h6, .inr (7, rs)), (h2, .inr (6, ps)), (h5, .inr (8, (List.set (List.set (List.set (List.set (List.set (List.set (List.set ss 1 (.ref h4)) 2 (.int 0)) 3 (.int 0)) 8 (.int 0)) 9 (.int (-1))) 5 (.int 0)) 4 (.int 1))))]) [3, 1, 5] rfl
  have hDc := hD.sub (ws' := [(h6, .inr (7, rs)), (h2, .inr (6, ps)), (h5, .inr (8, (List.set (List.set (List.set (List.set (List.set (List.set (List.set ss 1 (.ref h4)) 2 (.int 0)) 3 (.int 0)) 8 (.int 0)) 9 (.int (-1))) 5 (.int 0)) 4 (.int 1))))]) [3, 1, 5] (by decide) rfl
  have hKc := hK.sub (tys' := []) [] rfl
  have hFc := va_free (wc := [(h6, .inr (7, rs)), (h2, .inr (6, ps)), (h5, .inr (8, (List.set (List.set (List.set (List.set (List.set (List.set (List.set ss 1 (.ref h4)) 2 (.int 0)) 3 (.int 0)) 8 (.int 0)) 9 (.int (-1))) 5 (.int 0)) 4 (.int 1))))]) hD hS hA [3, 1, 5] rfl
  refine va_calli (va_runV (As := [.ref h2]) (rest := []) ⟨hx, hb, hml, hown, hts⟩ (c_X7_read l dC dI H.size h6 h2 h5 rs hn_rs e_rs_0 ps hn_ps (List.set (List.set (List.set (List.set (List.set (List.set (List.set ss 1 (.ref h4)) 2 (.int 0)) 3 (.int 0)) 8 (.int 0)) 9 (.int (-1))) 5 (.int 0)) 4 (.int 1)) (by simp [hn_ss]) (by simp [hn_ss])) (cwV 1 hts g_c_X11_paper_c_X7_read_2 rfl rfl rfl (by decide +kernel) ⟨Nat.le_of_ble_eq_true rfl, Nat.le_of_ble_eq_true rfl⟩) ⟨fun a U g mk q => by obtain ⟨q0, q1, qP, qK, qD⟩ := q; exact ⟨q0, q1, qP, va_K.moved (u := U) (U := U.calling g mk a) (Vm.Alike.refl U.vm) qK, qD⟩, va_recv hKc hPc (ci := 7) (q0 := 0) rfl rfl, fun U hU hW => ⟨rfl, by rw [hU], by rw [hU]; exact hPc, va_K.moved hW.alike hKc, hDc.weaken (fun _ _ _ _ => trivial)⟩⟩ rfl rfl hl.1 rfl (lv_room (Nat.le_of_ble_eq_true rfl)) dX11_paper_41 ⟨Nat.le_of_ble_eq_true rfl, Nat.le_of_ble_eq_true rfl⟩) hS (fun q _ h => hFc q h) hFc (fun r_4 u t H1 locs ht hvm hw hB hz1 hk1 hS => ?_)
  obtain ⟨hP1, hD1⟩ := hB
  rw [ht] at hP1
  obtain ⟨hP, hD⟩ := va_join (wr := [(h0, .inr (11, fs)), (h3, .inl (cP, 8, .inr (.inr (.inr (.inr f))))), (h1, .inr (1, gs)), (h4, .inl (cI, 1200, .inl g))]) (w1 := [(h6, .inr (7, (List.set rs 3 (.int 0)))), (h2, .inr (6, (List.set (List.set (List.set (List.set (List.set ps 9 (.int 0)) 10 (.int 0)) 11 (.int 0)) 12 (.int 0)) 13 (.int 0)))), (h5, .inr (8, (List.set (List.set (List.set (List.set (List.set (List.set (List.set ss 1 (.ref h4)) 2 (.int 0)) 3 (.int 0)) 8 (.int 0)) 9 (.int (-1))) 5 (.int 0)) 4 (.int 1))))]) hP hD [3, 1, 5] [0, 2, 4, 6] rfl rfl (by decide) (by decide) hk1 hFc hP1 hD1
  generalize H1 = H at hP hS ⊢
  have hP : va_P (dC, dI) vwCl [(h0, .inr (11, fs)), (h3, .inl (cP, 8, .inr (.inr (.inr (.inr f))))), (h1, .inr (1, gs)), (h4, .inl (cI, 1200, .inl g)), (h6, .inr (7, (List.set rs 3 (.int 0)))), (h2, .inr (6, (List.set (List.set (List.set (List.set (List.set ps 9 (.int 0)) 10 (.int 0)) 11 (.int 0)) 12 (.int 0)) 13 (.int 0)))), (h5, .inr (8, (List.set (List.set (List.set (List.set (List.set (List.set (List.set ss 1 (.ref h4)) 2 (.int 0)) 3 (.int 0)) 8 (.int 0)) 9 (.int (-1))) 5 (.int 0)) 4 (.int 1))))] H := hP
  have hD : va_D A [(h0, .inr (11, fs)), (h3, .inl (cP, 8, .inr (.inr (.inr (.inr f))))), (h1, .inr (1, gs)), (h4, .inl (cI, 1200, .inl g)), (h6, .inr (7, (List.set rs 3 (.int 0)))), (h2, .inr (6, (List.set (List.set (List.set (List.set (List.set ps 9 (.int 0)) 10 (.int 0)) 11 (.int 0)) 12 (.int 0)) 13 (.int 0)))), (h5, .inr (8, (List.set (List.set (List.set (List.set (List.set (List.set (List.set ss 1 (.ref h4)) 2 (.int 0)) 3 (.int 0)) 8 (.int 0)) 9 (.int (-1))) 5 (.int 0)) 4 (.int 1))))] := hD
  refine W.widen (k := 0) (n := 0) (Nat.le_of_ble_eq_true rfl) (Nat.le_of_ble_eq_true rfl) ?_
  refine zz_ci (y := 1) hw ?_
  refine lv_if_ne (tgt := 49) hx hb dX11_paper_44 (by decide) (fun c_5 => ?_) (fun c_5 => absurd c_5 (by decide))
  refine lv_aload_n hx hb dX11_paper_49 rfl (lv_at hl 0 rfl) ?_
  refine lv_iconst (v := 0) hx hb dX11_paper_50 (by decide) ?_
  refine va_put (D := (dC, dI)) (ci := 11) (v := .int 0) (ty := .int) (C := RX11) (T := TX11) (N := 16) hx hb hts hiX11 tyX11 tyX11_ok nmX11 hown hK hP hD hS 0 rfl rfl 1 (by decide) (hts (.fieldLink RX11 107 "CakePapers" "taped" "I") (by decide +kernel)) (fun _ h9 => h9) rfl (by decide +kernel) rfl rfl (by simp [hn_fs]) dX11_paper_51 (fun H locs hP hD hS => ?_)
  have hP : va_P (dC, dI) vwCl [(h0, .inr (11, (List.set fs 1 (.int 0)))), (h3, .inl (cP, 8, .inr (.inr (.inr (.inr f))))), (h1, .inr (1, gs)), (h4, .inl (cI, 1200, .inl g)), (h6, .inr (7, (List.set rs 3 (.int 0)))), (h2, .inr (6, (List.set (List.set (List.set (List.set (List.set ps 9 (.int 0)) 10 (.int 0)) 11 (.int 0)) 12 (.int 0)) 13 (.int 0)))), (h5, .inr (8, (List.set (List.set (List.set (List.set (List.set (List.set (List.set ss 1 (.ref h4)) 2 (.int 0)) 3 (.int 0)) 8 (.int 0)) 9 (.int (-1))) 5 (.int 0)) 4 (.int 1))))] H := hP
  have hD : va_D A [(h0, .inr (11, (List.set fs 1 (.int 0)))), (h3, .inl (cP, 8, .inr (.inr (.inr (.inr f))))), (h1, .inr (1, gs)), (h4, .inl (cI, 1200, .inl g)), (h6, .inr (7, (List.set rs 3 (.int 0)))), (h2, .inr (6, (List.set (List.set (List.set (List.set (List.set ps 9 (.int 0)) 10 (.int 0)) 11 (.int 0)) 12 (.int 0)) 13 (.int 0)))), (h5, .inr (8, (List.set (List.set (List.set (List.set (List.set (List.set (List.set ss 1 (.ref h4)) 2 (.int 0)) 3 (.int 0)) 8 (.int 0)) 9 (.int (-1))) 5 (.int 0)) 4 (.int 1))))] := hD
  refine lv_aload_n hx hb dX11_paper_54 rfl (lv_at hl 0 rfl) ?_
  have hPc := hP.sub (ws' := [(h0, .inr (11, (List.set fs 1 (.int 0)))), (h1, .inr (1, gs)), (h2, .inr (6, (List.set (List.set (List.set (List.set (List.set ps 9 (.int 0)) 10 (.int 0)) 11 (.int 0)) 12 (.int 0)) 13 (.int 0)))), (h3, .inl (cP, 8, .inr (.inr (.inr (.inr f)))))]) [0, 2, 5, 1] rfl
  have hDc := hD.sub (ws' := [(h0, .inr (11, (List.set fs 1 (.int 0)))), (h1, .inr (1, gs)), (h2, .inr (6, (List.set (List.set (List.set (List.set (List.set ps 9 (.int 0)) 10 (.int 0)) 11 (.int 0)) 12 (.int 0)) 13 (.int 0)))), (h3, .inl (cP, 8, .inr (.inr (.inr (.inr f)))))]) [0, 2, 5, 1] (by decide) rfl
  have hKc := hK.sub (tys' := [(cP, (.object RX6))]) [0] rfl
  have hFc := va_free (wc := [(h0, .inr (11, (List.set fs 1 (.int 0)))), (h1, .inr (1, gs)), (h2, .inr (6, (List.set (List.set (List.set (List.set (List.set ps 9 (.int 0)) 10 (.int 0)) 11 (.int 0)) 12 (.int 0)) 13 (.int 0)))), (h3, .inl (cP, 8, .inr (.inr (.inr (.inr f)))))]) hD hS hA [0, 2, 5, 1] rfl
  refine va_calli (va_runV (As := []) (rest := []) ⟨hx, hb, hml, hown, hts⟩ (c_X11_keep l dC dI H.size h0 h1 h2 h3 cP f (List.set fs 1 (.int 0)) (by simp [hn_fs]) (by simp [e_fs_5]) (by simp [e_fs_7]) gs hn_gs e_gs_0 e_gs_2 (List.set (List.set (List.set (List.set (List.set ps 9 (.int 0)) 10 (.int 0)) 11 (.int 0)) 12 (.int 0)) 13 (.int 0)) (by simp [hn_ps])) (cwV 0 hts g_c_X11_paper_c_X11_keep_3 rfl rfl rfl (by decide +kernel) ⟨Nat.le_of_ble_eq_true rfl, Nat.le_of_ble_eq_true rfl⟩) ⟨fun a U g mk q => by obtain ⟨q0, q1, qP, qK, qD⟩ := q; exact ⟨q0, q1, qP, va_K.moved (u := U) (U := U.calling g mk a) (Vm.Alike.refl U.vm) qK, qD⟩, va_recv hKc hPc (ci := 11) (q0 := 0) rfl rfl, fun U hU hW => ⟨rfl, by rw [hU], by rw [hU]; exact hPc, va_K.moved hW.alike hKc, hDc.weaken (fun _ _ _ _ => trivial)⟩⟩ rfl rfl hl.1 rfl (lv_room (Nat.le_of_ble_eq_true rfl)) dX11_paper_55 ⟨Nat.le_of_ble_eq_true rfl, Nat.le_of_ble_eq_true rfl⟩) hS (fun q _ h => hFc q h) hFc (fun r_6 u t H1 locs ht hvm hw hB hz1 hk1 hS => ?_)
  obtain ⟨hP, hD⟩ := va_join (wr := [(h4, .inl (cI, 1200, .inl g)), (h6, .inr (7, (List.set rs 3 (.int 0)))), (h5, .inr (8, (List.set (List.set (List.set (List.set (List.set (List.set (List.set ss 1 (.ref h4)) 2 (.int 0)) 3 (.int 0)) 8 (.int 0)) 9 (.int (-1))) 5 (.int 0)) 4 (.int 1))))]) (w1 := []) hP hD [0, 2, 5, 1] [3, 4, 6] rfl rfl (by decide) (by decide) hk1 hFc zz_P0 zz_D0
  generalize H1 = H at hP hS ⊢
  have hP : va_P (dC, dI) vwCl [(h4, .inl (cI, 1200, .inl g)), (h6, .inr (7, (List.set rs 3 (.int 0)))), (h5, .inr (8, (List.set (List.set (List.set (List.set (List.set (List.set (List.set ss 1 (.ref h4)) 2 (.int 0)) 3 (.int 0)) 8 (.int 0)) 9 (.int (-1))) 5 (.int 0)) 4 (.int 1))))] H := hP
  have hD : va_D A [(h4, .inl (cI, 1200, .inl g)), (h6, .inr (7, (List.set rs 3 (.int 0)))), (h5, .inr (8, (List.set (List.set (List.set (List.set (List.set (List.set (List.set ss 1 (.ref h4)) 2 (.int 0)) 3 (.int 0)) 8 (.int 0)) 9 (.int (-1))) 5 (.int 0)) 4 (.int 1))))] := hD
  refine W.widen (k := 10) (n := 194) (Nat.le_of_ble_eq_true rfl) (Nat.le_of_ble_eq_true rfl) ?_
  refine zz_ci (y := 0) hw ?_
  refine W.widen (k := 10) (n := 194) (Nat.le_of_ble_eq_true rfl) (Nat.le_of_ble_eq_true rfl) ?_
  exact W.iret (v := 0) hx hb hr (fun t ht hW => ⟨⟨0, (), rfl, rfl, trivial⟩, hS.F ht⟩) hS.2.2 dX11_paper_58
def u_c_X11_want : List Cond := .code yX11_want cX11_want 2 (some .int) :: ([.fieldLink RX11 107 "CakePapers" "taped" "I", .fieldLink RX11 16 "CakePapers" "scanner" "LCakePapers$Scanner;", .fieldLink RX11 9 "CakePapers" "tape" "[I", .code yX8_start cX8_start 3 none, .fieldLink RX8 15 "CakePapers$Scanner" "bytes" "[I", .methodLink RX8 35 Lib.Math.min.name, .static Lib.Math.min.name, .initialized "java/lang/Math", .code Lib.Math.min.name Lib.Math.min.code 2 (some .int), .fieldLink RX8 41 "CakePapers$Scanner" "length" "I", .fieldLink RX8 43 "CakePapers$Scanner" "at" "I", .fieldLink RX8 46 "CakePapers$Scanner" "fault" "I", .fieldLink RX8 19 "CakePapers$Scanner" "faultPlace" "I", .code yX8_next cX8_next 1 none, .fieldLink RX8 52 "CakePapers$Scanner" "place" "I", .fieldLink RX8 55 "CakePapers$Scanner" "kind" "I", .methodLink RX8 49 yX8_next, .instanceMethod yX8_next, .selects RX8 yX8_next yX8_next, .initialized RX8, .methodLink RX11 117 yX8_start, .instanceMethod yX8_start, .selects RX8 yX8_start yX8_start, .fieldLink RX11 32 "CakePapers" "wantReader" "LCakePapers$WantReader;", .fieldLink RX11 67 "CakePapers" "spareWant" "LCakePapers$Want;", .code yX10_read cX10_read 2 (some .boolean), .fieldLink RX10 15 "CakePapers$WantReader" "into" "LCakePapers$Want;", .fieldLink RX10 19 "CakePapers$Want" "length" "I", .fieldLink RX10 25 "CakePapers$Want" "units" "I", .fieldLink RX10 9 "CakePapers$WantReader" "scanner" "LCakePapers$Scanner;", .code yX8_pass cX8_pass 2 (some .boolean), .code yX8_refuse cX8_refuse 1 (some .boolean), .code yX8_blame cX8_blame 2 (some .boolean), .methodLink RX8 84 yX8_blame, .instanceMethod yX8_blame, .selects RX8 yX8_blame yX8_blame, .methodLink RX8 87 yX8_refuse, .instanceMethod yX8_refuse, .selects RX8 yX8_refuse yX8_refuse, .methodLink RX10 30 yX8_pass, .instanceMethod yX8_pass, .selects RX8 yX8_pass yX8_pass, .methodLink RX11 133 yX10_read, .instanceMethod yX10_read, .selects RX10 yX10_read yX10_read, .initialized RX10] ++ wsX110 ++ wsX90 ++ wsX80 ++ wsX100)
set_option maxRecDepth 20000 in
theorem g_c_X11_want_c_X8_start_0 : GoodIn u_c_X11_want (wsV RX11 117 RX8 yX8_start u_c_X8_start) := goodIn_of _ (by decide +kernel)
set_option maxRecDepth 20000 in
theorem g_c_X11_want_c_X10_read_1 : GoodIn u_c_X11_want (wsV RX11 133 RX10 yX10_read u_c_X10_read) := goodIn_of _ (by decide +kernel)
set_option maxHeartbeats 1000000 in
set_option maxRecDepth 100000 in
theorem c_X11_want (l : Launch) (dC : Nat → ClassId) (dI : Nat → Nat → Nat) (sz : Nat) (h0 h4 h5 h6 h2 : Nat) (cI : ClassId) (g : Nat → Int32) (fs : List Value) (hn_fs : fs.length = 16) (e_fs_0 : fs[0]? = some (.ref h4)) (e_fs_1 : fs[1]? = some (.int 0)) (e_fs_2 : fs[2]? = some (.ref h5)) (e_fs_4 : fs[4]? = some (.ref h6)) (e_fs_9 : fs[9]? = some (.ref h2)) (ws : List Value) (hn_ws : ws.length = 5) (ss : List Value) (hn_ss : ss.length = 10) (rs : List Value) (hn_rs : rs.length = 2) (e_rs_0 : rs[0]? = some (.ref h5)) : Met l yX11_want u_c_X11_want ({ frames := 4, cells := 0, slots := 0, locals := 83 }) (va_Pc [.ref h0] (fun U => U.heap.size = sz ∧ va_P (dC, dI) vwCl [(h0, .inr (11, fs)), (h2, .inr (9, ws)), (h4, .inl (cI, 1200, .inl g)), (h5, .inr (8, ss)), (h6, .inr (10, rs))] U.heap ∧ va_K (dC, dI) vwCl [(cI, .int)] U ∧ va_D (fun _ => True) [(h0, .inr (11, fs)), (h2, .inr (9, ws)), (h4, .inl (cI, 1200, .inl g)), (h5, .inr (8, ss)), (h6, .inr (10, rs))])) (va_Qi (fun (r : Int32) (_ : Unit) => r = (-1)) (fun _ _ => True) (va_A [(h0, .inr (11, fs)), (h2, .inr (9, ws)), (h4, .inl (cI, 1200, .inl g)), (h5, .inr (8, ss)), (h6, .inr (10, rs))] sz)) 0 0 (va_A [(h0, .inr (11, fs)), (h2, .inr (9, ws)), (h4, .inl (cI, 1200, .inl g)), (h5, .inr (8, ss)), (h6, .inr (10, rs))] sz) := by
  refine Met.ofW (cc := cX11_want) (maxL := 2) (ret := (some .int)) (by decide) rfl ?_
  intro p e s m args below meth c s₁ B hml hv
  obtain ⟨rfl, hsz, hP, hK, hD0⟩ := hv
  have hx := B.exec
  have hb := B.bytes
  have hr := B.returns
  have hts := atoms_spec (ws := u_c_X11_want) B.pre
  have hown : s.vm.findClass RX11 = some m.cls := findClass_of_methodNamed B.named
  have hlocks := B.notSynchronized
  have hiX11 : ∀ w ∈ wsX110, w ∈ u_c_X11_want := fun w h => List.mem_cons_of_mem _ (List.mem_append_left _ (List.mem_append_left _ (List.mem_append_left _ (List.mem_append_right _ h))))
  have hiX9 : ∀ w ∈ wsX90, w ∈ u_c_X11_want := fun w h => List.mem_cons_of_mem _ (List.mem_append_left _ (List.mem_append_left _ (List.mem_append_right _ h)))
  have hiX8 : ∀ w ∈ wsX80, w ∈ u_c_X11_want := fun w h => List.mem_cons_of_mem _ (List.mem_append_left _ (List.mem_append_right _ h))
  have hiX10 : ∀ w ∈ wsX100, w ∈ u_c_X11_want := fun w h => List.mem_cons_of_mem _ (List.mem_append_right _ h)
  subst hsz
  have hD := hD0.self (sz := s.heap.size)
  generalize hAe : va_A [(h0, .inr (11, fs)), (h2, .inr (9, ws)), (h4, .inl (cI, 1200, .inl g)), (h5, .inr (8, ss)), (h6, .inr (10, rs))] s.heap.size = A at hD ⊢
  have hA : ∀ q : Nat, s.heap.size ≤ q → A q := fun q h => by rw [← hAe]; exact Or.inr h
  have hS : va_S A s.heap s.heap [] := va_S.rf
  obtain ⟨H, hH⟩ : ∃ H : Heap, H = s.heap := ⟨_, rfl⟩
  have hP : va_P (dC, dI) vwCl [(h0, .inr (11, fs)), (h2, .inr (9, ws)), (h4, .inl (cI, 1200, .inl g)), (h5, .inr (8, ss)), (h6, .inr (10, rs))] H := by rw [hH]; exact hP
  have hS : va_S A s.heap H [] := by rw [hH]; exact hS
  have hl := lv_entry ([.ref h0]) (n := 2) (Nat.le_of_ble_eq_true rfl)
  rw [lg_entry_eq]
  generalize (lg_sl ([.ref h0]) ++ List.replicate (2 - (lg_sl ([.ref h0])).length) Slot.unset).toArray = ls at hl ⊢
  have hl : lv_has ls 2 [(0, .ref h0)] := hl
  suffices h9 : W p l e (headSpec u_c_X11_want _).room s m _ below meth c H [] 0 0 _ (F0 m 0 ls []) by rw [hH] at h9; exact h9
  refine lv_aload_n hx hb dX11_want_0 rfl (lv_at hl 0 rfl) ?_
  refine va_get (D := (dC, dI)) (ci := 11) (v := .int 0) (C := RX11) (T := TX11) (N := 16) hx hb hts hiX11 hown hK hP 0 rfl rfl 1 (by decide) (hts (.fieldLink RX11 107 "CakePapers" "taped" "I") (by decide +kernel)) (fun _ h9 => h9) e_fs_1 dX11_want_1 ?_
  refine lv_sipush (v := 400) hx hb dX11_want_4 (by decide) ?_
  refine lv_icmp_le (tgt := 13) hx hb dX11_want_7 (by decide) (fun c_1 => ?_) (fun c_1 => absurd c_1 (by decide))
  refine lv_aload_n hx hb dX11_want_13 rfl (lv_at hl 0 rfl) ?_
  refine va_get (D := (dC, dI)) (ci := 11) (v := .ref h5) (C := RX11) (T := TX11) (N := 16) hx hb hts hiX11 hown hK hP 0 rfl rfl 2 (by decide) (hts (.fieldLink RX11 16 "CakePapers" "scanner" "LCakePapers$Scanner;") (by decide +kernel)) (fun _ h9 => h9) e_fs_2 dX11_want_14 ?_
  refine lv_aload_n hx hb dX11_want_17 rfl (lv_at hl 0 rfl) ?_
  refine va_get (D := (dC, dI)) (ci := 11) (v := .ref h4) (C := RX11) (T := TX11) (N := 16) hx hb hts hiX11 hown hK hP 0 rfl rfl 0 (by decide) (hts (.fieldLink RX11 9 "CakePapers" "tape" "[I") (by decide +kernel)) (fun _ h9 => h9) e_fs_0 dX11_want_18 ?_
  refine lv_aload_n hx hb dX11_want_21 rfl (lv_at hl 0 rfl) ?_
  refine va_get (D := (dC, dI)) (ci := 11) (v := .int 0) (C := RX11) (T := TX11) (N := 16) hx hb hts hiX11 hown hK hP 0 rfl rfl 1 (by decide) (hts (.fieldLink RX11 107 "CakePapers" "taped" "I") (by decide +kernel)) (fun _ h9 => h9) e_fs_1 dX11_want_22 ?_
  have hPc := hP.sub (ws' := [(h5, .inr (8, ss)), (h4, .inl (cI, 1200, .inl g))]) [3, 2] rfl
  have hDc := hD.sub (ws' := [(h5, .inr (8, ss)), (h4, .inl (cI, 1200, .inl g))]) [3, 2] (by decide) rfl
  have hKc := hK.sub (tys' := [(cI, .int)]) [0] rfl
  have hFc := va_free (wc := [(h5, .inr (8, ss)), (h4, .inl (cI, 1200, .inl g))]) hD hS hA [3, 2] rfl
  refine va_callv (va_runV (As := [.ref h4, .int 0]) (rest := []) ⟨hx, hb, hml, hown, hts⟩ (c_X8_start l dC dI H.size h5 h4 cI g ss hn_ss) (cwV 2 hts g_c_X11_want_c_X8_start_0 rfl rfl rfl (by decide +kernel) ⟨Nat.le_of_ble_eq_true rfl, Nat.le_of_ble_eq_true rfl⟩) ⟨fun a U g mk q => by obtain ⟨q0, q1, qP, qK, qD⟩ := q; exact ⟨q0, q1, qP, va_K.moved (u := U) (U := U.calling g mk a) (Vm.Alike.refl U.vm) qK, qD⟩, va_recv hKc hPc (ci := 8) (q0 := 0) rfl rfl, fun U hU hW => ⟨rfl, by rw [hU], by rw [hU]; exact hPc, va_K.moved hW.alike hKc, hDc.weaken (fun _ _ _ _ => trivial)⟩⟩ rfl rfl hl.1 rfl (lv_room (Nat.le_of_ble_eq_true rfl)) dX11_want_25 ⟨Nat.le_of_ble_eq_true rfl, Nat.le_of_ble_eq_true rfl⟩) hS (fun q _ h => hFc q h) hFc (fun u t H1 locs ht hvm hw hB hz1 hk1 hS => ?_)
  obtain ⟨hP1, hD1⟩ := hB
  rw [ht] at hP1
  obtain ⟨hP, hD⟩ := va_join (wr := [(h0, .inr (11, fs)), (h2, .inr (9, ws)), (h6, .inr (10, rs))]) (w1 := [(h5, .inr (8, (List.set (List.set (List.set (List.set (List.set (List.set (List.set ss 1 (.ref h4)) 2 (.int 0)) 3 (.int 0)) 8 (.int 0)) 9 (.int (-1))) 5 (.int 0)) 4 (.int 1)))), (h4, .inl (cI, 1200, .inl g))]) hP hD [3, 2] [0, 1, 4] rfl rfl (by decide) (by decide) hk1 hFc hP1 hD1
  generalize H1 = H at hP hS ⊢
  have hP : va_P (dC, dI) vwCl [(h0, .inr (11, fs)), (h2, .inr (9, ws)), (h6, .inr (10, rs)), (h5, .inr (8, (List.set (List.set (List.set (List.set (List.set (List.set (List.set ss 1 (.ref h4)) 2 (.int 0)) 3 (.int 0)) 8 (.int 0)) 9 (.int (-1))) 5 (.int 0)) 4 (.int 1)))), (h4, .inl (cI, 1200, .inl g))] H := hP
  have hD : va_D A [(h0, .inr (11, fs)), (h2, .inr (9, ws)), (h6, .inr (10, rs)), (h5, .inr (8, (List.set (List.set (List.set (List.set (List.set (List.set (List.set ss 1 (.ref h4)) 2 (.int 0)) 3 (.int 0)) 8 (.int 0)) 9 (.int (-1))) 5 (.int 0)) 4 (.int 1)))), (h4, .inl (cI, 1200, .inl g))] := hD
  refine W.widen (k := 0) (n := 0) (Nat.le_of_ble_eq_true rfl) (Nat.le_of_ble_eq_true rfl) ?_
  refine lv_aload_n hx hb dX11_want_28 rfl (lv_at hl 0 rfl) ?_
  refine va_get (D := (dC, dI)) (ci := 11) (v := .ref h6) (C := RX11) (T := TX11) (N := 16) hx hb hts hiX11 hown hK hP 0 rfl rfl 4 (by decide) (hts (.fieldLink RX11 32 "CakePapers" "wantReader" "LCakePapers$WantReader;") (by decide +kernel)) (fun _ h9 => h9) e_fs_4 dX11_want_29 ?_
  refine lv_aload_n hx hb dX11_want_32 rfl (lv_at hl 0 rfl) ?_
  refine va_get (D := (dC, dI)) (ci := 11) (v := .ref h2) (C := RX11) (T := TX11) (N := 16) hx hb hts hiX11 hown hK hP 0 rfl rfl 9 (by decide) (hts (.fieldLink RX11 67 "CakePapers" "spareWant" "LCakePapers$Want;") (by decide +kernel)) (fun _ h9 => h9) e_fs_9 dX11_want_33 ?_
  have hPc := hP.sub (ws' := [(h6, .inr (10, rs)), (h2, .inr (9, ws)), (h5, .inr (8, (List.set (List.set (List.set (List.set (List.set (List.set (List.set ss 1 (.ref h4)) 2 (.int 0)) 3 (.int 0)) 8 (.int 0)) 9 (.int (-1))) 5 (.int 0)) 4 (.int 1))))]) [2, 1, 3] rfl
  have hDc := hD.sub (ws' := [(h6, .inr (10, rs)), (h2, .inr (9, ws)), (h5, .inr (8, (List.set (List.set (List.set (List.set (List.set (List.set (List.set ss 1 (.ref h4)) 2 (.int 0)) 3 (.int 0)) 8 (.int 0)) 9 (.int (-1))) 5 (.int 0)) 4 (.int 1))))]) [2, 1, 3] (by decide) rfl
  have hKc := hK.sub (tys' := []) [] rfl
  have hFc := va_free (wc := [(h6, .inr (10, rs)), (h2, .inr (9, ws)), (h5, .inr (8, (List.set (List.set (List.set (List.set (List.set (List.set (List.set ss 1 (.ref h4)) 2 (.int 0)) 3 (.int 0)) 8 (.int 0)) 9 (.int (-1))) 5 (.int 0)) 4 (.int 1))))]) hD hS hA [2, 1, 3] rfl
  refine va_calli (va_runV (As := [.ref h2]) (rest := []) ⟨hx, hb, hml, hown, hts⟩ (c_X10_read l dC dI H.size h6 h2 h5 rs hn_rs e_rs_0 ws hn_ws (List.set (List.set (List.set (List.set (List.set (List.set (List.set ss 1 (.ref h4)) 2 (.int 0)) 3 (.int 0)) 8 (.int 0)) 9 (.int (-1))) 5 (.int 0)) 4 (.int 1)) (by simp [hn_ss]) (by simp [hn_ss]) (by simp [hn_ss])) (cwV 1 hts g_c_X11_want_c_X10_read_1 rfl rfl rfl (by decide +kernel) ⟨Nat.le_of_ble_eq_true rfl, Nat.le_of_ble_eq_true rfl⟩) ⟨fun a U g mk q => by obtain ⟨q0, q1, qP, qK, qD⟩ := q; exact ⟨q0, q1, qP, va_K.moved (u := U) (U := U.calling g mk a) (Vm.Alike.refl U.vm) qK, qD⟩, va_recv hKc hPc (ci := 10) (q0 := 0) rfl rfl, fun U hU hW => ⟨rfl, by rw [hU], by rw [hU]; exact hPc, va_K.moved hW.alike hKc, hDc.weaken (fun _ _ _ _ => trivial)⟩⟩ rfl rfl hl.1 rfl (lv_room (Nat.le_of_ble_eq_true rfl)) dX11_want_36 ⟨Nat.le_of_ble_eq_true rfl, Nat.le_of_ble_eq_true rfl⟩) hS (fun q _ h => hFc q h) hFc (fun r_3 u t H1 locs ht hvm hw hB hz1 hk1 hS => ?_)
  obtain ⟨hP, hD⟩ := va_join (wr := [(h0, .inr (11, fs)), (h4, .inl (cI, 1200, .inl g))]) (w1 := []) hP hD [2, 1, 3] [0, 4] rfl rfl (by decide) (by decide) hk1 hFc zz_P0 zz_D0
  generalize H1 = H at hP hS ⊢
  have hP : va_P (dC, dI) vwCl [(h0, .inr (11, fs)), (h4, .inl (cI, 1200, .inl g))] H := hP
  have hD : va_D A [(h0, .inr (11, fs)), (h4, .inl (cI, 1200, .inl g))] := hD
  refine W.widen (k := 0) (n := 0) (Nat.le_of_ble_eq_true rfl) (Nat.le_of_ble_eq_true rfl) ?_
  refine zz_ci (y := 0) hw ?_
  refine lv_if_ne (tgt := 44) hx hb dX11_want_39 (by decide) (fun c_4 => absurd c_4 (by decide)) (fun c_4 => ?_)
  refine lv_iconst (v := (-1)) hx hb dX11_want_42 (by decide) ?_
  refine W.widen (k := 0) (n := 0) (Nat.le_of_ble_eq_true rfl) (Nat.le_of_ble_eq_true rfl) ?_
  exact W.iret (v := (-1)) hx hb hr (fun t ht hW => ⟨⟨(-1), (), rfl, rfl, trivial⟩, hS.F ht⟩) hS.2.2 dX11_want_43
def u_c_X1_copyFrom : List Cond := .code yX1_copyFrom cX1_copyFrom 3 none :: ([.fieldLink RX1 13 "CakePapers$Desk" "papers" "[LCakePapers$Paper;", .fieldLink RX1 24 "CakePapers$Desk" "count" "I", .fieldLink RX1 20 "CakePapers$Desk" "joining" "LCakePapers$Joining;", .code yX4_copyFrom cX4_copyFrom 3 none, .code yX4_isThere cX4_isThere 1 (some .boolean), .fieldLink RX4 38 "CakePapers$Joining" "base" "LCakePapers$Paper;", .methodLink RX4 55 yX4_isThere, .instanceMethod yX4_isThere, .selects RX4 yX4_isThere yX4_isThere, .initialized RX4, .code yX4_clear cX4_clear 1 none, .fieldLink RX4 42 "CakePapers$Joining" "one" "LCakePapers$Paper;", .fieldLink RX4 45 "CakePapers$Joining" "other" "LCakePapers$Paper;", .fieldLink RX4 52 "CakePapers$Joining" "steps" "I", .fieldLink RX4 48 "CakePapers$Joining" "quarrels" "I", .methodLink RX4 59 yX4_clear, .instanceMethod yX4_clear, .selects RX4 yX4_clear yX4_clear, .methodLink RX1 41 yX4_copyFrom, .instanceMethod yX4_copyFrom, .selects RX4 yX4_copyFrom yX4_copyFrom] ++ wsX10 ++ wsX40)
set_option maxRecDepth 20000 in
theorem g_c_X1_copyFrom_c_X4_copyFrom_0 : GoodIn u_c_X1_copyFrom (wsV RX1 41 RX4 yX4_copyFrom u_c_X4_copyFrom) := goodIn_of _ (by decide +kernel)
set_option maxHeartbeats 1000000 in
set_option maxRecDepth 100000 in
theorem c_X1_copyFrom (l : Launch) (dC : Nat → ClassId) (dI : Nat → Nat → Nat) (sz : Nat) (h0 h1 h2 h3 h4 h5 : Nat) (cP cQ : ClassId) (f : Nat → Option Nat) (fs : List Value) (hn_fs : fs.length = 3) (e_fs_0 : fs[0]? = some (.ref h2)) (e_fs_1 : fs[1]? = some (.ref h3)) (gs : List Value) (hn_gs : gs.length = 3) (e_gs_0 : gs[0]? = some (.ref h4)) (e_gs_1 : gs[1]? = some (.ref h5)) (e_gs_2 : gs[2]? = some (.int 0)) (js : List Value) (hn_js : js.length = 13) (ks : List Value) (hn_ks : ks.length = 13) (e_ks_0 : ks[0]? = some .null) : Met l yX1_copyFrom u_c_X1_copyFrom ({ frames := 2, cells := 0, slots := 0, locals := 42 }) (va_Pc [.ref h0, .ref h1] (fun U => U.heap.size = sz ∧ va_P (dC, dI) vwCl [(h0, .inr (1, fs)), (h1, .inr (1, gs)), (h2, .inl (cP, 8, .inr (.inr (.inr (.inr f))))), (h3, .inr (4, js)), (h4, .inl (cQ, 8, .inr (.inr (.inr (.inr (fun _ => none)))))), (h5, .inr (4, ks))] U.heap ∧ va_K (dC, dI) vwCl [(cP, (.object RX6)), (cQ, (.object RX6))] U ∧ va_D (fun _ => True) [(h0, .inr (1, fs)), (h1, .inr (1, gs)), (h2, .inl (cP, 8, .inr (.inr (.inr (.inr f))))), (h3, .inr (4, js)), (h4, .inl (cQ, 8, .inr (.inr (.inr (.inr (fun _ => none)))))), (h5, .inr (4, ks))])) (va_Qv (fun (_ : Unit) => True) (fun _ t => va_P (dC, dI) vwCl [(h1, .inr (1, gs))] t.heap ∧ va_D (va_A [(h0, .inr (1, fs)), (h1, .inr (1, gs)), (h2, .inl (cP, 8, .inr (.inr (.inr (.inr f))))), (h3, .inr (4, js)), (h4, .inl (cQ, 8, .inr (.inr (.inr (.inr (fun _ => none)))))), (h5, .inr (4, ks))] sz) [(h1, .inr (1, gs))]) (va_A [(h0, .inr (1, fs)), (h1, .inr (1, gs)), (h2, .inl (cP, 8, .inr (.inr (.inr (.inr f))))), (h3, .inr (4, js)), (h4, .inl (cQ, 8, .inr (.inr (.inr (.inr (fun _ => none)))))), (h5, .inr (4, ks))] sz)) 0 0 (va_A [(h0, .inr (1, fs)), (h1, .inr (1, gs)), (h2, .inl (cP, 8, .inr (.inr (.inr (.inr f))))), (h3, .inr (4, js)), (h4, .inl (cQ, 8, .inr (.inr (.inr (.inr (fun _ => none)))))), (h5, .inr (4, ks))] sz) := by
  refine Met.ofW (cc := cX1_copyFrom) (maxL := 3) (ret := none) (by decide) rfl ?_
  intro p e s m args below meth c s₁ B hml hv
  obtain ⟨rfl, hsz, hP, hK, hD0⟩ := hv
  have hx := B.exec
  have hb := B.bytes
  have hr := B.returns
  have hts := atoms_spec (ws := u_c_X1_copyFrom) B.pre
  have hown : s.vm.findClass RX1 = some m.cls := findClass_of_methodNamed B.named
  have hlocks := B.notSynchronized
  have hiX1 : ∀ w ∈ wsX10, w ∈ u_c_X1_copyFrom := fun w h => List.mem_cons_of_mem _ (List.mem_append_left _ (List.mem_append_right _ h))
  have hiX4 : ∀ w ∈ wsX40, w ∈ u_c_X1_copyFrom := fun w h => List.mem_cons_of_mem _ (List.mem_append_right _ h)
  subst hsz
  have hD := hD0.self (sz := s.heap.size)
  generalize hAe : va_A [(h0, .inr (1, fs)), (h1, .inr (1, gs)), (h2, .inl (cP, 8, .inr (.inr (.inr (.inr f))))), (h3, .inr (4, js)), (h4, .inl (cQ, 8, .inr (.inr (.inr (.inr (fun _ => none)))))), (h5, .inr (4, ks))] s.heap.size = A at hD ⊢
  have hA : ∀ q : Nat, s.heap.size ≤ q → A q := fun q h => by rw [← hAe]; exact Or.inr h
  have hS : va_S A s.heap s.heap [] := va_S.rf
  obtain ⟨H, hH⟩ : ∃ H : Heap, H = s.heap := ⟨_, rfl⟩
  have hP : va_P (dC, dI) vwCl [(h0, .inr (1, fs)), (h1, .inr (1, gs)), (h2, .inl (cP, 8, .inr (.inr (.inr (.inr f))))), (h3, .inr (4, js)), (h4, .inl (cQ, 8, .inr (.inr (.inr (.inr (fun _ => none)))))), (h5, .inr (4, ks))] H := by rw [hH]; exact hP
  have hS : va_S A s.heap H [] := by rw [hH]; exact hS
  have hl := lv_entry ([.ref h0, .ref h1]) (n := 3) (Nat.le_of_ble_eq_true rfl)
  rw [lg_entry_eq]
  generalize (lg_sl ([.ref h0, .ref h1]) ++ List.replicate (3 - (lg_sl ([.ref h0, .ref h1])).length) Slot.unset).toArray = ls at hl ⊢
  have hl : lv_has ls 3 [(0, .ref h0), (1, .ref h1)] := hl
  suffices h9 : W p l e (headSpec u_c_X1_copyFrom _).room s m _ below meth c H [] 0 0 _ (F0 m 0 ls []) by rw [hH] at h9; exact h9
  refine lv_iconst (v := 0) hx hb dX1_copyFrom_0 (by decide) ?_
  refine lv_istore_n (lv' := [(2, .int 0), (0, .ref h0), (1, .ref h1)]) hx hb dX1_copyFrom_1 rfl hl (by decide) rfl (fun ls hl => ?_)
  refine lv_iload_n hx hb dX1_copyFrom_2 rfl (lv_at hl 0 rfl) ?_
  refine lv_bipush (v := 8) hx hb dX1_copyFrom_3 (by decide) ?_
  refine lv_icmp_ge (tgt := 26) hx hb dX1_copyFrom_5 (by decide) (fun c_1 => absurd c_1 (by decide)) (fun c_1 => ?_)
  refine lv_aload_n hx hb dX1_copyFrom_8 rfl (lv_at hl 1 rfl) ?_
  refine va_get (D := (dC, dI)) (ci := 1) (v := .ref h2) (C := RX1) (T := TX1) (N := 3) hx hb hts hiX1 hown hK hP 0 rfl rfl 0 (by decide) (hts (.fieldLink RX1 13 "CakePapers$Desk" "papers" "[LCakePapers$Paper;") (by decide +kernel)) (fun _ h9 => h9) e_fs_0 dX1_copyFrom_9 ?_
  refine lv_iload_n hx hb dX1_copyFrom_12 rfl (lv_at hl 0 rfl) ?_
  refine lv_aload_n hx hb dX1_copyFrom_13 rfl (lv_at hl 2 rfl) ?_
  refine va_get (D := (dC, dI)) (ci := 1) (v := .ref h4) (C := RX1) (T := TX1) (N := 3) hx hb hts hiX1 hown hK hP 1 rfl rfl 0 (by decide) (hts (.fieldLink RX1 13 "CakePapers$Desk" "papers" "[LCakePapers$Paper;") (by decide +kernel)) (fun _ h9 => h9) e_gs_0 dX1_copyFrom_14 ?_
  refine lv_iload_n hx hb dX1_copyFrom_17 rfl (lv_at hl 0 rfl) ?_
  refine va_aldq hx hb hK hP 4 1 rfl rfl (zz_in (by decide)) dX1_copyFrom_18 ?_
  refine W.eq (g2 := F0 m 19 ls [.null, .int 0, .ref h2]) rfl ?_
  refine va_astqN hx hb hK hP hD hS 2 0 rfl rfl (zz_in (by decide)) dX1_copyFrom_19 (fun H locs hP hD hS => ?_)
  obtain ⟨f_2, hP, hD⟩ : ∃ f_2 : Nat → Option Nat, va_P (dC, dI) vwCl [(h0, .inr (1, fs)), (h1, .inr (1, gs)), (h2, .inl (cP, 8, .inr (.inr (.inr (.inr f_2))))), (h3, .inr (4, js)), (h4, .inl (cQ, 8, .inr (.inr (.inr (.inr (fun _ => none)))))), (h5, .inr (4, ks))] H ∧ va_D A [(h0, .inr (1, fs)), (h1, .inr (1, gs)), (h2, .inl (cP, 8, .inr (.inr (.inr (.inr f_2))))), (h3, .inr (4, js)), (h4, .inl (cQ, 8, .inr (.inr (.inr (.inr (fun _ => none)))))), (h5, .inr (4, ks))] := ⟨_, hP, hD⟩
  refine lv_iinc (v := 1) (lv' := [(2, .int 1), (0, .ref h0), (1, .ref h1)]) hx hb dX1_copyFrom_20 hl (k := 0) rfl (by decide) (by decide) rfl (fun ls hl => ?_)
  refine lv_goto (tgt := 2) hx hb dX1_copyFrom_23 (by decide) ?_
  refine lv_iload_n hx hb dX1_copyFrom_2 rfl (lv_at hl 0 rfl) ?_
  refine lv_bipush (v := 8) hx hb dX1_copyFrom_3 (by decide) ?_
  refine lv_icmp_ge (tgt := 26) hx hb dX1_copyFrom_5 (by decide) (fun c_3 => absurd c_3 (by decide)) (fun c_3 => ?_)
  refine lv_aload_n hx hb dX1_copyFrom_8 rfl (lv_at hl 1 rfl) ?_
  refine va_get (D := (dC, dI)) (ci := 1) (v := .ref h2) (C := RX1) (T := TX1) (N := 3) hx hb hts hiX1 hown hK hP 0 rfl rfl 0 (by decide) (hts (.fieldLink RX1 13 "CakePapers$Desk" "papers" "[LCakePapers$Paper;") (by decide +kernel)) (fun _ h9 => h9) e_fs_0 dX1_copyFrom_9 ?_
  refine lv_iload_n hx hb dX1_copyFrom_12 rfl (lv_at hl 0 rfl) ?_
  refine lv_aload_n hx hb dX1_copyFrom_13 rfl (lv_at hl 2 rfl) ?_
  refine va_get (D := (dC, dI)) (ci := 1) (v := .ref h4) (C := RX1) (T := TX1) (N := 3) hx hb hts hiX1 hown hK hP 1 rfl rfl 0 (by decide) (hts (.fieldLink RX1 13 "CakePapers$Desk" "papers" "[LCakePapers$Paper;") (by decide +kernel)) (fun _ h9 => h9) e_gs_0 dX1_copyFrom_14 ?_
  refine lv_iload_n hx hb dX1_copyFrom_17 rfl (lv_at hl 0 rfl) ?_
  refine va_aldq hx hb hK hP 4 1 rfl rfl (zz_in (by decide)) dX1_copyFrom_18 ?_
  refine W.eq (g2 := F0 m 19 ls [.null, .int 1, .ref h2]) rfl ?_
  refine va_astqN hx hb hK hP hD hS 2 0 rfl rfl (zz_in (by decide)) dX1_copyFrom_19 (fun H locs hP hD hS => ?_)
  obtain ⟨f_4, hP, hD⟩ : ∃ f_4 : Nat → Option Nat, va_P (dC, dI) vwCl [(h0, .inr (1, fs)), (h1, .inr (1, gs)), (h2, .inl (cP, 8, .inr (.inr (.inr (.inr f_4))))), (h3, .inr (4, js)), (h4, .inl (cQ, 8, .inr (.inr (.inr (.inr (fun _ => none)))))), (h5, .inr (4, ks))] H ∧ va_D A [(h0, .inr (1, fs)), (h1, .inr (1, gs)), (h2, .inl (cP, 8, .inr (.inr (.inr (.inr f_4))))), (h3, .inr (4, js)), (h4, .inl (cQ, 8, .inr (.inr (.inr (.inr (fun _ => none)))))), (h5, .inr (4, ks))] := ⟨_, hP, hD⟩
  refine lv_iinc (v := 2) (lv' := [(2, .int 2), (0, .ref h0), (1, .ref h1)]) hx hb dX1_copyFrom_20 hl (k := 0) rfl (by decide) (by decide) rfl (fun ls hl => ?_)
  refine lv_goto (tgt := 2) hx hb dX1_copyFrom_23 (by decide) ?_
  refine lv_iload_n hx hb dX1_copyFrom_2 rfl (lv_at hl 0 rfl) ?_
  refine lv_bipush (v := 8) hx hb dX1_copyFrom_3 (by decide) ?_
  refine lv_icmp_ge (tgt := 26) hx hb dX1_copyFrom_5 (by decide) (fun c_5 => absurd c_5 (by decide)) (fun c_5 => ?_)
  refine lv_aload_n hx hb dX1_copyFrom_8 rfl (lv_at hl 1 rfl) ?_
  refine va_get (D := (dC, dI)) (ci := 1) (v := .ref h2) (C := RX1) (T := TX1) (N := 3) hx hb hts hiX1 hown hK hP 0 rfl rfl 0 (by decide) (hts (.fieldLink RX1 13 "CakePapers$Desk" "papers" "[LCakePapers$Paper;") (by decide +kernel)) (fun _ h9 => h9) e_fs_0 dX1_copyFrom_9 ?_
  refine lv_iload_n hx hb dX1_copyFrom_12 rfl (lv_at hl 0 rfl) ?_
  refine lv_aload_n hx hb dX1_copyFrom_13 rfl (lv_at hl 2 rfl) ?_
  refine va_get (D := (dC, dI)) (ci := 1) (v := .ref h4) (C := RX1) (T := TX1) (N := 3) hx hb hts hiX1 hown hK hP 1 rfl rfl 0 (by decide) (hts (.fieldLink RX1 13 "CakePapers$Desk" "papers" "[LCakePapers$Paper;") (by decide +kernel)) (fun _ h9 => h9) e_gs_0 dX1_copyFrom_14 ?_
  refine lv_iload_n hx hb dX1_copyFrom_17 rfl (lv_at hl 0 rfl) ?_
  refine va_aldq hx hb hK hP 4 1 rfl rfl (zz_in (by decide)) dX1_copyFrom_18 ?_
  refine W.eq (g2 := F0 m 19 ls [.null, .int 2, .ref h2]) rfl ?_
  refine va_astqN hx hb hK hP hD hS 2 0 rfl rfl (zz_in (by decide)) dX1_copyFrom_19 (fun H locs hP hD hS => ?_)
  obtain ⟨f_6, hP, hD⟩ : ∃ f_6 : Nat → Option Nat, va_P (dC, dI) vwCl [(h0, .inr (1, fs)), (h1, .inr (1, gs)), (h2, .inl (cP, 8, .inr (.inr (.inr (.inr f_6))))), (h3, .inr (4, js)), (h4, .inl (cQ, 8, .inr (.inr (.inr (.inr (fun _ => none)))))), (h5, .inr (4, ks))] H ∧ va_D A [(h0, .inr (1, fs)), (h1, .inr (1, gs)), (h2, .inl (cP, 8, .inr (.inr (.inr (.inr f_6))))), (h3, .inr (4, js)), (h4, .inl (cQ, 8, .inr (.inr (.inr (.inr (fun _ => none)))))), (h5, .inr (4, ks))] := ⟨_, hP, hD⟩
  refine lv_iinc (v := 3) (lv' := [(2, .int 3), (0, .ref h0), (1, .ref h1)]) hx hb dX1_copyFrom_20 hl (k := 0) rfl (by decide) (by decide) rfl (fun ls hl => ?_)
  refine lv_goto (tgt := 2) hx hb dX1_copyFrom_23 (by decide) ?_
  refine lv_iload_n hx hb dX1_copyFrom_2 rfl (lv_at hl 0 rfl) ?_
  refine lv_bipush (v := 8) hx hb dX1_copyFrom_3 (by decide) ?_
  refine lv_icmp_ge (tgt := 26) hx hb dX1_copyFrom_5 (by decide) (fun c_7 => absurd c_7 (by decide)) (fun c_7 => ?_)
  refine lv_aload_n hx hb dX1_copyFrom_8 rfl (lv_at hl 1 rfl) ?_
  refine va_get (D := (dC, dI)) (ci := 1) (v := .ref h2) (C := RX1) (T := TX1) (N := 3) hx hb hts hiX1 hown hK hP 0 rfl rfl 0 (by decide) (hts (.fieldLink RX1 13 "CakePapers$Desk" "papers" "[LCakePapers$Paper;") (by decide +kernel)) (fun _ h9 => h9) e_fs_0 dX1_copyFrom_9 ?_
  refine lv_iload_n hx hb dX1_copyFrom_12 rfl (lv_at hl 0 rfl) ?_
  refine lv_aload_n hx hb dX1_copyFrom_13 rfl (lv_at hl 2 rfl) ?_
  refine va_get (D := (dC, dI)) (ci := 1) (v := .ref h4) (C := RX1) (T := TX1) (N := 3) hx hb hts hiX1 hown hK hP 1 rfl rfl 0 (by decide) (hts (.fieldLink RX1 13 "CakePapers$Desk" "papers" "[LCakePapers$Paper;") (by decide +kernel)) (fun _ h9 => h9) e_gs_0 dX1_copyFrom_14 ?_
  refine lv_iload_n hx hb dX1_copyFrom_17 rfl (lv_at hl 0 rfl) ?_
  refine va_aldq hx hb hK hP 4 1 rfl rfl (zz_in (by decide)) dX1_copyFrom_18 ?_
  refine W.eq (g2 := F0 m 19 ls [.null, .int 3, .ref h2]) rfl ?_
  refine va_astqN hx hb hK hP hD hS 2 0 rfl rfl (zz_in (by decide)) dX1_copyFrom_19 (fun H locs hP hD hS => ?_)
  obtain ⟨f_8, hP, hD⟩ : ∃ f_8 : Nat → Option Nat, va_P (dC, dI) vwCl [(h0, .inr (1, fs)), (h1, .inr (1, gs)), (h2, .inl (cP, 8, .inr (.inr (.inr (.inr f_8))))), (h3, .inr (4, js)), (h4, .inl (cQ, 8, .inr (.inr (.inr (.inr (fun _ => none)))))), (h5, .inr (4, ks))] H ∧ va_D A [(h0, .inr (1, fs)), (h1, .inr (1, gs)), (h2, .inl (cP, 8, .inr (.inr (.inr (.inr f_8))))), (h3, .inr (4, js)), (h4, .inl (cQ, 8, .inr (.inr (.inr (.inr (fun _ => none)))))), (h5, .inr (4, ks))] := ⟨_, hP, hD⟩
  refine lv_iinc (v := 4) (lv' := [(2, .int 4), (0, .ref h0), (1, .ref h1)]) hx hb dX1_copyFrom_20 hl (k := 0) rfl (by decide) (by decide) rfl (fun ls hl => ?_)
  refine lv_goto (tgt := 2) hx hb dX1_copyFrom_23 (by decide) ?_
  refine lv_iload_n hx hb dX1_copyFrom_2 rfl (lv_at hl 0 rfl) ?_
  refine lv_bipush (v := 8) hx hb dX1_copyFrom_3 (by decide) ?_
  refine lv_icmp_ge (tgt := 26) hx hb dX1_copyFrom_5 (by decide) (fun c_9 => absurd c_9 (by decide)) (fun c_9 => ?_)
  refine lv_aload_n hx hb dX1_copyFrom_8 rfl (lv_at hl 1 rfl) ?_
  refine va_get (D := (dC, dI)) (ci := 1) (v := .ref h2) (C := RX1) (T := TX1) (N := 3) hx hb hts hiX1 hown hK hP 0 rfl rfl 0 (by decide) (hts (.fieldLink RX1 13 "CakePapers$Desk" "papers" "[LCakePapers$Paper;") (by decide +kernel)) (fun _ h9 => h9) e_fs_0 dX1_copyFrom_9 ?_
  refine lv_iload_n hx hb dX1_copyFrom_12 rfl (lv_at hl 0 rfl) ?_
  refine lv_aload_n hx hb dX1_copyFrom_13 rfl (lv_at hl 2 rfl) ?_
  refine va_get (D := (dC, dI)) (ci := 1) (v := .ref h4) (C := RX1) (T := TX1) (N := 3) hx hb hts hiX1 hown hK hP 1 rfl rfl 0 (by decide) (hts (.fieldLink RX1 13 "CakePapers$Desk" "papers" "[LCakePapers$Paper;") (by decide +kernel)) (fun _ h9 => h9) e_gs_0 dX1_copyFrom_14 ?_
  refine lv_iload_n hx hb dX1_copyFrom_17 rfl (lv_at hl 0 rfl) ?_
  refine va_aldq hx hb hK hP 4 1 rfl rfl (zz_in (by decide)) dX1_copyFrom_18 ?_
  refine W.eq (g2 := F0 m 19 ls [.null, .int 4, .ref h2]) rfl ?_
  refine va_astqN hx hb hK hP hD hS 2 0 rfl rfl (zz_in (by decide)) dX1_copyFrom_19 (fun H locs hP hD hS => ?_)
  obtain ⟨f_10, hP, hD⟩ : ∃ f_10 : Nat → Option Nat, va_P (dC, dI) vwCl [(h0, .inr (1, fs)), (h1, .inr (1, gs)), (h2, .inl (cP, 8, .inr (.inr (.inr (.inr f_10))))), (h3, .inr (4, js)), (h4, .inl (cQ, 8, .inr (.inr (.inr (.inr (fun _ => none)))))), (h5, .inr (4, ks))] H ∧ va_D A [(h0, .inr (1, fs)), (h1, .inr (1, gs)), (h2, .inl (cP, 8, .inr (.inr (.inr (.inr f_10))))), (h3, .inr (4, js)), (h4, .inl (cQ, 8, .inr (.inr (.inr (.inr (fun _ => none)))))), (h5, .inr (4, ks))] := ⟨_, hP, hD⟩
  refine lv_iinc (v := 5) (lv' := [(2, .int 5), (0, .ref h0), (1, .ref h1)]) hx hb dX1_copyFrom_20 hl (k := 0) rfl (by decide) (by decide) rfl (fun ls hl => ?_)
  refine lv_goto (tgt := 2) hx hb dX1_copyFrom_23 (by decide) ?_
  refine lv_iload_n hx hb dX1_copyFrom_2 rfl (lv_at hl 0 rfl) ?_
  refine lv_bipush (v := 8) hx hb dX1_copyFrom_3 (by decide) ?_
  refine lv_icmp_ge (tgt := 26) hx hb dX1_copyFrom_5 (by decide) (fun c_11 => absurd c_11 (by decide)) (fun c_11 => ?_)
  refine lv_aload_n hx hb dX1_copyFrom_8 rfl (lv_at hl 1 rfl) ?_
  refine va_get (D := (dC, dI)) (ci := 1) (v := .ref h2) (C := RX1) (T := TX1) (N := 3) hx hb hts hiX1 hown hK hP 0 rfl rfl 0 (by decide) (hts (.fieldLink RX1 13 "CakePapers$Desk" "papers" "[LCakePapers$Paper;") (by decide +kernel)) (fun _ h9 => h9) e_fs_0 dX1_copyFrom_9 ?_
  refine lv_iload_n hx hb dX1_copyFrom_12 rfl (lv_at hl 0 rfl) ?_
  refine lv_aload_n hx hb dX1_copyFrom_13 rfl (lv_at hl 2 rfl) ?_
  refine va_get (D := (dC, dI)) (ci := 1) (v := .ref h4) (C := RX1) (T := TX1) (N := 3) hx hb hts hiX1 hown hK hP 1 rfl rfl 0 (by decide) (hts (.fieldLink RX1 13 "CakePapers$Desk" "papers" "[LCakePapers$Paper;") (by decide +kernel)) (fun _ h9 => h9) e_gs_0 dX1_copyFrom_14 ?_
  refine lv_iload_n hx hb dX1_copyFrom_17 rfl (lv_at hl 0 rfl) ?_
  refine va_aldq hx hb hK hP 4 1 rfl rfl (zz_in (by decide)) dX1_copyFrom_18 ?_
  refine W.eq (g2 := F0 m 19 ls [.null, .int 5, .ref h2]) rfl ?_
  refine va_astqN hx hb hK hP hD hS 2 0 rfl rfl (zz_in (by decide)) dX1_copyFrom_19 (fun H locs hP hD hS => ?_)
  obtain ⟨f_12, hP, hD⟩ : ∃ f_12 : Nat → Option Nat, va_P (dC, dI) vwCl [(h0, .inr (1, fs)), (h1, .inr (1, gs)), (h2, .inl (cP, 8, .inr (.inr (.inr (.inr f_12))))), (h3, .inr (4, js)), (h4, .inl (cQ, 8, .inr (.inr (.inr (.inr (fun _ => none)))))), (h5, .inr (4, ks))] H ∧ va_D A [(h0, .inr (1, fs)), (h1, .inr (1, gs)), (h2, .inl (cP, 8, .inr (.inr (.inr (.inr f_12))))), (h3, .inr (4, js)), (h4, .inl (cQ, 8, .inr (.inr (.inr (.inr (fun _ => none)))))), (h5, .inr (4, ks))] := ⟨_, hP, hD⟩
  refine lv_iinc (v := 6) (lv' := [(2, .int 6), (0, .ref h0), (1, .ref h1)]) hx hb dX1_copyFrom_20 hl (k := 0) rfl (by decide) (by decide) rfl (fun ls hl => ?_)
  refine lv_goto (tgt := 2) hx hb dX1_copyFrom_23 (by decide) ?_
  refine lv_iload_n hx hb dX1_copyFrom_2 rfl (lv_at hl 0 rfl) ?_
  refine lv_bipush (v := 8) hx hb dX1_copyFrom_3 (by decide) ?_
  refine lv_icmp_ge (tgt := 26) hx hb dX1_copyFrom_5 (by decide) (fun c_13 => absurd c_13 (by decide)) (fun c_13 => ?_)
  refine lv_aload_n hx hb dX1_copyFrom_8 rfl (lv_at hl 1 rfl) ?_
  refine va_get (D := (dC, dI)) (ci := 1) (v := .ref h2) (C := RX1) (T := TX1) (N := 3) hx hb hts hiX1 hown hK hP 0 rfl rfl 0 (by decide) (hts (.fieldLink RX1 13 "CakePapers$Desk" "papers" "[LCakePapers$Paper;") (by decide +kernel)) (fun _ h9 => h9) e_fs_0 dX1_copyFrom_9 ?_
  refine lv_iload_n hx hb dX1_copyFrom_12 rfl (lv_at hl 0 rfl) ?_
  refine lv_aload_n hx hb dX1_copyFrom_13 rfl (lv_at hl 2 rfl) ?_
  refine va_get (D := (dC, dI)) (ci := 1) (v := .ref h4) (C := RX1) (T := TX1) (N := 3) hx hb hts hiX1 hown hK hP 1 rfl rfl 0 (by decide) (hts (.fieldLink RX1 13 "CakePapers$Desk" "papers" "[LCakePapers$Paper;") (by decide +kernel)) (fun _ h9 => h9) e_gs_0 dX1_copyFrom_14 ?_
  refine lv_iload_n hx hb dX1_copyFrom_17 rfl (lv_at hl 0 rfl) ?_
  refine va_aldq hx hb hK hP 4 1 rfl rfl (zz_in (by decide)) dX1_copyFrom_18 ?_
  refine W.eq (g2 := F0 m 19 ls [.null, .int 6, .ref h2]) rfl ?_
  refine va_astqN hx hb hK hP hD hS 2 0 rfl rfl (zz_in (by decide)) dX1_copyFrom_19 (fun H locs hP hD hS => ?_)
  obtain ⟨f_14, hP, hD⟩ : ∃ f_14 : Nat → Option Nat, va_P (dC, dI) vwCl [(h0, .inr (1, fs)), (h1, .inr (1, gs)), (h2, .inl (cP, 8, .inr (.inr (.inr (.inr f_14))))), (h3, .inr (4, js)), (h4, .inl (cQ, 8, .inr (.inr (.inr (.inr (fun _ => none)))))), (h5, .inr (4, ks))] H ∧ va_D A [(h0, .inr (1, fs)), (h1, .inr (1, gs)), (h2, .inl (cP, 8, .inr (.inr (.inr (.inr f_14))))), (h3, .inr (4, js)), (h4, .inl (cQ, 8, .inr (.inr (.inr (.inr (fun _ => none)))))), (h5, .inr (4, ks))] := ⟨_, hP, hD⟩
  refine lv_iinc (v := 7) (lv' := [(2, .int 7), (0, .ref h0), (1, .ref h1)]) hx hb dX1_copyFrom_20 hl (k := 0) rfl (by decide) (by decide) rfl (fun ls hl => ?_)
  refine lv_goto (tgt := 2) hx hb dX1_copyFrom_23 (by decide) ?_
  refine lv_iload_n hx hb dX1_copyFrom_2 rfl (lv_at hl 0 rfl) ?_
  refine lv_bipush (v := 8) hx hb dX1_copyFrom_3 (by decide) ?_
  refine lv_icmp_ge (tgt := 26) hx hb dX1_copyFrom_5 (by decide) (fun c_15 => absurd c_15 (by decide)) (fun c_15 => ?_)
  refine lv_aload_n hx hb dX1_copyFrom_8 rfl (lv_at hl 1 rfl) ?_
  refine va_get (D := (dC, dI)) (ci := 1) (v := .ref h2) (C := RX1) (T := TX1) (N := 3) hx hb hts hiX1 hown hK hP 0 rfl rfl 0 (by decide) (hts (.fieldLink RX1 13 "CakePapers$Desk" "papers" "[LCakePapers$Paper;") (by decide +kernel)) (fun _ h9 => h9) e_fs_0 dX1_copyFrom_9 ?_
  refine lv_iload_n hx hb dX1_copyFrom_12 rfl (lv_at hl 0 rfl) ?_
  refine lv_aload_n hx hb dX1_copyFrom_13 rfl (lv_at hl 2 rfl) ?_
  refine va_get (D := (dC, dI)) (ci := 1) (v := .ref h4) (C := RX1) (T := TX1) (N := 3) hx hb hts hiX1 hown hK hP 1 rfl rfl 0 (by decide) (hts (.fieldLink RX1 13 "CakePapers$Desk" "papers" "[LCakePapers$Paper;") (by decide +kernel)) (fun _ h9 => h9) e_gs_0 dX1_copyFrom_14 ?_
  refine lv_iload_n hx hb dX1_copyFrom_17 rfl (lv_at hl 0 rfl) ?_
  refine va_aldq hx hb hK hP 4 1 rfl rfl (zz_in (by decide)) dX1_copyFrom_18 ?_
  refine W.eq (g2 := F0 m 19 ls [.null, .int 7, .ref h2]) rfl ?_
  refine va_astqN hx hb hK hP hD hS 2 0 rfl rfl (zz_in (by decide)) dX1_copyFrom_19 (fun H locs hP hD hS => ?_)
  obtain ⟨f_16, hP, hD⟩ : ∃ f_16 : Nat → Option Nat, va_P (dC, dI) vwCl [(h0, .inr (1, fs)), (h1, .inr (1, gs)), (h2, .inl (cP, 8, .inr (.inr (.inr (.inr f_16))))), (h3, .inr (4, js)), (h4, .inl (cQ, 8, .inr (.inr (.inr (.inr (fun _ => none)))))), (h5, .inr (4, ks))] H ∧ va_D A [(h0, .inr (1, fs)), (h1, .inr (1, gs)), (h2, .inl (cP, 8, .inr (.inr (.inr (.inr f_16))))), (h3, .inr (4, js)), (h4, .inl (cQ, 8, .inr (.inr (.inr (.inr (fun _ => none)))))), (h5, .inr (4, ks))] := ⟨_, hP, hD⟩
  refine lv_iinc (v := 8) (lv' := [(2, .int 8), (0, .ref h0), (1, .ref h1)]) hx hb dX1_copyFrom_20 hl (k := 0) rfl (by decide) (by decide) rfl (fun ls hl => ?_)
  refine lv_goto (tgt := 2) hx hb dX1_copyFrom_23 (by decide) ?_
  refine lv_iload_n hx hb dX1_copyFrom_2 rfl (lv_at hl 0 rfl) ?_
  refine lv_bipush (v := 8) hx hb dX1_copyFrom_3 (by decide) ?_
  refine lv_icmp_ge (tgt := 26) hx hb dX1_copyFrom_5 (by decide) (fun c_17 => ?_) (fun c_17 => absurd c_17 (by decide))
  refine lv_aload_n hx hb dX1_copyFrom_26 rfl (lv_at hl 1 rfl) ?_
  refine lv_aload_n hx hb dX1_copyFrom_27 rfl (lv_at hl 2 rfl) ?_
  refine va_get (D := (dC, dI)) (ci := 1) (v := .int 0) (C := RX1) (T := TX1) (N := 3) hx hb hts hiX1 hown hK hP 1 rfl rfl 2 (by decide) (hts (.fieldLink RX1 24 "CakePapers$Desk" "count" "I") (by decide +kernel)) (fun _ h9 => h9) e_gs_2 dX1_copyFrom_28 ?_
  refine va_put (D := (dC, dI)) (ci := 1) (v := .int 0) (ty := .int) (C := RX1) (T := TX1) (N := 3) hx hb hts hiX1 tyX1 tyX1_ok nmX1 hown hK hP hD hS 0 rfl rfl 2 (by decide) (hts (.fieldLink RX1 24 "CakePapers$Desk" "count" "I") (by decide +kernel)) (fun _ h9 => h9) rfl (by decide +kernel) rfl rfl (by simp [hn_fs]) dX1_copyFrom_31 (fun H locs hP hD hS => ?_)
  have hP : va_P (dC, dI) vwCl [(h0, .inr (1, (List.set fs 2 (.int 0)))), (h1, .inr (1, gs)), (h2, .inl (cP, 8, .inr (.inr (.inr (.inr f_16))))), (h3, .inr (4, js)), (h4, .inl (cQ, 8, .inr (.inr (.inr (.inr (fun _ => none)))))), (h5, .inr (4, ks))] H := hP
  have hD : va_D A [(h0, .inr (1, (List.set fs 2 (.int 0)))), (h1, .inr (1, gs)), (h2, .inl (cP, 8, .inr (.inr (.inr (.inr f_16))))), (h3, .inr (4, js)), (h4, .inl (cQ, 8, .inr (.inr (.inr (.inr (fun _ => none)))))), (h5, .inr (4, ks))] := hD
  refine lv_aload_n hx hb dX1_copyFrom_34 rfl (lv_at hl 1 rfl) ?_
  refine va_get (D := (dC, dI)) (ci := 1) (v := .ref h3) (C := RX1) (T := TX1) (N := 3) hx hb hts hiX1 hown hK hP 0 rfl rfl 1 (by decide) (hts (.fieldLink RX1 20 "CakePapers$Desk" "joining" "LCakePapers$Joining;") (by decide +kernel)) (fun _ h9 => h9) (by simp [e_fs_1]) dX1_copyFrom_35 ?_
  refine lv_aload_n hx hb dX1_copyFrom_38 rfl (lv_at hl 2 rfl) ?_
  refine va_get (D := (dC, dI)) (ci := 1) (v := .ref h5) (C := RX1) (T := TX1) (N := 3) hx hb hts hiX1 hown hK hP 1 rfl rfl 1 (by decide) (hts (.fieldLink RX1 20 "CakePapers$Desk" "joining" "LCakePapers$Joining;") (by decide +kernel)) (fun _ h9 => h9) e_gs_1 dX1_copyFrom_39 ?_
  have hPc := hP.sub (ws' := [(h3, .inr (4, js)), (h5, .inr (4, ks))]) [3, 5] rfl
  have hDc := hD.sub (ws' := [(h3, .inr (4, js)), (h5, .inr (4, ks))]) [3, 5] (by decide) rfl
  have hKc := hK.sub (tys' := []) [] rfl
  have hFc := va_free (wc := [(h3, .inr (4, js)), (h5, .inr (4, ks))]) hD hS hA [3, 5] rfl
  refine va_callv (va_runV (As := [.ref h5]) (rest := []) ⟨hx, hb, hml, hown, hts⟩ (c_X4_copyFrom l dC dI H.size h3 h5 js hn_js ks hn_ks e_ks_0) (cwV 1 hts g_c_X1_copyFrom_c_X4_copyFrom_0 rfl rfl rfl (by decide +kernel) ⟨Nat.le_of_ble_eq_true rfl, Nat.le_of_ble_eq_true rfl⟩) ⟨fun a U g mk q => by obtain ⟨q0, q1, qP, qK, qD⟩ := q; exact ⟨q0, q1, qP, va_K.moved (u := U) (U := U.calling g mk a) (Vm.Alike.refl U.vm) qK, qD⟩, va_recv hKc hPc (ci := 4) (q0 := 0) rfl rfl, fun U hU hW => ⟨rfl, by rw [hU], by rw [hU]; exact hPc, va_K.moved hW.alike hKc, hDc.weaken (fun _ _ _ _ => trivial)⟩⟩ rfl rfl hl.1 rfl (lv_room (Nat.le_of_ble_eq_true rfl)) dX1_copyFrom_42 ⟨Nat.le_of_ble_eq_true rfl, Nat.le_of_ble_eq_true rfl⟩) hS (fun q _ h => hFc q h) hFc (fun u t H1 locs ht hvm hw hB hz1 hk1 hS => ?_)
  obtain ⟨hP1, hD1⟩ := hB
  rw [ht] at hP1
  obtain ⟨hP, hD⟩ := va_join (wr := [(h0, .inr (1, (List.set fs 2 (.int 0)))), (h1, .inr (1, gs)), (h2, .inl (cP, 8, .inr (.inr (.inr (.inr f_16))))), (h4, .inl (cQ, 8, .inr (.inr (.inr (.inr (fun _ => none))))))]) (w1 := [(h3, .inr (4, (List.set (List.set (List.set (List.set (List.set js 0 .null) 1 .null) 2 .null) 11 (.int 0)) 12 (.int 0)))), (h5, .inr (4, ks))]) hP hD [3, 5] [0, 1, 2, 4] rfl rfl (by decide) (by decide) hk1 hFc hP1 hD1
  generalize H1 = H at hP hS ⊢
  have hP : va_P (dC, dI) vwCl [(h0, .inr (1, (List.set fs 2 (.int 0)))), (h1, .inr (1, gs)), (h2, .inl (cP, 8, .inr (.inr (.inr (.inr f_16))))), (h4, .inl (cQ, 8, .inr (.inr (.inr (.inr (fun _ => none)))))), (h3, .inr (4, (List.set (List.set (List.set (List.set (List.set js 0 .null) 1 .null) 2 .null) 11 (.int 0)) 12 (.int 0)))), (h5, .inr (4, ks))] H := hP
  have hD : va_D A [(h0, .inr (1, (List.set fs 2 (.int 0)))), (h1, .inr (1, gs)), (h2, .inl (cP, 8, .inr (.inr (.inr (.inr f_16))))), (h4, .inl (cQ, 8, .inr (.inr (.inr (.inr (fun _ => none)))))), (h3, .inr (4, (List.set (List.set (List.set (List.set (List.set js 0 .null) 1 .null) 2 .null) 11 (.int 0)) 12 (.int 0)))), (h5, .inr (4, ks))] := hD
  refine W.widen (k := 0) (n := 0) (Nat.le_of_ble_eq_true rfl) (Nat.le_of_ble_eq_true rfl) ?_
  refine W.widen (k := 0) (n := 0) (Nat.le_of_ble_eq_true rfl) (Nat.le_of_ble_eq_true rfl) ?_
  have hP9 := hP.sub (ws' := [(h1, .inr (1, gs))]) [1] rfl
  have hD9 := hD.sub (ws' := [(h1, .inr (1, gs))]) [1] (by decide) rfl
  exact W.vret hx hb hr (fun t ht hW => ⟨⟨(), rfl, trivial, by rw [ht]; exact hP9, hD9⟩, hS.F ht⟩) hS.2.2 dX1_copyFrom_45
def u_c_X11_image : List Cond := .code yX11_image cX11_image 2 (some .int) :: ([.fieldLink RX11 47 "CakePapers" "boxes" "[LCakePapers$Desk;", .fieldLink RX11 39 "CakePapers" "desk" "LCakePapers$Desk;", .code yX1_copyFrom cX1_copyFrom 3 none, .fieldLink RX1 13 "CakePapers$Desk" "papers" "[LCakePapers$Paper;", .fieldLink RX1 24 "CakePapers$Desk" "count" "I", .fieldLink RX1 20 "CakePapers$Desk" "joining" "LCakePapers$Joining;", .code yX4_copyFrom cX4_copyFrom 3 none, .code yX4_isThere cX4_isThere 1 (some .boolean), .fieldLink RX4 38 "CakePapers$Joining" "base" "LCakePapers$Paper;", .methodLink RX4 55 yX4_isThere, .instanceMethod yX4_isThere, .selects RX4 yX4_isThere yX4_isThere, .initialized RX4, .code yX4_clear cX4_clear 1 none, .fieldLink RX4 42 "CakePapers$Joining" "one" "LCakePapers$Paper;", .fieldLink RX4 45 "CakePapers$Joining" "other" "LCakePapers$Paper;", .fieldLink RX4 52 "CakePapers$Joining" "steps" "I", .fieldLink RX4 48 "CakePapers$Joining" "quarrels" "I", .methodLink RX4 59 yX4_clear, .instanceMethod yX4_clear, .selects RX4 yX4_clear yX4_clear, .methodLink RX1 41 yX4_copyFrom, .instanceMethod yX4_copyFrom, .selects RX4 yX4_copyFrom yX4_copyFrom, .methodLink RX11 362 yX1_copyFrom, .instanceMethod yX1_copyFrom, .selects RX1 yX1_copyFrom yX1_copyFrom, .initialized RX1, .fieldLink RX11 43 "CakePapers$Desk" "count" "I"] ++ wsX110 ++ wsX10 ++ wsX40)
set_option maxRecDepth 20000 in
theorem g_c_X11_image_c_X1_copyFrom_0 : GoodIn u_c_X11_image (wsV RX11 362 RX1 yX1_copyFrom u_c_X1_copyFrom) := goodIn_of _ (by decide +kernel)
set_option maxHeartbeats 1000000 in
set_option maxRecDepth 100000 in
theorem c_X11_image (l : Launch) (dC : Nat → ClassId) (dI : Nat → Nat → Nat) (sz : Nat) (h0 h1 h2 a0 j0 b0 a1 j1 b1 a2 j2 b2 a3 j3 : Nat) (cB cQ cP0 cP1 cP2 : ClassId) (f0 : Nat → Option Nat) (f1 : Nat → Option Nat) (f2 : Nat → Option Nat) (fs : List Value) (hn_fs : fs.length = 16) (e_fs_5 : fs[5]? = some (.ref h1)) (e_fs_6 : fs[6]? = some (.ref h2)) (gs : List Value) (hn_gs : gs.length = 3) (e_gs_0 : gs[0]? = some (.ref a0)) (e_gs_1 : gs[1]? = some (.ref j0)) (e_gs_2 : gs[2]? = some (.int 0)) (ks : List Value) (hn_ks : ks.length = 13) (e_ks_0 : ks[0]? = some .null) (bs0 : List Value) (hn_bs0 : bs0.length = 3) (e_bs0_0 : bs0[0]? = some (.ref a1)) (e_bs0_1 : bs0[1]? = some (.ref j1)) (js0 : List Value) (hn_js0 : js0.length = 13) (bs1 : List Value) (hn_bs1 : bs1.length = 3) (e_bs1_0 : bs1[0]? = some (.ref a2)) (e_bs1_1 : bs1[1]? = some (.ref j2)) (js1 : List Value) (hn_js1 : js1.length = 13) (bs2 : List Value) (hn_bs2 : bs2.length = 3) (e_bs2_0 : bs2[0]? = some (.ref a3)) (e_bs2_1 : bs2[1]? = some (.ref j3)) (js2 : List Value) (hn_js2 : js2.length = 13) (p0 : Int32) : Met l yX11_image u_c_X11_image ({ frames := 3, cells := 0, slots := 0, locals := 64 }) (va_Pc [.ref h0, .int p0] (fun U => U.heap.size = sz ∧ va_P (dC, dI) vwCl [(h0, .inr (11, fs)), (h1, .inr (1, gs)), (h2, .inl (cB, 3, .inr (.inr (.inr (.inr (va_up (va_up (va_up (fun _ => none) 0 (some b0)) 1 (some b1)) 2 (some b2))))))), (a0, .inl (cQ, 8, .inr (.inr (.inr (.inr (fun _ => none)))))), (j0, .inr (4, ks)), (b0, .inr (1, bs0)), (a1, .inl (cP0, 8, .inr (.inr (.inr (.inr f0))))), (j1, .inr (4, js0)), (b1, .inr (1, bs1)), (a2, .inl (cP1, 8, .inr (.inr (.inr (.inr f1))))), (j2, .inr (4, js1)), (b2, .inr (1, bs2)), (a3, .inl (cP2, 8, .inr (.inr (.inr (.inr f2))))), (j3, .inr (4, js2))] U.heap ∧ va_K (dC, dI) vwCl [(cB, (.object RX1)), (cQ, (.object RX6)), (cP0, (.object RX6)), (cP1, (.object RX6)), (cP2, (.object RX6))] U ∧ va_D (fun _ => True) [(h0, .inr (11, fs)), (h1, .inr (1, gs)), (h2, .inl (cB, 3, .inr (.inr (.inr (.inr (va_up (va_up (va_up (fun _ => none) 0 (some b0)) 1 (some b1)) 2 (some b2))))))), (a0, .inl (cQ, 8, .inr (.inr (.inr (.inr (fun _ => none)))))), (j0, .inr (4, ks)), (b0, .inr (1, bs0)), (a1, .inl (cP0, 8, .inr (.inr (.inr (.inr f0))))), (j1, .inr (4, js0)), (b1, .inr (1, bs1)), (a2, .inl (cP1, 8, .inr (.inr (.inr (.inr f1))))), (j2, .inr (4, js1)), (b2, .inr (1, bs2)), (a3, .inl (cP2, 8, .inr (.inr (.inr (.inr f2))))), (j3, .inr (4, js2))])) (va_Qi (fun (r : Int32) (_ : Unit) => r = zz_im p0) (fun _ _ => True) (va_A [(h0, .inr (11, fs)), (h1, .inr (1, gs)), (h2, .inl (cB, 3, .inr (.inr (.inr (.inr (va_up (va_up (va_up (fun _ => none) 0 (some b0)) 1 (some b1)) 2 (some b2))))))), (a0, .inl (cQ, 8, .inr (.inr (.inr (.inr (fun _ => none)))))), (j0, .inr (4, ks)), (b0, .inr (1, bs0)), (a1, .inl (cP0, 8, .inr (.inr (.inr (.inr f0))))), (j1, .inr (4, js0)), (b1, .inr (1, bs1)), (a2, .inl (cP1, 8, .inr (.inr (.inr (.inr f1))))), (j2, .inr (4, js1)), (b2, .inr (1, bs2)), (a3, .inl (cP2, 8, .inr (.inr (.inr (.inr f2))))), (j3, .inr (4, js2))] sz)) 0 0 (va_A [(h0, .inr (11, fs)), (h1, .inr (1, gs)), (h2, .inl (cB, 3, .inr (.inr (.inr (.inr (va_up (va_up (va_up (fun _ => none) 0 (some b0)) 1 (some b1)) 2 (some b2))))))), (a0, .inl (cQ, 8, .inr (.inr (.inr (.inr (fun _ => none)))))), (j0, .inr (4, ks)), (b0, .inr (1, bs0)), (a1, .inl (cP0, 8, .inr (.inr (.inr (.inr f0))))), (j1, .inr (4, js0)), (b1, .inr (1, bs1)), (a2, .inl (cP1, 8, .inr (.inr (.inr (.inr f1))))), (j2, .inr (4, js1)), (b2, .inr (1, bs2)), (a3, .inl (cP2, 8, .inr (.inr (.inr (.inr f2))))), (j3, .inr (4, js2))] sz) := by
  refine Met.ofW (cc := cX11_image) (maxL := 2) (ret := (some .int)) (by decide) rfl ?_
  intro p e s m args below meth c s₁ B hml hv
  obtain ⟨rfl, hsz, hP, hK, hD0⟩ := hv
  have hx := B.exec
  have hb := B.bytes
  have hr := B.returns
  have hts := atoms_spec (ws := u_c_X11_image) B.pre
  have hown : s.vm.findClass RX11 = some m.cls := findClass_of_methodNamed B.named
  have hlocks := B.notSynchronized
  have hiX11 : ∀ w ∈ wsX110, w ∈ u_c_X11_image := fun w h => List.mem_cons_of_mem _ (List.mem_append_left _ (List.mem_append_left _ (List.mem_append_right _ h)))
  have hiX1 : ∀ w ∈ wsX10, w ∈ u_c_X11_image := fun w h => List.mem_cons_of_mem _ (List.mem_append_left _ (List.mem_append_right _ h))
  have hiX4 : ∀ w ∈ wsX40, w ∈ u_c_X11_image := fun w h => List.mem_cons_of_mem _ (List.mem_append_right _ h)
  subst hsz
  have hD := hD0.self (sz := s.heap.size)
  generalize hAe : va_A [(h0, .inr (11, fs)), (h1, .inr (1, gs)), (h2, .inl (cB, 3, .inr (.inr (.inr (.inr (va_up (va_up (va_up (fun _ => none) 0 (some b0)) 1 (some b1)) 2 (some b2))))))), (a0, .inl (cQ, 8, .inr (.inr (.inr (.inr (fun _ => none)))))), (j0, .inr (4, ks)), (b0, .inr (1, bs0)), (a1, .inl (cP0, 8, .inr (.inr (.inr (.inr f0))))), (j1, .inr (4, js0)), (b1, .inr (1, bs1)), (a2, .inl (cP1, 8, .inr (.inr (.inr (.inr f1))))), (j2, .inr (4, js1)), (b2, .inr (1, bs2)), (a3, .inl (cP2, 8, .inr (.inr (.inr (.inr f2))))), (j3, .inr (4, js2))] s.heap.size = A at hD ⊢
  have hA : ∀ q : Nat, s.heap.size ≤ q → A q := fun q h => by rw [← hAe]; exact Or.inr h
  have hS : va_S A s.heap s.heap [] := va_S.rf
  obtain ⟨H, hH⟩ : ∃ H : Heap, H = s.heap := ⟨_, rfl⟩
  have hP : va_P (dC, dI) vwCl [(h0, .inr (11, fs)), (h1, .inr (1, gs)), (h2, .inl (cB, 3, .inr (.inr (.inr (.inr (va_up (va_up (va_up (fun _ => none) 0 (some b0)) 1 (some b1)) 2 (some b2))))))), (a0, .inl (cQ, 8, .inr (.inr (.inr (.inr (fun _ => none)))))), (j0, .inr (4, ks)), (b0, .inr (1, bs0)), (a1, .inl (cP0, 8, .inr (.inr (.inr (.inr f0))))), (j1, .inr (4, js0)), (b1, .inr (1, bs1)), (a2, .inl (cP1, 8, .inr (.inr (.inr (.inr f1))))), (j2, .inr (4, js1)), (b2, .inr (1, bs2)), (a3, .inl (cP2, 8, .inr (.inr (.inr (.inr f2))))), (j3, .inr (4, js2))] H := by rw [hH]; exact hP
  have hS : va_S A s.heap H [] := by rw [hH]; exact hS
  have hl := lv_entry ([.ref h0, .int p0]) (n := 2) (Nat.le_of_ble_eq_true rfl)
  rw [lg_entry_eq]
  generalize (lg_sl ([.ref h0, .int p0]) ++ List.replicate (2 - (lg_sl ([.ref h0, .int p0])).length) Slot.unset).toArray = ls at hl ⊢
  have hl : lv_has ls 2 [(0, .ref h0), (1, .int p0)] := hl
  suffices h9 : W p l e (headSpec u_c_X11_image _).room s m _ below meth c H [] 0 0 _ (F0 m 0 ls []) by rw [hH] at h9; exact h9
  refine lv_iload_n hx hb dX11_image_0 rfl (lv_at hl 1 rfl) ?_
  refine lv_if_lt (tgt := 9) hx hb dX11_image_1 (by decide) (fun c_1 => ?_) (fun c_1 => ?_)
  · refine lv_iconst (v := (-1)) hx hb dX11_image_9 (by decide) ?_
    refine W.widen (k := 0) (n := 0) (Nat.le_of_ble_eq_true rfl) (Nat.le_of_ble_eq_true rfl) ?_
    exact W.iret (v := (-1)) hx hb hr (fun t ht hW => ⟨⟨(-1), (), rfl, (by unfold zz_im; rw [if_pos c_1]), trivial⟩, hS.F ht⟩) hS.2.2 dX11_image_10
  · refine lv_iload_n hx hb dX11_image_4 rfl (lv_at hl 1 rfl) ?_
    refine lv_iconst (v := 3) hx hb dX11_image_5 (by decide) ?_
    refine lv_icmp_lt (tgt := 11) hx hb dX11_image_6 (by decide) (fun c_2 => ?_) (fun c_2 => ?_)
    · rcases zz_three c_1 c_2 with h_b | h_b | h_b
      · subst h_b
        refine lv_aload_n hx hb dX11_image_11 rfl (lv_at hl 0 rfl) ?_
        refine va_get (D := (dC, dI)) (ci := 11) (v := .ref h2) (C := RX11) (T := TX11) (N := 16) hx hb hts hiX11 hown hK hP 0 rfl rfl 6 (by decide) (hts (.fieldLink RX11 47 "CakePapers" "boxes" "[LCakePapers$Desk;") (by decide +kernel)) (fun _ h9 => h9) e_fs_6 dX11_image_12 ?_
        refine lv_iload_n hx hb dX11_image_15 rfl (lv_at hl 1 rfl) ?_
        refine va_aldq hx hb hK hP 2 0 rfl rfl (zz_in (by decide)) dX11_image_16 ?_
        refine W.eq (g2 := F0 m 17 ls [.ref b0]) rfl ?_
        refine lv_aload_n hx hb dX11_image_17 rfl (lv_at hl 0 rfl) ?_
        refine va_get (D := (dC, dI)) (ci := 11) (v := .ref h1) (C := RX11) (T := TX11) (N := 16) hx hb hts hiX11 hown hK hP 0 rfl rfl 5 (by decide) (hts (.fieldLink RX11 39 "CakePapers" "desk" "LCakePapers$Desk;") (by decide +kernel)) (fun _ h9 => h9) e_fs_5 dX11_image_18 ?_
        have hPc := hP.sub (ws' := [(b0, .inr (1, bs0)), (h1, .inr (1, gs)), (a1, .inl (cP0, 8, .inr (.inr (.inr (.inr f0))))), (j1, .inr (4, js0)), (a0, .inl (cQ, 8, .inr (.inr (.inr (.inr (fun _ => none)))))), (j0, .inr (4, ks))]) [5, 1, 6, 7, 3, 4] rfl
        have hDc := hD.sub (ws' := [(b0, .inr (1, bs0)), (h1, .inr (1, gs)), (a1, .inl (cP0, 8, .inr (.inr (.inr (.inr f0))))), (j1, .inr (4, js0)), (a0, .inl (cQ, 8, .inr (.inr (.inr (.inr (fun _ => none)))))), (j0, .inr (4, ks))]) [5, 1, 6, 7, 3, 4] (by decide) rfl
        have hKc := hK.sub (tys' := [(cP0, (.object RX6)), (cQ, (.object RX6))]) [2, 1] rfl
        have hFc := va_free (wc := [(b0, .inr (1, bs0)), (h1, .inr (1, gs)), (a1, .inl (cP0, 8, .inr (.inr (.inr (.inr f0))))), (j1, .inr (4, js0)), (a0, .inl (cQ, 8, .inr (.inr (.inr (.inr (fun _ => none)))))), (j0, .inr (4, ks))]) hD hS hA [5, 1, 6, 7, 3, 4] rfl
        refine va_callv (va_runV (As := [.ref h1]) (rest := []) ⟨hx, hb, hml, hown, hts⟩ (c_X1_copyFrom l dC dI H.size b0 h1 a1 j1 a0 j0 cP0 cQ f0 bs0 hn_bs0 e_bs0_0 e_bs0_1 gs hn_gs e_gs_0 e_gs_1 e_gs_2 js0 hn_js0 ks hn_ks e_ks_0) (cwV 1 hts g_c_X11_image_c_X1_copyFrom_0 rfl rfl rfl (by decide +kernel) ⟨Nat.le_of_ble_eq_true rfl, Nat.le_of_ble_eq_true rfl⟩) ⟨fun a U g mk q => by obtain ⟨q0, q1, qP, qK, qD⟩ := q; exact ⟨q0, q1, qP, va_K.moved (u := U) (U := U.calling g mk a) (Vm.Alike.refl U.vm) qK, qD⟩, va_recv hKc hPc (ci := 1) (q0 := 0) rfl rfl, fun U hU hW => ⟨rfl, by rw [hU], by rw [hU]; exact hPc, va_K.moved hW.alike hKc, hDc.weaken (fun _ _ _ _ => trivial)⟩⟩ rfl rfl hl.1 rfl (lv_room (Nat.le_of_ble_eq_true rfl)) dX11_image_21 ⟨Nat.le_of_ble_eq_true rfl, Nat.le_of_ble_eq_true rfl⟩) hS (fun q _ h => hFc q h) hFc (fun u t H1 locs ht hvm hw hB hz1 hk1 hS => ?_)
        obtain ⟨hP1, hD1⟩ := hB
        rw [ht] at hP1
        obtain ⟨hP, hD⟩ := va_join (wr := [(h0, .inr (11, fs)), (h2, .inl (cB, 3, .inr (.inr (.inr (.inr (va_up (va_up (va_up (fun _ => none) 0 (some b0)) 1 (some b1)) 2 (some b2))))))), (b1, .inr (1, bs1)), (a2, .inl (cP1, 8, .inr (.inr (.inr (.inr f1))))), (j2, .inr (4, js1)), (b2, .inr (1, bs2)), (a3, .inl (cP2, 8, .inr (.inr (.inr (.inr f2))))), (j3, .inr (4, js2))]) (w1 := [(h1, .inr (1, gs))]) hP hD [5, 1, 6, 7, 3, 4] [0, 2, 8, 9, 10, 11, 12, 13] rfl rfl (by decide) (by decide) hk1 hFc hP1 hD1
        generalize H1 = H at hP hS ⊢
        have hP : va_P (dC, dI) vwCl [(h0, .inr (11, fs)), (h2, .inl (cB, 3, .inr (.inr (.inr (.inr (va_up (va_up (va_up (fun _ => none) 0 (some b0)) 1 (some b1)) 2 (some b2))))))), (b1, .inr (1, bs1)), (a2, .inl (cP1, 8, .inr (.inr (.inr (.inr f1))))), (j2, .inr (4, js1)), (b2, .inr (1, bs2)), (a3, .inl (cP2, 8, .inr (.inr (.inr (.inr f2))))), (j3, .inr (4, js2)), (h1, .inr (1, gs))] H := hP
        have hD : va_D A [(h0, .inr (11, fs)), (h2, .inl (cB, 3, .inr (.inr (.inr (.inr (va_up (va_up (va_up (fun _ => none) 0 (some b0)) 1 (some b1)) 2 (some b2))))))), (b1, .inr (1, bs1)), (a2, .inl (cP1, 8, .inr (.inr (.inr (.inr f1))))), (j2, .inr (4, js1)), (b2, .inr (1, bs2)), (a3, .inl (cP2, 8, .inr (.inr (.inr (.inr f2))))), (j3, .inr (4, js2)), (h1, .inr (1, gs))] := hD
        refine W.widen (k := 0) (n := 0) (Nat.le_of_ble_eq_true rfl) (Nat.le_of_ble_eq_true rfl) ?_
        refine lv_aload_n hx hb dX11_image_24 rfl (lv_at hl 0 rfl) ?_
        refine va_get (D := (dC, dI)) (ci := 11) (v := .ref h1) (C := RX11) (T := TX11) (N := 16) hx hb hts hiX11 hown hK hP 0 rfl rfl 5 (by decide) (hts (.fieldLink RX11 39 "CakePapers" "desk" "LCakePapers$Desk;") (by decide +kernel)) (fun _ h9 => h9) e_fs_5 dX11_image_25 ?_
        refine va_get (D := (dC, dI)) (ci := 1) (v := .int 0) (C := RX1) (T := TX1) (N := 3) hx hb hts hiX1 hown hK hP 8 rfl rfl 2 (by decide) (hts (.fieldLink RX11 43 "CakePapers$Desk" "count" "I") (by decide +kernel)) (fun _ h9 => h9) e_gs_2 dX11_image_28 ?_
        refine W.widen (k := 0) (n := 0) (Nat.le_of_ble_eq_true rfl) (Nat.le_of_ble_eq_true rfl) ?_
        exact W.iret (v := 0) hx hb hr (fun t ht hW => ⟨⟨0, (), rfl, (by decide), trivial⟩, hS.F ht⟩) hS.2.2 dX11_image_31
      · subst h_b
        refine lv_aload_n hx hb dX11_image_11 rfl (lv_at hl 0 rfl) ?_
        refine va_get (D := (dC, dI)) (ci := 11) (v := .ref h2) (C := RX11) (T := TX11) (N := 16) hx hb hts hiX11 hown hK hP 0 rfl rfl 6 (by decide) (hts (.fieldLink RX11 47 "CakePapers" "boxes" "[LCakePapers$Desk;") (by decide +kernel)) (fun _ h9 => h9) e_fs_6 dX11_image_12 ?_
        refine lv_iload_n hx hb dX11_image_15 rfl (lv_at hl 1 rfl) ?_
        refine va_aldq hx hb hK hP 2 0 rfl rfl (zz_in (by decide)) dX11_image_16 ?_
        refine W.eq (g2 := F0 m 17 ls [.ref b1]) rfl ?_
        refine lv_aload_n hx hb dX11_image_17 rfl (lv_at hl 0 rfl) ?_
        refine va_get (D := (dC, dI)) (ci := 11) (v := .ref h1) (C := RX11) (T := TX11) (N := 16) hx hb hts hiX11 hown hK hP 0 rfl rfl 5 (by decide) (hts (.fieldLink RX11 39 "CakePapers" "desk" "LCakePapers$Desk;") (by decide +kernel)) (fun _ h9 => h9) e_fs_5 dX11_image_18 ?_
        have hPc := hP.sub (ws' := [(b1, .inr (1, bs1)), (h1, .inr (1, gs)), (a2, .inl (cP1, 8, .inr (.inr (.inr (.inr f1))))), (j2, .inr (4, js1)), (a0, .inl (cQ, 8, .inr (.inr (.inr (.inr (fun _ => none)))))), (j0, .inr (4, ks))]) [8, 1, 9, 10, 3, 4] rfl
        have hDc := hD.sub (ws' := [(b1, .inr (1, bs1)), (h1, .inr (1, gs)), (a2, .inl (cP1, 8, .inr (.inr (.inr (.inr f1))))), (j2, .inr (4, js1)), (a0, .inl (cQ, 8, .inr (.inr (.inr (.inr (fun _ => none)))))), (j0, .inr (4, ks))]) [8, 1, 9, 10, 3, 4] (by decide) rfl
        have hKc := hK.sub (tys' := [(cP1, (.object RX6)), (cQ, (.object RX6))]) [3, 1] rfl
        have hFc := va_free (wc := [(b1, .inr (1, bs1)), (h1, .inr (1, gs)), (a2, .inl (cP1, 8, .inr (.inr (.inr (.inr f1))))), (j2, .inr (4, js1)), (a0, .inl (cQ, 8, .inr (.inr (.inr (.inr (fun _ => none)))))), (j0, .inr (4, ks))]) hD hS hA [8, 1, 9, 10, 3, 4] rfl
        refine va_callv (va_runV (As := [.ref h1]) (rest := []) ⟨hx, hb, hml, hown, hts⟩ (c_X1_copyFrom l dC dI H.size b1 h1 a2 j2 a0 j0 cP1 cQ f1 bs1 hn_bs1 e_bs1_0 e_bs1_1 gs hn_gs e_gs_0 e_gs_1 e_gs_2 js1 hn_js1 ks hn_ks e_ks_0) (cwV 1 hts g_c_X11_image_c_X1_copyFrom_0 rfl rfl rfl (by decide +kernel) ⟨Nat.le_of_ble_eq_true rfl, Nat.le_of_ble_eq_true rfl⟩) ⟨fun a U g mk q => by obtain ⟨q0, q1, qP, qK, qD⟩ := q; exact ⟨q0, q1, qP, va_K.moved (u := U) (U := U.calling g mk a) (Vm.Alike.refl U.vm) qK, qD⟩, va_recv hKc hPc (ci := 1) (q0 := 0) rfl rfl, fun U hU hW => ⟨rfl, by rw [hU], by rw [hU]; exact hPc, va_K.moved hW.alike hKc, hDc.weaken (fun _ _ _ _ => trivial)⟩⟩ rfl rfl hl.1 rfl (lv_room (Nat.le_of_ble_eq_true rfl)) dX11_image_21 ⟨Nat.le_of_ble_eq_true rfl, Nat.le_of_ble_eq_true rfl⟩) hS (fun q _ h => hFc q h) hFc (fun u t H1 locs ht hvm hw hB hz1 hk1 hS => ?_)
        obtain ⟨hP1, hD1⟩ := hB
        rw [ht] at hP1
        obtain ⟨hP, hD⟩ := va_join (wr := [(h0, .inr (11, fs)), (h2, .inl (cB, 3, .inr (.inr (.inr (.inr (va_up (va_up (va_up (fun _ => none) 0 (some b0)) 1 (some b1)) 2 (some b2))))))), (b0, .inr (1, bs0)), (a1, .inl (cP0, 8, .inr (.inr (.inr (.inr f0))))), (j1, .inr (4, js0)), (b2, .inr (1, bs2)), (a3, .inl (cP2, 8, .inr (.inr (.inr (.inr f2))))), (j3, .inr (4, js2))]) (w1 := [(h1, .inr (1, gs))]) hP hD [8, 1, 9, 10, 3, 4] [0, 2, 5, 6, 7, 11, 12, 13] rfl rfl (by decide) (by decide) hk1 hFc hP1 hD1
        generalize H1 = H at hP hS ⊢
        have hP : va_P (dC, dI) vwCl [(h0, .inr (11, fs)), (h2, .inl (cB, 3, .inr (.inr (.inr (.inr (va_up (va_up (va_up (fun _ => none) 0 (some b0)) 1 (some b1)) 2 (some b2))))))), (b0, .inr (1, bs0)), (a1, .inl (cP0, 8, .inr (.inr (.inr (.inr f0))))), (j1, .inr (4, js0)), (b2, .inr (1, bs2)), (a3, .inl (cP2, 8, .inr (.inr (.inr (.inr f2))))), (j3, .inr (4, js2)), (h1, .inr (1, gs))] H := hP
        have hD : va_D A [(h0, .inr (11, fs)), (h2, .inl (cB, 3, .inr (.inr (.inr (.inr (va_up (va_up (va_up (fun _ => none) 0 (some b0)) 1 (some b1)) 2 (some b2))))))), (b0, .inr (1, bs0)), (a1, .inl (cP0, 8, .inr (.inr (.inr (.inr f0))))), (j1, .inr (4, js0)), (b2, .inr (1, bs2)), (a3, .inl (cP2, 8, .inr (.inr (.inr (.inr f2))))), (j3, .inr (4, js2)), (h1, .inr (1, gs))] := hD
        refine W.widen (k := 0) (n := 0) (Nat.le_of_ble_eq_true rfl) (Nat.le_of_ble_eq_true rfl) ?_
        refine lv_aload_n hx hb dX11_image_24 rfl (lv_at hl 0 rfl) ?_
        refine va_get (D := (dC, dI)) (ci := 11) (v := .ref h1) (C := RX11) (T := TX11) (N := 16) hx hb hts hiX11 hown hK hP 0 rfl rfl 5 (by decide) (hts (.fieldLink RX11 39 "CakePapers" "desk" "LCakePapers$Desk;") (by decide +kernel)) (fun _ h9 => h9) e_fs_5 dX11_image_25 ?_
        refine va_get (D := (dC, dI)) (ci := 1) (v := .int 0) (C := RX1) (T := TX1) (N := 3) hx hb hts hiX1 hown hK hP 8 rfl rfl 2 (by decide) (hts (.fieldLink RX11 43 "CakePapers$Desk" "count" "I") (by decide +kernel)) (fun _ h9 => h9) e_gs_2 dX11_image_28 ?_
        refine W.widen (k := 0) (n := 0) (Nat.le_of_ble_eq_true rfl) (Nat.le_of_ble_eq_true rfl) ?_
        exact W.iret (v := 0) hx hb hr (fun t ht hW => ⟨⟨0, (), rfl, (by decide), trivial⟩, hS.F ht⟩) hS.2.2 dX11_image_31
      · subst h_b
        refine lv_aload_n hx hb dX11_image_11 rfl (lv_at hl 0 rfl) ?_
        refine va_get (D := (dC, dI)) (ci := 11) (v := .ref h2) (C := RX11) (T := TX11) (N := 16) hx hb hts hiX11 hown hK hP 0 rfl rfl 6 (by decide) (hts (.fieldLink RX11 47 "CakePapers" "boxes" "[LCakePapers$Desk;") (by decide +kernel)) (fun _ h9 => h9) e_fs_6 dX11_image_12 ?_
        refine lv_iload_n hx hb dX11_image_15 rfl (lv_at hl 1 rfl) ?_
        refine va_aldq hx hb hK hP 2 0 rfl rfl (zz_in (by decide)) dX11_image_16 ?_
        refine W.eq (g2 := F0 m 17 ls [.ref b2]) rfl ?_
        refine lv_aload_n hx hb dX11_image_17 rfl (lv_at hl 0 rfl) ?_
        refine va_get (D := (dC, dI)) (ci := 11) (v := .ref h1) (C := RX11) (T := TX11) (N := 16) hx hb hts hiX11 hown hK hP 0 rfl rfl 5 (by decide) (hts (.fieldLink RX11 39 "CakePapers" "desk" "LCakePapers$Desk;") (by decide +kernel)) (fun _ h9 => h9) e_fs_5 dX11_image_18 ?_
        have hPc := hP.sub (ws' := [(b2, .inr (1, bs2)), (h1, .inr (1, gs)), (a3, .inl (cP2, 8, .inr (.inr (.inr (.inr f2))))), (j3, .inr (4, js2)), (a0, .inl (cQ, 8, .inr (.inr (.inr (.inr (fun _ => none)))))), (j0, .inr (4, ks))]) [11, 1, 12, 13, 3, 4] rfl
        have hDc := hD.sub (ws' := [(b2, .inr (1, bs2)), (h1, .inr (1, gs)), (a3, .inl (cP2, 8, .inr (.inr (.inr (.inr f2))))), (j3, .inr (4, js2)), (a0, .inl (cQ, 8, .inr (.inr (.inr (.inr (fun _ => none)))))), (j0, .inr (4, ks))]) [11, 1, 12, 13, 3, 4] (by decide) rfl
        have hKc := hK.sub (tys' := [(cP2, (.object RX6)), (cQ, (.object RX6))]) [4, 1] rfl
        have hFc := va_free (wc := [(b2, .inr (1, bs2)), (h1, .inr (1, gs)), (a3, .inl (cP2, 8, .inr (.inr (.inr (.inr f2))))), (j3, .inr (4, js2)), (a0, .inl (cQ, 8, .inr (.inr (.inr (.inr (fun _ => none)))))), (j0, .inr (4, ks))]) hD hS hA [11, 1, 12, 13, 3, 4] rfl
        refine va_callv (va_runV (As := [.ref h1]) (rest := []) ⟨hx, hb, hml, hown, hts⟩ (c_X1_copyFrom l dC dI H.size b2 h1 a3 j3 a0 j0 cP2 cQ f2 bs2 hn_bs2 e_bs2_0 e_bs2_1 gs hn_gs e_gs_0 e_gs_1 e_gs_2 js2 hn_js2 ks hn_ks e_ks_0) (cwV 1 hts g_c_X11_image_c_X1_copyFrom_0 rfl rfl rfl (by decide +kernel) ⟨Nat.le_of_ble_eq_true rfl, Nat.le_of_ble_eq_true rfl⟩) ⟨fun a U g mk q => by obtain ⟨q0, q1, qP, qK, qD⟩ := q; exact ⟨q0, q1, qP, va_K.moved (u := U) (U := U.calling g mk a) (Vm.Alike.refl U.vm) qK, qD⟩, va_recv hKc hPc (ci := 1) (q0 := 0) rfl rfl, fun U hU hW => ⟨rfl, by rw [hU], by rw [hU]; exact hPc, va_K.moved hW.alike hKc, hDc.weaken (fun _ _ _ _ => trivial)⟩⟩ rfl rfl hl.1 rfl (lv_room (Nat.le_of_ble_eq_true rfl)) dX11_image_21 ⟨Nat.le_of_ble_eq_true rfl, Nat.le_of_ble_eq_true rfl⟩) hS (fun q _ h => hFc q h) hFc (fun u t H1 locs ht hvm hw hB hz1 hk1 hS => ?_)
        obtain ⟨hP1, hD1⟩ := hB
        rw [ht] at hP1
        obtain ⟨hP, hD⟩ := va_join (wr := [(h0, .inr (11, fs)), (h2, .inl (cB, 3, .inr (.inr (.inr (.inr (va_up (va_up (va_up (fun _ => none) 0 (some b0)) 1 (some b1)) 2 (some b2))))))), (b0, .inr (1, bs0)), (a1, .inl (cP0, 8, .inr (.inr (.inr (.inr f0))))), (j1, .inr (4, js0)), (b1, .inr (1, bs1)), (a2, .inl (cP1, 8, .inr (.inr (.inr (.inr f1))))), (j2, .inr (4, js1))]) (w1 := [(h1, .inr (1, gs))]) hP hD [11, 1, 12, 13, 3, 4] [0, 2, 5, 6, 7, 8, 9, 10] rfl rfl (by decide) (by decide) hk1 hFc hP1 hD1
        generalize H1 = H at hP hS ⊢
        have hP : va_P (dC, dI) vwCl [(h0, .inr (11, fs)), (h2, .inl (cB, 3, .inr (.inr (.inr (.inr (va_up (va_up (va_up (fun _ => none) 0 (some b0)) 1 (some b1)) 2 (some b2))))))), (b0, .inr (1, bs0)), (a1, .inl (cP0, 8, .inr (.inr (.inr (.inr f0))))), (j1, .inr (4, js0)), (b1, .inr (1, bs1)), (a2, .inl (cP1, 8, .inr (.inr (.inr (.inr f1))))), (j2, .inr (4, js1)), (h1, .inr (1, gs))] H := hP
        have hD : va_D A [(h0, .inr (11, fs)), (h2, .inl (cB, 3, .inr (.inr (.inr (.inr (va_up (va_up (va_up (fun _ => none) 0 (some b0)) 1 (some b1)) 2 (some b2))))))), (b0, .inr (1, bs0)), (a1, .inl (cP0, 8, .inr (.inr (.inr (.inr f0))))), (j1, .inr (4, js0)), (b1, .inr (1, bs1)), (a2, .inl (cP1, 8, .inr (.inr (.inr (.inr f1))))), (j2, .inr (4, js1)), (h1, .inr (1, gs))] := hD
        refine W.widen (k := 0) (n := 0) (Nat.le_of_ble_eq_true rfl) (Nat.le_of_ble_eq_true rfl) ?_
        refine lv_aload_n hx hb dX11_image_24 rfl (lv_at hl 0 rfl) ?_
        refine va_get (D := (dC, dI)) (ci := 11) (v := .ref h1) (C := RX11) (T := TX11) (N := 16) hx hb hts hiX11 hown hK hP 0 rfl rfl 5 (by decide) (hts (.fieldLink RX11 39 "CakePapers" "desk" "LCakePapers$Desk;") (by decide +kernel)) (fun _ h9 => h9) e_fs_5 dX11_image_25 ?_
        refine va_get (D := (dC, dI)) (ci := 1) (v := .int 0) (C := RX1) (T := TX1) (N := 3) hx hb hts hiX1 hown hK hP 8 rfl rfl 2 (by decide) (hts (.fieldLink RX11 43 "CakePapers$Desk" "count" "I") (by decide +kernel)) (fun _ h9 => h9) e_gs_2 dX11_image_28 ?_
        refine W.widen (k := 0) (n := 0) (Nat.le_of_ble_eq_true rfl) (Nat.le_of_ble_eq_true rfl) ?_
        exact W.iret (v := 0) hx hb hr (fun t ht hW => ⟨⟨0, (), rfl, (by decide), trivial⟩, hS.F ht⟩) hS.2.2 dX11_image_31
    · refine lv_iconst (v := (-1)) hx hb dX11_image_9 (by decide) ?_
      refine W.widen (k := 0) (n := 0) (Nat.le_of_ble_eq_true rfl) (Nat.le_of_ble_eq_true rfl) ?_
      exact W.iret (v := (-1)) hx hb hr (fun t ht hW => ⟨⟨(-1), (), rfl, (by unfold zz_im; rw [if_neg c_1, if_neg c_2]), trivial⟩, hS.F ht⟩) hS.2.2 dX11_image_10
def u_c_X11_back : List Cond := .code yX11_back cX11_back 2 (some .int) :: ([.fieldLink RX11 47 "CakePapers" "boxes" "[LCakePapers$Desk;", .fieldLink RX11 43 "CakePapers$Desk" "count" "I"] ++ wsX110 ++ wsX10)
set_option maxHeartbeats 1000000 in
set_option maxRecDepth 100000 in
theorem c_X11_back (l : Launch) (dC : Nat → ClassId) (dI : Nat → Nat → Nat) (sz : Nat) (h0 h2 b0 b1 b2 : Nat) (cB : ClassId) (fs : List Value) (hn_fs : fs.length = 16) (e_fs_6 : fs[6]? = some (.ref h2)) (bs0 : List Value) (hn_bs0 : bs0.length = 3) (e_bs0_2 : bs0[2]? = some (.int (-1))) (bs1 : List Value) (hn_bs1 : bs1.length = 3) (e_bs1_2 : bs1[2]? = some (.int (-1))) (bs2 : List Value) (hn_bs2 : bs2.length = 3) (e_bs2_2 : bs2[2]? = some (.int (-1))) (p0 : Int32) : Met l yX11_back u_c_X11_back ({ frames := 0, cells := 0, slots := 0, locals := 0 }) (va_Pc [.ref h0, .int p0] (fun U => U.heap.size = sz ∧ va_P (dC, dI) vwCl [(h0, .inr (11, fs)), (h2, .inl (cB, 3, .inr (.inr (.inr (.inr (va_up (va_up (va_up (fun _ => none) 0 (some b0)) 1 (some b1)) 2 (some b2))))))), (b0, .inr (1, bs0)), (b1, .inr (1, bs1)), (b2, .inr (1, bs2))] U.heap ∧ va_K (dC, dI) vwCl [(cB, (.object RX1))] U ∧ va_D (fun _ => True) [(h0, .inr (11, fs)), (h2, .inl (cB, 3, .inr (.inr (.inr (.inr (va_up (va_up (va_up (fun _ => none) 0 (some b0)) 1 (some b1)) 2 (some b2))))))), (b0, .inr (1, bs0)), (b1, .inr (1, bs1)), (b2, .inr (1, bs2))])) (va_Qi (fun (r : Int32) (_ : Unit) => r = (-1)) (fun _ _ => True) (va_A [(h0, .inr (11, fs)), (h2, .inl (cB, 3, .inr (.inr (.inr (.inr (va_up (va_up (va_up (fun _ => none) 0 (some b0)) 1 (some b1)) 2 (some b2))))))), (b0, .inr (1, bs0)), (b1, .inr (1, bs1)), (b2, .inr (1, bs2))] sz)) 0 0 (va_A [(h0, .inr (11, fs)), (h2, .inl (cB, 3, .inr (.inr (.inr (.inr (va_up (va_up (va_up (fun _ => none) 0 (some b0)) 1 (some b1)) 2 (some b2))))))), (b0, .inr (1, bs0)), (b1, .inr (1, bs1)), (b2, .inr (1, bs2))] sz) := by
  refine Met.ofW (cc := cX11_back) (maxL := 2) (ret := (some .int)) (by decide) rfl ?_
  intro p e s m args below meth c s₁ B hml hv
  obtain ⟨rfl, hsz, hP, hK, hD0⟩ := hv
  have hx := B.exec
  have hb := B.bytes
  have hr := B.returns
  have hts := atoms_spec (ws := u_c_X11_back) B.pre
  have hown : s.vm.findClass RX11 = some m.cls := findClass_of_methodNamed B.named
  have hlocks := B.notSynchronized
  have hiX11 : ∀ w ∈ wsX110, w ∈ u_c_X11_back := fun w h => List.mem_cons_of_mem _ (List.mem_append_left _ (List.mem_append_right _ h))
  have hiX1 : ∀ w ∈ wsX10, w ∈ u_c_X11_back := fun w h => List.mem_cons_of_mem _ (List.mem_append_right _ h)
  subst hsz
  have hD := hD0.self (sz := s.heap.size)
  generalize hAe : va_A [(h0, .inr (11, fs)), (h2, .inl (cB, 3, .inr (.inr (.inr (.inr (va_up (va_up (va_up (fun _ => none) 0 (some b0)) 1 (some b1)) 2 (some b2))))))), (b0, .inr (1, bs0)), (b1, .inr (1, bs1)), (b2, .inr (1, bs2))] s.heap.size = A at hD ⊢
  have hA : ∀ q : Nat, s.heap.size ≤ q → A q := fun q h => by rw [← hAe]; exact Or.inr h
  have hS : va_S A s.heap s.heap [] := va_S.rf
  obtain ⟨H, hH⟩ : ∃ H : Heap, H = s.heap := ⟨_, rfl⟩
  have hP : va_P (dC, dI) vwCl [(h0, .inr (11, fs)), (h2, .inl (cB, 3, .inr (.inr (.inr (.inr (va_up (va_up (va_up (fun _ => none) 0 (some b0)) 1 (some b1)) 2 (some b2))))))), (b0, .inr (1, bs0)), (b1, .inr (1, bs1)), (b2, .inr (1, bs2))] H := by rw [hH]; exact hP
  have hS : va_S A s.heap H [] := by rw [hH]; exact hS
  have hl := lv_entry ([.ref h0, .int p0]) (n := 2) (Nat.le_of_ble_eq_true rfl)
  rw [lg_entry_eq]
  generalize (lg_sl ([.ref h0, .int p0]) ++ List.replicate (2 - (lg_sl ([.ref h0, .int p0])).length) Slot.unset).toArray = ls at hl ⊢
  have hl : lv_has ls 2 [(0, .ref h0), (1, .int p0)] := hl
  suffices h9 : W p l e (headSpec u_c_X11_back _).room s m _ below meth c H [] 0 0 _ (F0 m 0 ls []) by rw [hH] at h9; exact h9
  refine lv_iload_n hx hb dX11_back_0 rfl (lv_at hl 1 rfl) ?_
  refine lv_if_lt (tgt := 22) hx hb dX11_back_1 (by decide) (fun c_1 => ?_) (fun c_1 => ?_)
  · refine lv_iconst (v := (-1)) hx hb dX11_back_22 (by decide) ?_
    refine W.widen (k := 0) (n := 0) (Nat.le_of_ble_eq_true rfl) (Nat.le_of_ble_eq_true rfl) ?_
    exact W.iret (v := (-1)) hx hb hr (fun t ht hW => ⟨⟨(-1), (), rfl, rfl, trivial⟩, hS.F ht⟩) hS.2.2 dX11_back_23
  · refine lv_iload_n hx hb dX11_back_4 rfl (lv_at hl 1 rfl) ?_
    refine lv_iconst (v := 3) hx hb dX11_back_5 (by decide) ?_
    refine lv_icmp_ge (tgt := 22) hx hb dX11_back_6 (by decide) (fun c_2 => ?_) (fun c_2 => ?_)
    · refine lv_iconst (v := (-1)) hx hb dX11_back_22 (by decide) ?_
      refine W.widen (k := 0) (n := 0) (Nat.le_of_ble_eq_true rfl) (Nat.le_of_ble_eq_true rfl) ?_
      exact W.iret (v := (-1)) hx hb hr (fun t ht hW => ⟨⟨(-1), (), rfl, rfl, trivial⟩, hS.F ht⟩) hS.2.2 dX11_back_23
    · rcases zz_three c_1 (Int32.not_le.mp c_2) with h_b | h_b | h_b
      · subst h_b
        refine lv_aload_n hx hb dX11_back_9 rfl (lv_at hl 0 rfl) ?_
        refine va_get (D := (dC, dI)) (ci := 11) (v := .ref h2) (C := RX11) (T := TX11) (N := 16) hx hb hts hiX11 hown hK hP 0 rfl rfl 6 (by decide) (hts (.fieldLink RX11 47 "CakePapers" "boxes" "[LCakePapers$Desk;") (by decide +kernel)) (fun _ h9 => h9) e_fs_6 dX11_back_10 ?_
        refine lv_iload_n hx hb dX11_back_13 rfl (lv_at hl 1 rfl) ?_
        refine va_aldq hx hb hK hP 1 0 rfl rfl (zz_in (by decide)) dX11_back_14 ?_
        refine W.eq (g2 := F0 m 15 ls [.ref b0]) rfl ?_
        refine va_get (D := (dC, dI)) (ci := 1) (v := .int (-1)) (C := RX1) (T := TX1) (N := 3) hx hb hts hiX1 hown hK hP 2 rfl rfl 2 (by decide) (hts (.fieldLink RX11 43 "CakePapers$Desk" "count" "I") (by decide +kernel)) (fun _ h9 => h9) e_bs0_2 dX11_back_15 ?_
        refine lv_iconst (v := (-1)) hx hb dX11_back_18 (by decide) ?_
        refine lv_icmp_ne (tgt := 24) hx hb dX11_back_19 (by decide) (fun c_3 => absurd c_3 (by decide)) (fun c_3 => ?_)
        refine lv_iconst (v := (-1)) hx hb dX11_back_22 (by decide) ?_
        refine W.widen (k := 0) (n := 0) (Nat.le_of_ble_eq_true rfl) (Nat.le_of_ble_eq_true rfl) ?_
        exact W.iret (v := (-1)) hx hb hr (fun t ht hW => ⟨⟨(-1), (), rfl, rfl, trivial⟩, hS.F ht⟩) hS.2.2 dX11_back_23
      · subst h_b
        refine lv_aload_n hx hb dX11_back_9 rfl (lv_at hl 0 rfl) ?_
        refine va_get (D := (dC, dI)) (ci := 11) (v := .ref h2) (C := RX11) (T := TX11) (N := 16) hx hb hts hiX11 hown hK hP 0 rfl rfl 6 (by decide) (hts (.fieldLink RX11 47 "CakePapers" "boxes" "[LCakePapers$Desk;") (by decide +kernel)) (fun _ h9 => h9) e_fs_6 dX11_back_10 ?_
        refine lv_iload_n hx hb dX11_back_13 rfl (lv_at hl 1 rfl) ?_
        refine va_aldq hx hb hK hP 1 0 rfl rfl (zz_in (by decide)) dX11_back_14 ?_
        refine W.eq (g2 := F0 m 15 ls [.ref b1]) rfl ?_
        refine va_get (D := (dC, dI)) (ci := 1) (v := .int (-1)) (C := RX1) (T := TX1) (N := 3) hx hb hts hiX1 hown hK hP 3 rfl rfl 2 (by decide) (hts (.fieldLink RX11 43 "CakePapers$Desk" "count" "I") (by decide +kernel)) (fun _ h9 => h9) e_bs1_2 dX11_back_15 ?_
        refine lv_iconst (v := (-1)) hx hb dX11_back_18 (by decide) ?_
        refine lv_icmp_ne (tgt := 24) hx hb dX11_back_19 (by decide) (fun c_4 => absurd c_4 (by decide)) (fun c_4 => ?_)
        refine lv_iconst (v := (-1)) hx hb dX11_back_22 (by decide) ?_
        refine W.widen (k := 0) (n := 0) (Nat.le_of_ble_eq_true rfl) (Nat.le_of_ble_eq_true rfl) ?_
        exact W.iret (v := (-1)) hx hb hr (fun t ht hW => ⟨⟨(-1), (), rfl, rfl, trivial⟩, hS.F ht⟩) hS.2.2 dX11_back_23
      · subst h_b
        refine lv_aload_n hx hb dX11_back_9 rfl (lv_at hl 0 rfl) ?_
        refine va_get (D := (dC, dI)) (ci := 11) (v := .ref h2) (C := RX11) (T := TX11) (N := 16) hx hb hts hiX11 hown hK hP 0 rfl rfl 6 (by decide) (hts (.fieldLink RX11 47 "CakePapers" "boxes" "[LCakePapers$Desk;") (by decide +kernel)) (fun _ h9 => h9) e_fs_6 dX11_back_10 ?_
        refine lv_iload_n hx hb dX11_back_13 rfl (lv_at hl 1 rfl) ?_
        refine va_aldq hx hb hK hP 1 0 rfl rfl (zz_in (by decide)) dX11_back_14 ?_
        refine W.eq (g2 := F0 m 15 ls [.ref b2]) rfl ?_
        refine va_get (D := (dC, dI)) (ci := 1) (v := .int (-1)) (C := RX1) (T := TX1) (N := 3) hx hb hts hiX1 hown hK hP 4 rfl rfl 2 (by decide) (hts (.fieldLink RX11 43 "CakePapers$Desk" "count" "I") (by decide +kernel)) (fun _ h9 => h9) e_bs2_2 dX11_back_15 ?_
        refine lv_iconst (v := (-1)) hx hb dX11_back_18 (by decide) ?_
        refine lv_icmp_ne (tgt := 24) hx hb dX11_back_19 (by decide) (fun c_5 => absurd c_5 (by decide)) (fun c_5 => ?_)
        refine lv_iconst (v := (-1)) hx hb dX11_back_22 (by decide) ?_
        refine W.widen (k := 0) (n := 0) (Nat.le_of_ble_eq_true rfl) (Nat.le_of_ble_eq_true rfl) ?_
        exact W.iret (v := (-1)) hx hb hr (fun t ht hW => ⟨⟨(-1), (), rfl, rfl, trivial⟩, hS.F ht⟩) hS.2.2 dX11_back_23
end

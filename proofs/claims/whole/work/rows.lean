section
-- ===== PART A: goes FIRST, ahead of the names: the tables' words, and 'selects' of the private methods out of them =====
/-- a private method of a class that the tables say can be made, by its rows of tables_1 -/
def lw_okq (q : MethodName × Nat) : Prop := (q.1.cls ≠ "java/lang/invoke/MethodHandle" ∧ q.1.cls ≠ "java/lang/invoke/VarHandle") ∧ Cond.instantiable q.1.cls q.2 ∈ tables_1 ∧ Cond.privateMethod q.1 ∈ tables_1 ∧ Cond.instanceMethod q.1 ∈ tables_1
theorem lw_p0 : lw_okq (⟨"FrameVerifier", "forgetVerification", "()V"⟩, 4) := ⟨⟨by decide +kernel, by decide +kernel⟩, List.mem_of_getElem? (i := 27) (by decide +kernel), List.mem_of_getElem? (i := 161) (by decide +kernel), List.mem_of_getElem? (i := 162) (by decide +kernel)⟩
theorem lw_p1 : lw_okq (⟨"FrameVerifier$Flow", "clear", "(I)V"⟩, 5) := ⟨⟨by decide +kernel, by decide +kernel⟩, List.mem_of_getElem? (i := 67) (by decide +kernel), List.mem_of_getElem? (i := 185) (by decide +kernel), List.mem_of_getElem? (i := 186) (by decide +kernel)⟩
theorem lw_p2 : lw_okq (⟨"FrameVerifier$Code", "kindOf", "(II)I"⟩, 7) := ⟨⟨by decide +kernel, by decide +kernel⟩, List.mem_of_getElem? (i := 35) (by decide +kernel), List.mem_of_getElem? (i := 201) (by decide +kernel), List.mem_of_getElem? (i := 202) (by decide +kernel)⟩
theorem lw_p3 : lw_okq (⟨"FrameVerifier$Flow", "meet", "(III)V"⟩, 5) := ⟨⟨by decide +kernel, by decide +kernel⟩, List.mem_of_getElem? (i := 67) (by decide +kernel), List.mem_of_getElem? (i := 208) (by decide +kernel), List.mem_of_getElem? (i := 209) (by decide +kernel)⟩
theorem lw_p4 : lw_okq (⟨"FrameVerifier$Flow", "takeLeastWaiting", "()I"⟩, 5) := ⟨⟨by decide +kernel, by decide +kernel⟩, List.mem_of_getElem? (i := 67) (by decide +kernel), List.mem_of_getElem? (i := 225) (by decide +kernel), List.mem_of_getElem? (i := 226) (by decide +kernel)⟩
theorem lw_p5 : lw_okq (⟨"FrameVerifier$Flow", "goOn", "(II)V"⟩, 5) := ⟨⟨by decide +kernel, by decide +kernel⟩, List.mem_of_getElem? (i := 67) (by decide +kernel), List.mem_of_getElem? (i := 229) (by decide +kernel), List.mem_of_getElem? (i := 230) (by decide +kernel)⟩
theorem lw_p6 : lw_okq (⟨"FrameVerifier$Code", "hasOp", "(I)Z"⟩, 7) := ⟨⟨by decide +kernel, by decide +kernel⟩, List.mem_of_getElem? (i := 35) (by decide +kernel), List.mem_of_getElem? (i := 237) (by decide +kernel), List.mem_of_getElem? (i := 238) (by decide +kernel)⟩
theorem lw_p7 : lw_okq (⟨"FrameVerifier$Code", "numberFits", "(LFrameVerifier$Op;II)Z"⟩, 7) := ⟨⟨by decide +kernel, by decide +kernel⟩, List.mem_of_getElem? (i := 35) (by decide +kernel), List.mem_of_getElem? (i := 248) (by decide +kernel), List.mem_of_getElem? (i := 249) (by decide +kernel)⟩
theorem lw_p8 : lw_okq (⟨"FrameVerifier$Code", "takenFits", "(ILFrameVerifier$Op;II)Z"⟩, 7) := ⟨⟨by decide +kernel, by decide +kernel⟩, List.mem_of_getElem? (i := 35) (by decide +kernel), List.mem_of_getElem? (i := 275) (by decide +kernel), List.mem_of_getElem? (i := 276) (by decide +kernel)⟩
theorem lw_p9 : lw_okq (⟨"FrameVerifier$Code", "takenCount", "(LFrameVerifier$Op;I)I"⟩, 7) := ⟨⟨by decide +kernel, by decide +kernel⟩, List.mem_of_getElem? (i := 35) (by decide +kernel), List.mem_of_getElem? (i := 279) (by decide +kernel), List.mem_of_getElem? (i := 280) (by decide +kernel)⟩
theorem lw_p10 : lw_okq (⟨"FrameVerifier$Code", "wantedBelow", "(ILFrameVerifier$Op;II)I"⟩, 7) := ⟨⟨by decide +kernel, by decide +kernel⟩, List.mem_of_getElem? (i := 35) (by decide +kernel), List.mem_of_getElem? (i := 296) (by decide +kernel), List.mem_of_getElem? (i := 297) (by decide +kernel)⟩
theorem lw_p11 : lw_okq (⟨"FrameVerifier$Machine", "openFrame", "(I)LFrameVerifier$Frame;"⟩, 6) := ⟨⟨by decide +kernel, by decide +kernel⟩, List.mem_of_getElem? (i := 91) (by decide +kernel), List.mem_of_getElem? (i := 393) (by decide +kernel), List.mem_of_getElem? (i := 394) (by decide +kernel)⟩
theorem lw_p12 : lw_okq (⟨"FrameVerifier", "aboutTopFrame", "(I)I"⟩, 4) := ⟨⟨by decide +kernel, by decide +kernel⟩, List.mem_of_getElem? (i := 27) (by decide +kernel), List.mem_of_getElem? (i := 419) (by decide +kernel), List.mem_of_getElem? (i := 420) (by decide +kernel)⟩
theorem lw_p13 : lw_okq (⟨"java/lang/Throwable", "fillInStackTrace", "(I)Ljava/lang/Throwable;"⟩, 6) := ⟨⟨by decide +kernel, by decide +kernel⟩, List.mem_of_getElem? (i := 487) (by decide +kernel), List.mem_of_getElem? (i := 485) (by decide +kernel), List.mem_of_getElem? (i := 486) (by decide +kernel)⟩
theorem lw_p14 : lw_okq (⟨"FrameVerifier$Machine", "trapOf", "(LFrameVerifier$Frame;)LFrameVerifier$Trap;"⟩, 6) := ⟨⟨by decide +kernel, by decide +kernel⟩, List.mem_of_getElem? (i := 91) (by decide +kernel), List.mem_of_getElem? (i := 532) (by decide +kernel), List.mem_of_getElem? (i := 533) (by decide +kernel)⟩
theorem lw_p15 : lw_okq (⟨"FrameVerifier$Machine", "canMake", "(I)Z"⟩, 6) := ⟨⟨by decide +kernel, by decide +kernel⟩, List.mem_of_getElem? (i := 91) (by decide +kernel), List.mem_of_getElem? (i := 561) (by decide +kernel), List.mem_of_getElem? (i := 562) (by decide +kernel)⟩
def lw_privs_1 : List (MethodName × Nat) := [(⟨"FrameVerifier", "forgetVerification", "()V"⟩, 4), (⟨"FrameVerifier$Flow", "clear", "(I)V"⟩, 5), (⟨"FrameVerifier$Code", "kindOf", "(II)I"⟩, 7), (⟨"FrameVerifier$Flow", "meet", "(III)V"⟩, 5), (⟨"FrameVerifier$Flow", "takeLeastWaiting", "()I"⟩, 5), (⟨"FrameVerifier$Flow", "goOn", "(II)V"⟩, 5), (⟨"FrameVerifier$Code", "hasOp", "(I)Z"⟩, 7), (⟨"FrameVerifier$Code", "numberFits", "(LFrameVerifier$Op;II)Z"⟩, 7), (⟨"FrameVerifier$Code", "takenFits", "(ILFrameVerifier$Op;II)Z"⟩, 7), (⟨"FrameVerifier$Code", "takenCount", "(LFrameVerifier$Op;I)I"⟩, 7), (⟨"FrameVerifier$Code", "wantedBelow", "(ILFrameVerifier$Op;II)I"⟩, 7), (⟨"FrameVerifier$Machine", "openFrame", "(I)LFrameVerifier$Frame;"⟩, 6), (⟨"FrameVerifier", "aboutTopFrame", "(I)I"⟩, 4), (⟨"java/lang/Throwable", "fillInStackTrace", "(I)Ljava/lang/Throwable;"⟩, 6), (⟨"FrameVerifier$Machine", "trapOf", "(LFrameVerifier$Frame;)LFrameVerifier$Trap;"⟩, 6), (⟨"FrameVerifier$Machine", "canMake", "(I)Z"⟩, 6)]
theorem lw_r1 : ∀ q ∈ lw_privs_1, lw_okq q := List.forall_mem_cons.mpr ⟨lw_p0, List.forall_mem_cons.mpr ⟨lw_p1, List.forall_mem_cons.mpr ⟨lw_p2, List.forall_mem_cons.mpr ⟨lw_p3, List.forall_mem_cons.mpr ⟨lw_p4, List.forall_mem_cons.mpr ⟨lw_p5, List.forall_mem_cons.mpr ⟨lw_p6, List.forall_mem_cons.mpr ⟨lw_p7, List.forall_mem_cons.mpr ⟨lw_p8, List.forall_mem_cons.mpr ⟨lw_p9, List.forall_mem_cons.mpr ⟨lw_p10, List.forall_mem_cons.mpr ⟨lw_p11, List.forall_mem_cons.mpr ⟨lw_p12, List.forall_mem_cons.mpr ⟨lw_p13, List.forall_mem_cons.mpr ⟨lw_p14, List.forall_mem_cons.mpr ⟨lw_p15, fun _ h => absurd h List.not_mem_nil⟩⟩⟩⟩⟩⟩⟩⟩⟩⟩⟩⟩⟩⟩⟩⟩
theorem lw_p16 : lw_okq (⟨"FrameVerifier$Machine", "act", "(LFrameVerifier$Frame;LFrameVerifier$Op;I)V"⟩, 6) := ⟨⟨by decide +kernel, by decide +kernel⟩, List.mem_of_getElem? (i := 91) (by decide +kernel), List.mem_of_getElem? (i := 649) (by decide +kernel), List.mem_of_getElem? (i := 650) (by decide +kernel)⟩
theorem lw_p17 : lw_okq (⟨"FrameVerifier$Machine", "useArray", "(LFrameVerifier$Frame;LFrameVerifier$Op;)V"⟩, 6) := ⟨⟨by decide +kernel, by decide +kernel⟩, List.mem_of_getElem? (i := 91) (by decide +kernel), List.mem_of_getElem? (i := 664) (by decide +kernel), List.mem_of_getElem? (i := 665) (by decide +kernel)⟩
theorem lw_p18 : lw_okq (⟨"FrameVerifier$Machine", "makeArray", "(I)I"⟩, 6) := ⟨⟨by decide +kernel, by decide +kernel⟩, List.mem_of_getElem? (i := 91) (by decide +kernel), List.mem_of_getElem? (i := 668) (by decide +kernel), List.mem_of_getElem? (i := 669) (by decide +kernel)⟩
theorem lw_p19 : lw_okq (⟨"FrameVerifier$Machine", "enter", "(LFrameVerifier$Frame;I)V"⟩, 6) := ⟨⟨by decide +kernel, by decide +kernel⟩, List.mem_of_getElem? (i := 91) (by decide +kernel), List.mem_of_getElem? (i := 675) (by decide +kernel), List.mem_of_getElem? (i := 676) (by decide +kernel)⟩
theorem lw_p20 : lw_okq (⟨"FrameVerifier$Machine", "leave", "(LFrameVerifier$Frame;)V"⟩, 6) := ⟨⟨by decide +kernel, by decide +kernel⟩, List.mem_of_getElem? (i := 91) (by decide +kernel), List.mem_of_getElem? (i := 683) (by decide +kernel), List.mem_of_getElem? (i := 684) (by decide +kernel)⟩
theorem lw_p21 : lw_okq (⟨"FrameVerifierModel", "work", "(I)I"⟩, 27) := ⟨⟨by decide +kernel, by decide +kernel⟩, List.mem_of_getElem? (i := 736) (by decide +kernel), List.mem_of_getElem? (i := 840) (by decide +kernel), List.mem_of_getElem? (i := 841) (by decide +kernel)⟩
theorem lw_p22 : lw_okq (⟨"FrameVerifierModel", "isAddress", "(I)Z"⟩, 27) := ⟨⟨by decide +kernel, by decide +kernel⟩, List.mem_of_getElem? (i := 736) (by decide +kernel), List.mem_of_getElem? (i := 844) (by decide +kernel), List.mem_of_getElem? (i := 845) (by decide +kernel)⟩
theorem lw_p23 : lw_okq (⟨"FrameVerifierModel", "kindOf", "(II)I"⟩, 27) := ⟨⟨by decide +kernel, by decide +kernel⟩, List.mem_of_getElem? (i := 736) (by decide +kernel), List.mem_of_getElem? (i := 848) (by decide +kernel), List.mem_of_getElem? (i := 849) (by decide +kernel)⟩
theorem lw_p24 : lw_okq (⟨"FrameVerifierModel", "meet", "(II)V"⟩, 27) := ⟨⟨by decide +kernel, by decide +kernel⟩, List.mem_of_getElem? (i := 736) (by decide +kernel), List.mem_of_getElem? (i := 852) (by decide +kernel), List.mem_of_getElem? (i := 853) (by decide +kernel)⟩
theorem lw_p25 : lw_okq (⟨"FrameVerifierModel", "fits", "(II)Z"⟩, 27) := ⟨⟨by decide +kernel, by decide +kernel⟩, List.mem_of_getElem? (i := 736) (by decide +kernel), List.mem_of_getElem? (i := 856) (by decide +kernel), List.mem_of_getElem? (i := 857) (by decide +kernel)⟩
theorem lw_p26 : lw_okq (⟨"FrameVerifierModel", "tryOut", "(II)V"⟩, 27) := ⟨⟨by decide +kernel, by decide +kernel⟩, List.mem_of_getElem? (i := 736) (by decide +kernel), List.mem_of_getElem? (i := 860) (by decide +kernel), List.mem_of_getElem? (i := 861) (by decide +kernel)⟩
theorem lw_p27 : lw_okq (⟨"FrameVerifierModel", "take", "(I)I"⟩, 27) := ⟨⟨by decide +kernel, by decide +kernel⟩, List.mem_of_getElem? (i := 736) (by decide +kernel), List.mem_of_getElem? (i := 864) (by decide +kernel), List.mem_of_getElem? (i := 865) (by decide +kernel)⟩
theorem lw_p28 : lw_okq (⟨"FrameVerifierModel", "give", "(I)V"⟩, 27) := ⟨⟨by decide +kernel, by decide +kernel⟩, List.mem_of_getElem? (i := 736) (by decide +kernel), List.mem_of_getElem? (i := 868) (by decide +kernel), List.mem_of_getElem? (i := 869) (by decide +kernel)⟩
theorem lw_p29 : lw_okq (⟨"FrameVerifierModel", "tryLocal", "(II)V"⟩, 27) := ⟨⟨by decide +kernel, by decide +kernel⟩, List.mem_of_getElem? (i := 736) (by decide +kernel), List.mem_of_getElem? (i := 872) (by decide +kernel), List.mem_of_getElem? (i := 873) (by decide +kernel)⟩
theorem lw_p30 : lw_okq (⟨"FrameVerifierModel", "tryGo", "(II)V"⟩, 27) := ⟨⟨by decide +kernel, by decide +kernel⟩, List.mem_of_getElem? (i := 736) (by decide +kernel), List.mem_of_getElem? (i := 876) (by decide +kernel), List.mem_of_getElem? (i := 877) (by decide +kernel)⟩
theorem lw_p31 : lw_okq (⟨"FrameVerifierModel", "goTo", "(I)V"⟩, 27) := ⟨⟨by decide +kernel, by decide +kernel⟩, List.mem_of_getElem? (i := 736) (by decide +kernel), List.mem_of_getElem? (i := 880) (by decide +kernel), List.mem_of_getElem? (i := 881) (by decide +kernel)⟩
def lw_privs_2 : List (MethodName × Nat) := [(⟨"FrameVerifier$Machine", "act", "(LFrameVerifier$Frame;LFrameVerifier$Op;I)V"⟩, 6), (⟨"FrameVerifier$Machine", "useArray", "(LFrameVerifier$Frame;LFrameVerifier$Op;)V"⟩, 6), (⟨"FrameVerifier$Machine", "makeArray", "(I)I"⟩, 6), (⟨"FrameVerifier$Machine", "enter", "(LFrameVerifier$Frame;I)V"⟩, 6), (⟨"FrameVerifier$Machine", "leave", "(LFrameVerifier$Frame;)V"⟩, 6), (⟨"FrameVerifierModel", "work", "(I)I"⟩, 27), (⟨"FrameVerifierModel", "isAddress", "(I)Z"⟩, 27), (⟨"FrameVerifierModel", "kindOf", "(II)I"⟩, 27), (⟨"FrameVerifierModel", "meet", "(II)V"⟩, 27), (⟨"FrameVerifierModel", "fits", "(II)Z"⟩, 27), (⟨"FrameVerifierModel", "tryOut", "(II)V"⟩, 27), (⟨"FrameVerifierModel", "take", "(I)I"⟩, 27), (⟨"FrameVerifierModel", "give", "(I)V"⟩, 27), (⟨"FrameVerifierModel", "tryLocal", "(II)V"⟩, 27), (⟨"FrameVerifierModel", "tryGo", "(II)V"⟩, 27), (⟨"FrameVerifierModel", "goTo", "(I)V"⟩, 27)]
theorem lw_r2 : ∀ q ∈ lw_privs_2, lw_okq q := List.forall_mem_cons.mpr ⟨lw_p16, List.forall_mem_cons.mpr ⟨lw_p17, List.forall_mem_cons.mpr ⟨lw_p18, List.forall_mem_cons.mpr ⟨lw_p19, List.forall_mem_cons.mpr ⟨lw_p20, List.forall_mem_cons.mpr ⟨lw_p21, List.forall_mem_cons.mpr ⟨lw_p22, List.forall_mem_cons.mpr ⟨lw_p23, List.forall_mem_cons.mpr ⟨lw_p24, List.forall_mem_cons.mpr ⟨lw_p25, List.forall_mem_cons.mpr ⟨lw_p26, List.forall_mem_cons.mpr ⟨lw_p27, List.forall_mem_cons.mpr ⟨lw_p28, List.forall_mem_cons.mpr ⟨lw_p29, List.forall_mem_cons.mpr ⟨lw_p30, List.forall_mem_cons.mpr ⟨lw_p31, fun _ h => absurd h List.not_mem_nil⟩⟩⟩⟩⟩⟩⟩⟩⟩⟩⟩⟩⟩⟩⟩⟩
theorem lw_p32 : lw_okq (⟨"FrameVerifierModel", "tryArray", "(I)V"⟩, 27) := ⟨⟨by decide +kernel, by decide +kernel⟩, List.mem_of_getElem? (i := 736) (by decide +kernel), List.mem_of_getElem? (i := 884) (by decide +kernel), List.mem_of_getElem? (i := 885) (by decide +kernel)⟩
theorem lw_p33 : lw_okq (⟨"FrameVerifierModel", "tryPlaces", "(I)V"⟩, 27) := ⟨⟨by decide +kernel, by decide +kernel⟩, List.mem_of_getElem? (i := 736) (by decide +kernel), List.mem_of_getElem? (i := 888) (by decide +kernel), List.mem_of_getElem? (i := 889) (by decide +kernel)⟩
theorem lw_p34 : lw_okq (⟨"FrameVerifierModel", "tryCall", "(I)V"⟩, 27) := ⟨⟨by decide +kernel, by decide +kernel⟩, List.mem_of_getElem? (i := 736) (by decide +kernel), List.mem_of_getElem? (i := 892) (by decide +kernel), List.mem_of_getElem? (i := 893) (by decide +kernel)⟩
theorem lw_p35 : lw_okq (⟨"FrameVerifierModel", "enter", "(I)V"⟩, 27) := ⟨⟨by decide +kernel, by decide +kernel⟩, List.mem_of_getElem? (i := 736) (by decide +kernel), List.mem_of_getElem? (i := 908) (by decide +kernel), List.mem_of_getElem? (i := 909) (by decide +kernel)⟩
theorem lw_p36 : lw_okq (⟨"FrameVerifierModel", "stepOnce", "()Z"⟩, 27) := ⟨⟨by decide +kernel, by decide +kernel⟩, List.mem_of_getElem? (i := 736) (by decide +kernel), List.mem_of_getElem? (i := 916) (by decide +kernel), List.mem_of_getElem? (i := 917) (by decide +kernel)⟩
theorem lw_p37 : lw_okq (⟨"FrameVerifierModel", "fitsValues", "(I)Z"⟩, 27) := ⟨⟨by decide +kernel, by decide +kernel⟩, List.mem_of_getElem? (i := 736) (by decide +kernel), List.mem_of_getElem? (i := 920) (by decide +kernel), List.mem_of_getElem? (i := 921) (by decide +kernel)⟩
theorem lw_p38 : lw_okq (⟨"FrameVerifierModel", "trapOf", "(II)I"⟩, 27) := ⟨⟨by decide +kernel, by decide +kernel⟩, List.mem_of_getElem? (i := 736) (by decide +kernel), List.mem_of_getElem? (i := 924) (by decide +kernel), List.mem_of_getElem? (i := 925) (by decide +kernel)⟩
theorem lw_p39 : lw_okq (⟨"FrameVerifierModel", "below", "(I)I"⟩, 27) := ⟨⟨by decide +kernel, by decide +kernel⟩, List.mem_of_getElem? (i := 736) (by decide +kernel), List.mem_of_getElem? (i := 928) (by decide +kernel), List.mem_of_getElem? (i := 929) (by decide +kernel)⟩
theorem lw_p40 : lw_okq (⟨"FrameVerifierModel", "perform", "(I)V"⟩, 27) := ⟨⟨by decide +kernel, by decide +kernel⟩, List.mem_of_getElem? (i := 736) (by decide +kernel), List.mem_of_getElem? (i := 938) (by decide +kernel), List.mem_of_getElem? (i := 939) (by decide +kernel)⟩
theorem lw_p41 : lw_okq (⟨"FrameVerifierModel", "put", "(II)V"⟩, 27) := ⟨⟨by decide +kernel, by decide +kernel⟩, List.mem_of_getElem? (i := 736) (by decide +kernel), List.mem_of_getElem? (i := 942) (by decide +kernel), List.mem_of_getElem? (i := 943) (by decide +kernel)⟩
theorem lw_p42 : lw_okq (⟨"FrameVerifierModel", "calculate", "(I)V"⟩, 27) := ⟨⟨by decide +kernel, by decide +kernel⟩, List.mem_of_getElem? (i := 736) (by decide +kernel), List.mem_of_getElem? (i := 946) (by decide +kernel), List.mem_of_getElem? (i := 947) (by decide +kernel)⟩
theorem lw_p43 : lw_okq (⟨"FrameVerifierModel", "drop", "(I)V"⟩, 27) := ⟨⟨by decide +kernel, by decide +kernel⟩, List.mem_of_getElem? (i := 736) (by decide +kernel), List.mem_of_getElem? (i := 950) (by decide +kernel), List.mem_of_getElem? (i := 951) (by decide +kernel)⟩
theorem lw_p44 : lw_okq (⟨"FrameVerifierModel", "onArrays", "(I)V"⟩, 27) := ⟨⟨by decide +kernel, by decide +kernel⟩, List.mem_of_getElem? (i := 736) (by decide +kernel), List.mem_of_getElem? (i := 954) (by decide +kernel), List.mem_of_getElem? (i := 955) (by decide +kernel)⟩
theorem lw_p45 : lw_okq (⟨"FrameVerifierModel", "call", "(I)V"⟩, 27) := ⟨⟨by decide +kernel, by decide +kernel⟩, List.mem_of_getElem? (i := 736) (by decide +kernel), List.mem_of_getElem? (i := 958) (by decide +kernel), List.mem_of_getElem? (i := 959) (by decide +kernel)⟩
theorem lw_p46 : lw_okq (⟨"FrameVerifierModel", "giveBack", "()V"⟩, 27) := ⟨⟨by decide +kernel, by decide +kernel⟩, List.mem_of_getElem? (i := 736) (by decide +kernel), List.mem_of_getElem? (i := 962) (by decide +kernel), List.mem_of_getElem? (i := 963) (by decide +kernel)⟩
theorem lw_p47 : lw_okq (⟨"FrameVerifierModel", "onPlaces", "(II)V"⟩, 27) := ⟨⟨by decide +kernel, by decide +kernel⟩, List.mem_of_getElem? (i := 736) (by decide +kernel), List.mem_of_getElem? (i := 969) (by decide +kernel), List.mem_of_getElem? (i := 970) (by decide +kernel)⟩
def lw_privs_3 : List (MethodName × Nat) := [(⟨"FrameVerifierModel", "tryArray", "(I)V"⟩, 27), (⟨"FrameVerifierModel", "tryPlaces", "(I)V"⟩, 27), (⟨"FrameVerifierModel", "tryCall", "(I)V"⟩, 27), (⟨"FrameVerifierModel", "enter", "(I)V"⟩, 27), (⟨"FrameVerifierModel", "stepOnce", "()Z"⟩, 27), (⟨"FrameVerifierModel", "fitsValues", "(I)Z"⟩, 27), (⟨"FrameVerifierModel", "trapOf", "(II)I"⟩, 27), (⟨"FrameVerifierModel", "below", "(I)I"⟩, 27), (⟨"FrameVerifierModel", "perform", "(I)V"⟩, 27), (⟨"FrameVerifierModel", "put", "(II)V"⟩, 27), (⟨"FrameVerifierModel", "calculate", "(I)V"⟩, 27), (⟨"FrameVerifierModel", "drop", "(I)V"⟩, 27), (⟨"FrameVerifierModel", "onArrays", "(I)V"⟩, 27), (⟨"FrameVerifierModel", "call", "(I)V"⟩, 27), (⟨"FrameVerifierModel", "giveBack", "()V"⟩, 27), (⟨"FrameVerifierModel", "onPlaces", "(II)V"⟩, 27)]
theorem lw_r3 : ∀ q ∈ lw_privs_3, lw_okq q := List.forall_mem_cons.mpr ⟨lw_p32, List.forall_mem_cons.mpr ⟨lw_p33, List.forall_mem_cons.mpr ⟨lw_p34, List.forall_mem_cons.mpr ⟨lw_p35, List.forall_mem_cons.mpr ⟨lw_p36, List.forall_mem_cons.mpr ⟨lw_p37, List.forall_mem_cons.mpr ⟨lw_p38, List.forall_mem_cons.mpr ⟨lw_p39, List.forall_mem_cons.mpr ⟨lw_p40, List.forall_mem_cons.mpr ⟨lw_p41, List.forall_mem_cons.mpr ⟨lw_p42, List.forall_mem_cons.mpr ⟨lw_p43, List.forall_mem_cons.mpr ⟨lw_p44, List.forall_mem_cons.mpr ⟨lw_p45, List.forall_mem_cons.mpr ⟨lw_p46, List.forall_mem_cons.mpr ⟨lw_p47, fun _ h => absurd h List.not_mem_nil⟩⟩⟩⟩⟩⟩⟩⟩⟩⟩⟩⟩⟩⟩⟩⟩
def lw_privs : List (MethodName × Nat) := lw_privs_1 ++ (lw_privs_2 ++ (lw_privs_3))
def lw_tbl : List Cond := k2_sels lw_privs ++ tables_1
theorem lw_privs_ok : ∀ q ∈ lw_privs, lw_okq q := by
  show ∀ q ∈ lw_privs_1 ++ (lw_privs_2 ++ (lw_privs_3)), lw_okq q
  exact List.forall_mem_append.mpr ⟨lw_r1, List.forall_mem_append.mpr ⟨lw_r2, lw_r3⟩⟩
end
section
/-! part 02: a world of consecutive cells whose ints are one function; the judgement vv (walk with the answer's function); a row an instruction -/
abbrev mm_M : Type := Nat → Nat → Int32
def mm_wl (b N : Nat) (c : Nat → va_E) : va_W := (List.range N).map (fun k => (b + k, c k))
theorem mm_len {b N : Nat} {c : Nat → va_E} : (mm_wl b N c).length = N := by simp [mm_wl]
theorem mm_get {b N k : Nat} {c : Nat → va_E} (h : k < N) : (mm_wl b N c)[k]? = some (b + k, c k) := by
  simp [mm_wl, h]
theorem mm_set {b N k : Nat} {c : Nat → va_E} {e : va_E} : (mm_wl b N c).set k (b + k, e) = mm_wl b N (va_up c k e) := by
  apply List.ext_getElem?
  intro j
  by_cases hj : j < N
  · rw [mm_get hj]
    by_cases h : j = k
    · subst h
      rw [List.getElem?_set_self (by rw [mm_len]; exact hj), va_up_self]
    · rw [List.getElem?_set_ne (Ne.symm h), mm_get hj, va_up_ne _ _ h]
  · rw [List.getElem?_eq_none (by rw [List.length_set, mm_len]; omega), List.getElem?_eq_none (by rw [mm_len]; omega)]
def mm_A (b N : Nat) : Nat → Prop := fun q => b ≤ q ∧ q < b + N
theorem mm_key {b N : Nat} {c : Nat → va_E} {k : Nat} {q : Nat × va_E} (hk : (mm_wl b N c)[k]? = some q) : k < N ∧ q = (b + k, c k) := by
  have hl := (List.getElem?_eq_some_iff.mp hk).1
  rw [mm_len] at hl
  rw [mm_get hl] at hk
  cases hk
  exact ⟨hl, rfl⟩
theorem mm_D {b N : Nat} {c : Nat → va_E} : va_D (mm_A b N) (mm_wl b N c) := by
  refine ⟨fun i j x y hi hj hxy => ?_, fun k q hk => ?_⟩
  · obtain ⟨h1, rfl⟩ := mm_key hi
    obtain ⟨h2, rfl⟩ := mm_key hj
    simp only at hxy
    omega
  · obtain ⟨h1, rfl⟩ := mm_key hk
    exact ⟨Nat.le_add_right _ _, Nat.add_lt_add_left h1 _⟩
def mm_P (D : va_G) (cl : List vw_C) (b N : Nat) (ce : Nat → (Nat → Int32) → va_E) (σ : mm_M) (H : Heap) : Prop := va_P D cl (mm_wl b N (fun k => ce k (σ k))) H
theorem mm_P.put {D : va_G} {cl : List vw_C} {b N k : Nat} {ce : Nat → (Nat → Int32) → va_E} {σ : mm_M} {H : Heap} {e : va_E} (f : Nat → Int32) (he : e = ce k f) (h : va_P D cl ((mm_wl b N (fun k => ce k (σ k))).set k (b + k, e)) H) : mm_P D cl b N ce (va_up σ k f) H := by
  rw [mm_set] at h
  have e1 : va_up (fun k => ce k (σ k)) k e = fun j => ce j (va_up σ k f j) := by
    funext j
    by_cases hj : j = k
    · subst hj
      rw [va_up_self, va_up_self, he]
    · rw [va_up_ne _ _ hj, va_up_ne _ _ hj]
  rw [e1] at h
  exact h
/-- the locals by their places; none: nothing is known of it -/
def lo_ok (ls : Array Slot) (nL : Nat) (L : List (Option Value)) : Prop := ls.size = nL ∧ lv_wf ls ∧ ∀ (i : Nat) (v : Value), L[i]? = some (some v) → v.category = 1 ∧ ls[i]? = some (.val v)
def lo_li (L : List (Option Value)) : List (Nat × Value) := (List.range L.length).filterMap (fun i => (L[i]?.join).map (fun v => (i, v)))
theorem lo_mem {L : List (Option Value)} {i : Nat} {v : Value} : (i, v) ∈ lo_li L ↔ L[i]? = some (some v) := by
  unfold lo_li
  rw [List.mem_filterMap]
  constructor
  · rintro ⟨j, hj, h⟩
    cases hq : L[j]? with
    | none => rw [hq] at h; cases h
    | some w =>
      cases w with
      | none => rw [hq] at h; cases h
      | some z =>
        rw [hq] at h
        simp at h
        obtain ⟨rfl, rfl⟩ := h
        exact hq
  · intro h
    exact ⟨i, List.mem_range.mpr (List.getElem?_eq_some_iff.mp h).1, by rw [h]; rfl⟩
theorem lo_has {ls : Array Slot} {nL : Nat} {L : List (Option Value)} (h : lo_ok ls nL L) : lv_has ls nL (lo_li L) := ⟨h.1, h.2.1, fun q hq => (h.2.2 q.1 q.2 (lo_mem.mp hq)).2⟩
theorem lo_put {ls ls' : Array Slot} {nL i : Nat} {v : Value} {L : List (Option Value)} (h : lo_ok ls nL L) (hv : v.category = 1) (h2 : lv_has ls' nL ((i, v) :: (lo_li L).filter (fun q => !(q.1 == i) && !(q.1 + 1 == i && q.2.category == 2)))) : lo_ok ls' nL (L.set i (some v)) := by
  refine ⟨h2.1, h2.2.1, fun j w hj => ?_⟩
  by_cases hji : j = i
  · subst hji
    have hlt : j < (L.set j (some v)).length := (List.getElem?_eq_some_iff.mp hj).1
    rw [List.length_set] at hlt
    rw [List.getElem?_set_self hlt] at hj
    cases hj
    exact ⟨hv, h2.2.2 (j, v) List.mem_cons_self⟩
  · rw [List.getElem?_set_ne (Ne.symm hji)] at hj
    have h1 := (h.2.2 j w hj).1
    refine ⟨h1, h2.2.2 (j, w) (List.mem_cons_of_mem _ (List.mem_filter.mpr ⟨lo_mem.mpr hj, ?_⟩))⟩
    simp [hji, h1]
theorem lo_sub {ls : Array Slot} {nL : Nat} {L L' : List (Option Value)} (h : lo_ok ls nL L) (hs : ∀ (i : Nat) (v : Value), L'[i]? = some (some v) → L[i]? = some (some v)) : lo_ok ls nL L' := ⟨h.1, h.2.1, fun i v hi => h.2.2 i v (hs i v hi)⟩
/-- forgetting places: every place of L' says nothing, or what L says -/
def lo_le : List (Option Value) → List (Option Value) → Prop
  | [], _ => True
  | none :: t, _ :: t' => lo_le t t'
  | some v :: t, w :: t' => w = some v ∧ lo_le t t'
  | _ :: _, [] => False
theorem lo_le_get : ∀ (L' L : List (Option Value)), lo_le L' L → ∀ (i : Nat) (v : Value), L'[i]? = some (some v) → L[i]? = some (some v)
  | [], _, _, i, v, h => by simp at h
  | none :: t, w :: t', hl, i, v, h => by
    cases i with
    | zero => simp at h
    | succ i =>
      rw [List.getElem?_cons_succ] at h ⊢
      exact lo_le_get t t' hl i v h
  | some u :: t, w :: t', hl, i, v, h => by
    cases i with
    | zero =>
      rw [List.getElem?_cons_zero] at h ⊢
      cases h
      rw [hl.1]
    | succ i =>
      rw [List.getElem?_cons_succ] at h ⊢
      exact lo_le_get t t' hl.2 i v h
  | none :: t, [], hl, i, v, h => by cases hl
  | some u :: t, [], hl, i, v, h => by cases hl
def vv {Res : Type} (p : Program) (l : Launch) (e : Env) (R : Room) (s : State) (m : MethodId) (args : Array Value) (below : List Frame) (meth : Method) (c : Code) (D : va_G) (cl : List vw_C) (b N : Nat) (ce : Nat → (Nat → Int32) → va_E) (nL : Nat) (Q : State → Prop) (fin : Res) (k : Option Res) (σ : mm_M) (pc : Nat) (L : List (Option Value)) (st : List Value) : Prop :=
  k = some fin → ∀ (H : Heap) (locs : List Loc) (ls : Array Slot), lo_ok ls nL L → mm_P D cl b N ce σ H → va_S (mm_A b N) s.heap H locs → W p l e R s m args below meth c H locs 0 0 Q (F0 m pc ls st)
section VV1
variable {Res : Type} {p : Program} {l : Launch} {e : Env} {R : Room} {s : State} {m : MethodId} {args : Array Value} {below : List Frame} {meth : Method} {c : Code} {D : va_G} {cl : List vw_C} {b N : Nat} {ce : Nat → (Nat → Int32) → va_E} {nL : Nat} {Q : State → Prop} {fin : Res} {k A B : Option Res} {σ : mm_M} {pc : Nat} {L L2 : List (Option Value)} {rest : List Value} {cc : ByteArray} {Ts : List Cond} {own : String}
theorem v_iconst (S : CallFix p m c cc nL s args Ts own) {n : Int} {v : Int32} (d : decode cc pc = .ok (.iconst n, 1)) (hv : Int32.ofInt n = v)
    (kk : vv p l e R s m args below meth c D cl b N ce nL Q fin k σ (pc + 1) L (.int v :: rest)) : vv p l e R s m args below meth c D cl b N ce nL Q fin k σ pc L rest := fun hk H locs ls hl hP hS => lv_iconst S.1 S.2.1 d hv (kk hk H locs ls hl hP hS)
theorem v_bipush (S : CallFix p m c cc nL s args Ts own) {n : Int} {v : Int32} (d : decode cc pc = .ok (.bipush n, 2)) (hv : (Int8.ofInt n).toInt32 = v)
    (kk : vv p l e R s m args below meth c D cl b N ce nL Q fin k σ (pc + 2) L (.int v :: rest)) : vv p l e R s m args below meth c D cl b N ce nL Q fin k σ pc L rest := fun hk H locs ls hl hP hS => lv_bipush S.1 S.2.1 d hv (kk hk H locs ls hl hP hS)
theorem v_sipush (S : CallFix p m c cc nL s args Ts own) {n : Int} {v : Int32} (d : decode cc pc = .ok (.sipush n, 3)) (hv : (Int16.ofInt n).toInt32 = v)
    (kk : vv p l e R s m args below meth c D cl b N ce nL Q fin k σ (pc + 3) L (.int v :: rest)) : vv p l e R s m args below meth c D cl b N ce nL Q fin k σ pc L rest := fun hk H locs ls hl hP hS => lv_sipush S.1 S.2.1 d hv (kk hk H locs ls hl hP hS)
theorem v_iload_n (S : CallFix p m c cc nL s args Ts own) {q : Fin 4} {i : Nat} {x : Int32} (d : decode cc pc = .ok (.iload_n q, 1)) (hi : (q : Nat) = i) (hL : L[i]? = some (some (.int x)))
    (kk : vv p l e R s m args below meth c D cl b N ce nL Q fin k σ (pc + 1) L (.int x :: rest)) : vv p l e R s m args below meth c D cl b N ce nL Q fin k σ pc L rest := fun hk H locs ls hl hP hS => lv_iload_n S.1 S.2.1 d hi (hl.2.2 _ _ hL).2 (kk hk H locs ls hl hP hS)
theorem v_iload (S : CallFix p m c cc nL s args Ts own) {i : Nat} {x : Int32} (d : decode cc pc = .ok (.iload i, 2)) (hL : L[i]? = some (some (.int x)))
    (kk : vv p l e R s m args below meth c D cl b N ce nL Q fin k σ (pc + 2) L (.int x :: rest)) : vv p l e R s m args below meth c D cl b N ce nL Q fin k σ pc L rest := fun hk H locs ls hl hP hS => lv_iload S.1 S.2.1 d (hl.2.2 _ _ hL).2 (kk hk H locs ls hl hP hS)
theorem v_aload_n (S : CallFix p m c cc nL s args Ts own) {q : Fin 4} {i : Nat} {x : Nat} (d : decode cc pc = .ok (.aload_n q, 1)) (hi : (q : Nat) = i) (hL : L[i]? = some (some (.ref x)))
    (kk : vv p l e R s m args below meth c D cl b N ce nL Q fin k σ (pc + 1) L (.ref x :: rest)) : vv p l e R s m args below meth c D cl b N ce nL Q fin k σ pc L rest := fun hk H locs ls hl hP hS => lv_aload_n S.1 S.2.1 d hi (hl.2.2 _ _ hL).2 (kk hk H locs ls hl hP hS)
theorem v_aload (S : CallFix p m c cc nL s args Ts own) {i : Nat} {x : Nat} (d : decode cc pc = .ok (.aload i, 2)) (hL : L[i]? = some (some (.ref x)))
    (kk : vv p l e R s m args below meth c D cl b N ce nL Q fin k σ (pc + 2) L (.ref x :: rest)) : vv p l e R s m args below meth c D cl b N ce nL Q fin k σ pc L rest := fun hk H locs ls hl hP hS => lv_aload S.1 S.2.1 d (hl.2.2 _ _ hL).2 (kk hk H locs ls hl hP hS)
theorem v_istore_n (S : CallFix p m c cc nL s args Ts own) {q : Fin 4} {i : Nat} {x : Int32} (d : decode cc pc = .ok (.istore_n q, 1)) (hi : (q : Nat) = i) (hn : i < nL) (hL : L.set i (some (.int x)) = L2)
    (kk : vv p l e R s m args below meth c D cl b N ce nL Q fin k σ (pc + 1) L2 rest) : vv p l e R s m args below meth c D cl b N ce nL Q fin k σ pc L (.int x :: rest) := fun hk H locs ls hl hP hS => lv_istore_n S.1 S.2.1 d hi (lo_has hl) hn rfl (fun ls' h2 => kk hk H locs ls' (hL ▸ lo_put hl rfl h2) hP hS)
theorem v_istore (S : CallFix p m c cc nL s args Ts own) {i : Nat} {x : Int32} (d : decode cc pc = .ok (.istore i, 2)) (hn : i < nL) (hL : L.set i (some (.int x)) = L2)
    (kk : vv p l e R s m args below meth c D cl b N ce nL Q fin k σ (pc + 2) L2 rest) : vv p l e R s m args below meth c D cl b N ce nL Q fin k σ pc L (.int x :: rest) := fun hk H locs ls hl hP hS => lv_istore S.1 S.2.1 d (lo_has hl) hn rfl (fun ls' h2 => kk hk H locs ls' (hL ▸ lo_put hl rfl h2) hP hS)
theorem v_astore_n (S : CallFix p m c cc nL s args Ts own) {q : Fin 4} {i : Nat} {x : Nat} (d : decode cc pc = .ok (.astore_n q, 1)) (hi : (q : Nat) = i) (hn : i < nL) (hL : L.set i (some (.ref x)) = L2)
    (kk : vv p l e R s m args below meth c D cl b N ce nL Q fin k σ (pc + 1) L2 rest) : vv p l e R s m args below meth c D cl b N ce nL Q fin k σ pc L (.ref x :: rest) := fun hk H locs ls hl hP hS => lv_astore_n S.1 S.2.1 d hi (lo_has hl) hn rfl (fun ls' h2 => kk hk H locs ls' (hL ▸ lo_put hl rfl h2) hP hS)
theorem v_astore (S : CallFix p m c cc nL s args Ts own) {i : Nat} {x : Nat} (d : decode cc pc = .ok (.astore i, 2)) (hn : i < nL) (hL : L.set i (some (.ref x)) = L2)
    (kk : vv p l e R s m args below meth c D cl b N ce nL Q fin k σ (pc + 2) L2 rest) : vv p l e R s m args below meth c D cl b N ce nL Q fin k σ pc L (.ref x :: rest) := fun hk H locs ls hl hP hS => lv_astore S.1 S.2.1 d (lo_has hl) hn rfl (fun ls' h2 => kk hk H locs ls' (hL ▸ lo_put hl rfl h2) hP hS)
theorem v_iinc (S : CallFix p m c cc nL s args Ts own) {i : Nat} {n : Int} {x v : Int32} (d : decode cc pc = .ok (.iinc i n, 3)) (hx : L[i]? = some (some (.int x))) (hv : x + Int32.ofInt n = v) (hn : i < nL) (hL : L.set i (some (.int v)) = L2)
    (kk : vv p l e R s m args below meth c D cl b N ce nL Q fin k σ (pc + 3) L2 rest) : vv p l e R s m args below meth c D cl b N ce nL Q fin k σ pc L rest := fun hk H locs ls hl hP hS => by
  obtain ⟨j, hj⟩ := List.getElem?_of_mem (lo_mem.mpr hx)
  exact lv_iinc S.1 S.2.1 d (lo_has hl) hj hv hn rfl (fun ls' h2 => kk hk H locs ls' (hL ▸ lo_put hl rfl h2) hP hS)
theorem v_iadd (S : CallFix p m c cc nL s args Ts own) {x y : Int32} (d : decode cc pc = .ok (.iadd, 1)) 
    (kk : vv p l e R s m args below meth c D cl b N ce nL Q fin k σ (pc + 1) L (.int (x + y) :: rest)) : vv p l e R s m args below meth c D cl b N ce nL Q fin k σ pc L (.int y :: .int x :: rest) := fun hk H locs ls hl hP hS => lv_iadd S.1 S.2.1 d (kk hk H locs ls hl hP hS)
theorem v_isub (S : CallFix p m c cc nL s args Ts own) {x y : Int32} (d : decode cc pc = .ok (.isub, 1)) 
    (kk : vv p l e R s m args below meth c D cl b N ce nL Q fin k σ (pc + 1) L (.int (x - y) :: rest)) : vv p l e R s m args below meth c D cl b N ce nL Q fin k σ pc L (.int y :: .int x :: rest) := fun hk H locs ls hl hP hS => lv_isub S.1 S.2.1 d (kk hk H locs ls hl hP hS)
theorem v_imul (S : CallFix p m c cc nL s args Ts own) {x y : Int32} (d : decode cc pc = .ok (.imul, 1)) 
    (kk : vv p l e R s m args below meth c D cl b N ce nL Q fin k σ (pc + 1) L (.int (x * y) :: rest)) : vv p l e R s m args below meth c D cl b N ce nL Q fin k σ pc L (.int y :: .int x :: rest) := fun hk H locs ls hl hP hS => lv_imul S.1 S.2.1 d (kk hk H locs ls hl hP hS)
theorem v_iand (S : CallFix p m c cc nL s args Ts own) {x y : Int32} (d : decode cc pc = .ok (.iand, 1)) 
    (kk : vv p l e R s m args below meth c D cl b N ce nL Q fin k σ (pc + 1) L (.int (x &&& y) :: rest)) : vv p l e R s m args below meth c D cl b N ce nL Q fin k σ pc L (.int y :: .int x :: rest) := fun hk H locs ls hl hP hS => lv_iand S.1 S.2.1 d (kk hk H locs ls hl hP hS)
theorem v_ior (S : CallFix p m c cc nL s args Ts own) {x y : Int32} (d : decode cc pc = .ok (.ior, 1)) 
    (kk : vv p l e R s m args below meth c D cl b N ce nL Q fin k σ (pc + 1) L (.int (x ||| y) :: rest)) : vv p l e R s m args below meth c D cl b N ce nL Q fin k σ pc L (.int y :: .int x :: rest) := fun hk H locs ls hl hP hS => lv_ior S.1 S.2.1 d (kk hk H locs ls hl hP hS)
theorem v_ixor (S : CallFix p m c cc nL s args Ts own) {x y : Int32} (d : decode cc pc = .ok (.ixor, 1)) 
    (kk : vv p l e R s m args below meth c D cl b N ce nL Q fin k σ (pc + 1) L (.int (x ^^^ y) :: rest)) : vv p l e R s m args below meth c D cl b N ce nL Q fin k σ pc L (.int y :: .int x :: rest) := fun hk H locs ls hl hP hS => lv_ixor S.1 S.2.1 d (kk hk H locs ls hl hP hS)
theorem v_ishl (S : CallFix p m c cc nL s args Ts own) {x y : Int32} (d : decode cc pc = .ok (.ishl, 1)) 
    (kk : vv p l e R s m args below meth c D cl b N ce nL Q fin k σ (pc + 1) L (.int (x <<< (y &&& 31)) :: rest)) : vv p l e R s m args below meth c D cl b N ce nL Q fin k σ pc L (.int y :: .int x :: rest) := fun hk H locs ls hl hP hS => lv_ishl S.1 S.2.1 d (kk hk H locs ls hl hP hS)
theorem v_ishr (S : CallFix p m c cc nL s args Ts own) {x y : Int32} (d : decode cc pc = .ok (.ishr, 1)) 
    (kk : vv p l e R s m args below meth c D cl b N ce nL Q fin k σ (pc + 1) L (.int (x >>> (y &&& 31)) :: rest)) : vv p l e R s m args below meth c D cl b N ce nL Q fin k σ pc L (.int y :: .int x :: rest) := fun hk H locs ls hl hP hS => lv_ishr S.1 S.2.1 d (kk hk H locs ls hl hP hS)
theorem v_ineg (S : CallFix p m c cc nL s args Ts own) {x : Int32} (d : decode cc pc = .ok (.ineg, 1)) 
    (kk : vv p l e R s m args below meth c D cl b N ce nL Q fin k σ (pc + 1) L (.int (-x) :: rest)) : vv p l e R s m args below meth c D cl b N ce nL Q fin k σ pc L (.int x :: rest) := fun hk H locs ls hl hP hS => lv_ineg S.1 S.2.1 d (kk hk H locs ls hl hP hS)
theorem v_idiv (S : CallFix p m c cc nL s args Ts own) {x y : Int32} (d : decode cc pc = .ok (.idiv, 1))
    (kk : ¬ y = 0 → vv p l e R s m args below meth c D cl b N ce nL Q fin k σ (pc + 1) L (.int (x / y) :: rest)) : vv p l e R s m args below meth c D cl b N ce nL Q fin (if y = 0 then none else k) σ pc L (.int y :: .int x :: rest) := fun hk H locs ls hl hP hS => by
  by_cases h : y = 0
  · rw [if_pos h] at hk; cases hk
  · rw [if_neg h] at hk
    exact lv_idiv S.1 S.2.1 d h (kk h hk H locs ls hl hP hS)
theorem v_irem (S : CallFix p m c cc nL s args Ts own) {x y : Int32} (d : decode cc pc = .ok (.irem, 1))
    (kk : ¬ y = 0 → vv p l e R s m args below meth c D cl b N ce nL Q fin k σ (pc + 1) L (.int (x - x / y * y) :: rest)) : vv p l e R s m args below meth c D cl b N ce nL Q fin (if y = 0 then none else k) σ pc L (.int y :: .int x :: rest) := fun hk H locs ls hl hP hS => by
  by_cases h : y = 0
  · rw [if_pos h] at hk; cases hk
  · rw [if_neg h] at hk
    exact lv_irem S.1 S.2.1 d h (kk h hk H locs ls hl hP hS)
theorem v_dup (S : CallFix p m c cc nL s args Ts own) {va : Value} (d : decode cc pc = .ok (.dup, 1)) (hva : va.category = 1)
    (kk : vv p l e R s m args below meth c D cl b N ce nL Q fin k σ (pc + 1) L (va :: va :: rest)) : vv p l e R s m args below meth c D cl b N ce nL Q fin k σ pc L (va :: rest) := fun hk H locs ls hl hP hS => lv_dup S.1 S.2.1 d hva (kk hk H locs ls hl hP hS)
theorem v_pop (S : CallFix p m c cc nL s args Ts own) {va : Value} (d : decode cc pc = .ok (.pop, 1)) (hva : va.category = 1)
    (kk : vv p l e R s m args below meth c D cl b N ce nL Q fin k σ (pc + 1) L rest) : vv p l e R s m args below meth c D cl b N ce nL Q fin k σ pc L (va :: rest) := fun hk H locs ls hl hP hS => lv_pop S.1 S.2.1 d hva (kk hk H locs ls hl hP hS)
theorem v_dup_x1 (S : CallFix p m c cc nL s args Ts own) {va vb : Value} (d : decode cc pc = .ok (.dup_x1, 1)) (hva : va.category = 1) (hvb : vb.category = 1)
    (kk : vv p l e R s m args below meth c D cl b N ce nL Q fin k σ (pc + 1) L (va :: vb :: va :: rest)) : vv p l e R s m args below meth c D cl b N ce nL Q fin k σ pc L (va :: vb :: rest) := fun hk H locs ls hl hP hS => lv_dup_x1 S.1 S.2.1 d hva hvb (kk hk H locs ls hl hP hS)
theorem v_dup2 (S : CallFix p m c cc nL s args Ts own) {va vb : Value} (d : decode cc pc = .ok (.dup2, 1)) (hva : va.category = 1) (hvb : vb.category = 1)
    (kk : vv p l e R s m args below meth c D cl b N ce nL Q fin k σ (pc + 1) L (va :: vb :: va :: vb :: rest)) : vv p l e R s m args below meth c D cl b N ce nL Q fin k σ pc L (va :: vb :: rest) := fun hk H locs ls hl hP hS => lv_dup2_11 S.1 S.2.1 d hva hvb (kk hk H locs ls hl hP hS)
theorem v_if_eq (S : CallFix p m c cc nL s args Ts own) {x : Int32} {off : Int} {tgt : Nat} (d : decode cc pc = .ok (.ifCond .eq off, 3)) (ht : (pc : Int) + off = (tgt : Int))
    (kt : x = 0 → vv p l e R s m args below meth c D cl b N ce nL Q fin A σ tgt L rest) (kf : ¬ x = 0 → vv p l e R s m args below meth c D cl b N ce nL Q fin B σ (pc + 3) L rest) : vv p l e R s m args below meth c D cl b N ce nL Q fin (if x = 0 then A else B) σ pc L (.int x :: rest) := fun hk H locs ls hl hP hS =>
  lv_if_eq S.1 S.2.1 d ht (fun h => kt h (by rw [if_pos h] at hk; exact hk) H locs ls hl hP hS) (fun h => kf h (by rw [if_neg h] at hk; exact hk) H locs ls hl hP hS)
theorem v_if_eqT (S : CallFix p m c cc nL s args Ts own) {x : Int32} {off : Int} {tgt : Nat} (d : decode cc pc = .ok (.ifCond .eq off, 3)) (ht : (pc : Int) + off = (tgt : Int)) (h0 : x = 0)
    (kt : vv p l e R s m args below meth c D cl b N ce nL Q fin k σ tgt L rest) : vv p l e R s m args below meth c D cl b N ce nL Q fin k σ pc L (.int x :: rest) := fun hk H locs ls hl hP hS =>
  lv_if_eq S.1 S.2.1 d ht (fun _ => kt hk H locs ls hl hP hS) (fun h => absurd h0 h)
theorem v_if_eqF (S : CallFix p m c cc nL s args Ts own) {x : Int32} {off : Int} {tgt : Nat} (d : decode cc pc = .ok (.ifCond .eq off, 3)) (ht : (pc : Int) + off = (tgt : Int)) (h0 : ¬ x = 0)
    (kf : vv p l e R s m args below meth c D cl b N ce nL Q fin k σ (pc + 3) L rest) : vv p l e R s m args below meth c D cl b N ce nL Q fin k σ pc L (.int x :: rest) := fun hk H locs ls hl hP hS =>
  lv_if_eq S.1 S.2.1 d ht (fun h => absurd h h0) (fun _ => kf hk H locs ls hl hP hS)
theorem v_icmp_eq (S : CallFix p m c cc nL s args Ts own) {x y : Int32} {off : Int} {tgt : Nat} (d : decode cc pc = .ok (.if_icmp .eq off, 3)) (ht : (pc : Int) + off = (tgt : Int))
    (kt : x = y → vv p l e R s m args below meth c D cl b N ce nL Q fin A σ tgt L rest) (kf : ¬ x = y → vv p l e R s m args below meth c D cl b N ce nL Q fin B σ (pc + 3) L rest) : vv p l e R s m args below meth c D cl b N ce nL Q fin (if x = y then A else B) σ pc L (.int y :: .int x :: rest) := fun hk H locs ls hl hP hS =>
  lv_icmp_eq S.1 S.2.1 d ht (fun h => kt h (by rw [if_pos h] at hk; exact hk) H locs ls hl hP hS) (fun h => kf h (by rw [if_neg h] at hk; exact hk) H locs ls hl hP hS)
theorem v_icmp_eqT (S : CallFix p m c cc nL s args Ts own) {x y : Int32} {off : Int} {tgt : Nat} (d : decode cc pc = .ok (.if_icmp .eq off, 3)) (ht : (pc : Int) + off = (tgt : Int)) (h0 : x = y)
    (kt : vv p l e R s m args below meth c D cl b N ce nL Q fin k σ tgt L rest) : vv p l e R s m args below meth c D cl b N ce nL Q fin k σ pc L (.int y :: .int x :: rest) := fun hk H locs ls hl hP hS =>
  lv_icmp_eq S.1 S.2.1 d ht (fun _ => kt hk H locs ls hl hP hS) (fun h => absurd h0 h)
theorem v_icmp_eqF (S : CallFix p m c cc nL s args Ts own) {x y : Int32} {off : Int} {tgt : Nat} (d : decode cc pc = .ok (.if_icmp .eq off, 3)) (ht : (pc : Int) + off = (tgt : Int)) (h0 : ¬ x = y)
    (kf : vv p l e R s m args below meth c D cl b N ce nL Q fin k σ (pc + 3) L rest) : vv p l e R s m args below meth c D cl b N ce nL Q fin k σ pc L (.int y :: .int x :: rest) := fun hk H locs ls hl hP hS =>
  lv_icmp_eq S.1 S.2.1 d ht (fun h => absurd h h0) (fun _ => kf hk H locs ls hl hP hS)
theorem v_if_ne (S : CallFix p m c cc nL s args Ts own) {x : Int32} {off : Int} {tgt : Nat} (d : decode cc pc = .ok (.ifCond .ne off, 3)) (ht : (pc : Int) + off = (tgt : Int))
    (kt : ¬ x = 0 → vv p l e R s m args below meth c D cl b N ce nL Q fin B σ tgt L rest) (kf : x = 0 → vv p l e R s m args below meth c D cl b N ce nL Q fin A σ (pc + 3) L rest) : vv p l e R s m args below meth c D cl b N ce nL Q fin (if x = 0 then A else B) σ pc L (.int x :: rest) := fun hk H locs ls hl hP hS =>
  lv_if_ne S.1 S.2.1 d ht (fun h => kt h (by rw [if_neg h] at hk; exact hk) H locs ls hl hP hS) (fun h => kf h (by rw [if_pos h] at hk; exact hk) H locs ls hl hP hS)
theorem v_if_neT (S : CallFix p m c cc nL s args Ts own) {x : Int32} {off : Int} {tgt : Nat} (d : decode cc pc = .ok (.ifCond .ne off, 3)) (ht : (pc : Int) + off = (tgt : Int)) (h0 : ¬ x = 0)
    (kt : vv p l e R s m args below meth c D cl b N ce nL Q fin k σ tgt L rest) : vv p l e R s m args below meth c D cl b N ce nL Q fin k σ pc L (.int x :: rest) := fun hk H locs ls hl hP hS =>
  lv_if_ne S.1 S.2.1 d ht (fun _ => kt hk H locs ls hl hP hS) (fun h => absurd h h0)
theorem v_if_neF (S : CallFix p m c cc nL s args Ts own) {x : Int32} {off : Int} {tgt : Nat} (d : decode cc pc = .ok (.ifCond .ne off, 3)) (ht : (pc : Int) + off = (tgt : Int)) (h0 : x = 0)
    (kf : vv p l e R s m args below meth c D cl b N ce nL Q fin k σ (pc + 3) L rest) : vv p l e R s m args below meth c D cl b N ce nL Q fin k σ pc L (.int x :: rest) := fun hk H locs ls hl hP hS =>
  lv_if_ne S.1 S.2.1 d ht (fun h => absurd h0 h) (fun _ => kf hk H locs ls hl hP hS)
theorem v_icmp_ne (S : CallFix p m c cc nL s args Ts own) {x y : Int32} {off : Int} {tgt : Nat} (d : decode cc pc = .ok (.if_icmp .ne off, 3)) (ht : (pc : Int) + off = (tgt : Int))
    (kt : ¬ x = y → vv p l e R s m args below meth c D cl b N ce nL Q fin B σ tgt L rest) (kf : x = y → vv p l e R s m args below meth c D cl b N ce nL Q fin A σ (pc + 3) L rest) : vv p l e R s m args below meth c D cl b N ce nL Q fin (if x = y then A else B) σ pc L (.int y :: .int x :: rest) := fun hk H locs ls hl hP hS =>
  lv_icmp_ne S.1 S.2.1 d ht (fun h => kt h (by rw [if_neg h] at hk; exact hk) H locs ls hl hP hS) (fun h => kf h (by rw [if_pos h] at hk; exact hk) H locs ls hl hP hS)
theorem v_icmp_neT (S : CallFix p m c cc nL s args Ts own) {x y : Int32} {off : Int} {tgt : Nat} (d : decode cc pc = .ok (.if_icmp .ne off, 3)) (ht : (pc : Int) + off = (tgt : Int)) (h0 : ¬ x = y)
    (kt : vv p l e R s m args below meth c D cl b N ce nL Q fin k σ tgt L rest) : vv p l e R s m args below meth c D cl b N ce nL Q fin k σ pc L (.int y :: .int x :: rest) := fun hk H locs ls hl hP hS =>
  lv_icmp_ne S.1 S.2.1 d ht (fun _ => kt hk H locs ls hl hP hS) (fun h => absurd h h0)
theorem v_icmp_neF (S : CallFix p m c cc nL s args Ts own) {x y : Int32} {off : Int} {tgt : Nat} (d : decode cc pc = .ok (.if_icmp .ne off, 3)) (ht : (pc : Int) + off = (tgt : Int)) (h0 : x = y)
    (kf : vv p l e R s m args below meth c D cl b N ce nL Q fin k σ (pc + 3) L rest) : vv p l e R s m args below meth c D cl b N ce nL Q fin k σ pc L (.int y :: .int x :: rest) := fun hk H locs ls hl hP hS =>
  lv_icmp_ne S.1 S.2.1 d ht (fun h => absurd h0 h) (fun _ => kf hk H locs ls hl hP hS)
theorem v_if_lt (S : CallFix p m c cc nL s args Ts own) {x : Int32} {off : Int} {tgt : Nat} (d : decode cc pc = .ok (.ifCond .lt off, 3)) (ht : (pc : Int) + off = (tgt : Int))
    (kt : x < 0 → vv p l e R s m args below meth c D cl b N ce nL Q fin A σ tgt L rest) (kf : ¬ x < 0 → vv p l e R s m args below meth c D cl b N ce nL Q fin B σ (pc + 3) L rest) : vv p l e R s m args below meth c D cl b N ce nL Q fin (if x < 0 then A else B) σ pc L (.int x :: rest) := fun hk H locs ls hl hP hS =>
  lv_if_lt S.1 S.2.1 d ht (fun h => kt h (by rw [if_pos h] at hk; exact hk) H locs ls hl hP hS) (fun h => kf h (by rw [if_neg h] at hk; exact hk) H locs ls hl hP hS)
theorem v_if_ltT (S : CallFix p m c cc nL s args Ts own) {x : Int32} {off : Int} {tgt : Nat} (d : decode cc pc = .ok (.ifCond .lt off, 3)) (ht : (pc : Int) + off = (tgt : Int)) (h0 : x < 0)
    (kt : vv p l e R s m args below meth c D cl b N ce nL Q fin k σ tgt L rest) : vv p l e R s m args below meth c D cl b N ce nL Q fin k σ pc L (.int x :: rest) := fun hk H locs ls hl hP hS =>
  lv_if_lt S.1 S.2.1 d ht (fun _ => kt hk H locs ls hl hP hS) (fun h => absurd h0 h)
theorem v_if_ltF (S : CallFix p m c cc nL s args Ts own) {x : Int32} {off : Int} {tgt : Nat} (d : decode cc pc = .ok (.ifCond .lt off, 3)) (ht : (pc : Int) + off = (tgt : Int)) (h0 : ¬ x < 0)
    (kf : vv p l e R s m args below meth c D cl b N ce nL Q fin k σ (pc + 3) L rest) : vv p l e R s m args below meth c D cl b N ce nL Q fin k σ pc L (.int x :: rest) := fun hk H locs ls hl hP hS =>
  lv_if_lt S.1 S.2.1 d ht (fun h => absurd h h0) (fun _ => kf hk H locs ls hl hP hS)
theorem v_icmp_lt (S : CallFix p m c cc nL s args Ts own) {x y : Int32} {off : Int} {tgt : Nat} (d : decode cc pc = .ok (.if_icmp .lt off, 3)) (ht : (pc : Int) + off = (tgt : Int))
    (kt : x < y → vv p l e R s m args below meth c D cl b N ce nL Q fin A σ tgt L rest) (kf : ¬ x < y → vv p l e R s m args below meth c D cl b N ce nL Q fin B σ (pc + 3) L rest) : vv p l e R s m args below meth c D cl b N ce nL Q fin (if x < y then A else B) σ pc L (.int y :: .int x :: rest) := fun hk H locs ls hl hP hS =>
  lv_icmp_lt S.1 S.2.1 d ht (fun h => kt h (by rw [if_pos h] at hk; exact hk) H locs ls hl hP hS) (fun h => kf h (by rw [if_neg h] at hk; exact hk) H locs ls hl hP hS)
theorem v_icmp_ltT (S : CallFix p m c cc nL s args Ts own) {x y : Int32} {off : Int} {tgt : Nat} (d : decode cc pc = .ok (.if_icmp .lt off, 3)) (ht : (pc : Int) + off = (tgt : Int)) (h0 : x < y)
    (kt : vv p l e R s m args below meth c D cl b N ce nL Q fin k σ tgt L rest) : vv p l e R s m args below meth c D cl b N ce nL Q fin k σ pc L (.int y :: .int x :: rest) := fun hk H locs ls hl hP hS =>
  lv_icmp_lt S.1 S.2.1 d ht (fun _ => kt hk H locs ls hl hP hS) (fun h => absurd h0 h)
theorem v_icmp_ltF (S : CallFix p m c cc nL s args Ts own) {x y : Int32} {off : Int} {tgt : Nat} (d : decode cc pc = .ok (.if_icmp .lt off, 3)) (ht : (pc : Int) + off = (tgt : Int)) (h0 : ¬ x < y)
    (kf : vv p l e R s m args below meth c D cl b N ce nL Q fin k σ (pc + 3) L rest) : vv p l e R s m args below meth c D cl b N ce nL Q fin k σ pc L (.int y :: .int x :: rest) := fun hk H locs ls hl hP hS =>
  lv_icmp_lt S.1 S.2.1 d ht (fun h => absurd h h0) (fun _ => kf hk H locs ls hl hP hS)
theorem v_if_ge (S : CallFix p m c cc nL s args Ts own) {x : Int32} {off : Int} {tgt : Nat} (d : decode cc pc = .ok (.ifCond .ge off, 3)) (ht : (pc : Int) + off = (tgt : Int))
    (kt : 0 ≤ x → vv p l e R s m args below meth c D cl b N ce nL Q fin A σ tgt L rest) (kf : ¬ 0 ≤ x → vv p l e R s m args below meth c D cl b N ce nL Q fin B σ (pc + 3) L rest) : vv p l e R s m args below meth c D cl b N ce nL Q fin (if 0 ≤ x then A else B) σ pc L (.int x :: rest) := fun hk H locs ls hl hP hS =>
  lv_if_ge S.1 S.2.1 d ht (fun h => kt h (by rw [if_pos h] at hk; exact hk) H locs ls hl hP hS) (fun h => kf h (by rw [if_neg h] at hk; exact hk) H locs ls hl hP hS)
theorem v_if_geT (S : CallFix p m c cc nL s args Ts own) {x : Int32} {off : Int} {tgt : Nat} (d : decode cc pc = .ok (.ifCond .ge off, 3)) (ht : (pc : Int) + off = (tgt : Int)) (h0 : 0 ≤ x)
    (kt : vv p l e R s m args below meth c D cl b N ce nL Q fin k σ tgt L rest) : vv p l e R s m args below meth c D cl b N ce nL Q fin k σ pc L (.int x :: rest) := fun hk H locs ls hl hP hS =>
  lv_if_ge S.1 S.2.1 d ht (fun _ => kt hk H locs ls hl hP hS) (fun h => absurd h0 h)
theorem v_if_geF (S : CallFix p m c cc nL s args Ts own) {x : Int32} {off : Int} {tgt : Nat} (d : decode cc pc = .ok (.ifCond .ge off, 3)) (ht : (pc : Int) + off = (tgt : Int)) (h0 : ¬ 0 ≤ x)
    (kf : vv p l e R s m args below meth c D cl b N ce nL Q fin k σ (pc + 3) L rest) : vv p l e R s m args below meth c D cl b N ce nL Q fin k σ pc L (.int x :: rest) := fun hk H locs ls hl hP hS =>
  lv_if_ge S.1 S.2.1 d ht (fun h => absurd h h0) (fun _ => kf hk H locs ls hl hP hS)
theorem v_icmp_ge (S : CallFix p m c cc nL s args Ts own) {x y : Int32} {off : Int} {tgt : Nat} (d : decode cc pc = .ok (.if_icmp .ge off, 3)) (ht : (pc : Int) + off = (tgt : Int))
    (kt : y ≤ x → vv p l e R s m args below meth c D cl b N ce nL Q fin A σ tgt L rest) (kf : ¬ y ≤ x → vv p l e R s m args below meth c D cl b N ce nL Q fin B σ (pc + 3) L rest) : vv p l e R s m args below meth c D cl b N ce nL Q fin (if y ≤ x then A else B) σ pc L (.int y :: .int x :: rest) := fun hk H locs ls hl hP hS =>
  lv_icmp_ge S.1 S.2.1 d ht (fun h => kt h (by rw [if_pos h] at hk; exact hk) H locs ls hl hP hS) (fun h => kf h (by rw [if_neg h] at hk; exact hk) H locs ls hl hP hS)
theorem v_icmp_geT (S : CallFix p m c cc nL s args Ts own) {x y : Int32} {off : Int} {tgt : Nat} (d : decode cc pc = .ok (.if_icmp .ge off, 3)) (ht : (pc : Int) + off = (tgt : Int)) (h0 : y ≤ x)
    (kt : vv p l e R s m args below meth c D cl b N ce nL Q fin k σ tgt L rest) : vv p l e R s m args below meth c D cl b N ce nL Q fin k σ pc L (.int y :: .int x :: rest) := fun hk H locs ls hl hP hS =>
  lv_icmp_ge S.1 S.2.1 d ht (fun _ => kt hk H locs ls hl hP hS) (fun h => absurd h0 h)
theorem v_icmp_geF (S : CallFix p m c cc nL s args Ts own) {x y : Int32} {off : Int} {tgt : Nat} (d : decode cc pc = .ok (.if_icmp .ge off, 3)) (ht : (pc : Int) + off = (tgt : Int)) (h0 : ¬ y ≤ x)
    (kf : vv p l e R s m args below meth c D cl b N ce nL Q fin k σ (pc + 3) L rest) : vv p l e R s m args below meth c D cl b N ce nL Q fin k σ pc L (.int y :: .int x :: rest) := fun hk H locs ls hl hP hS =>
  lv_icmp_ge S.1 S.2.1 d ht (fun h => absurd h h0) (fun _ => kf hk H locs ls hl hP hS)
theorem v_if_gt (S : CallFix p m c cc nL s args Ts own) {x : Int32} {off : Int} {tgt : Nat} (d : decode cc pc = .ok (.ifCond .gt off, 3)) (ht : (pc : Int) + off = (tgt : Int))
    (kt : 0 < x → vv p l e R s m args below meth c D cl b N ce nL Q fin A σ tgt L rest) (kf : ¬ 0 < x → vv p l e R s m args below meth c D cl b N ce nL Q fin B σ (pc + 3) L rest) : vv p l e R s m args below meth c D cl b N ce nL Q fin (if 0 < x then A else B) σ pc L (.int x :: rest) := fun hk H locs ls hl hP hS =>
  lv_if_gt S.1 S.2.1 d ht (fun h => kt h (by rw [if_pos h] at hk; exact hk) H locs ls hl hP hS) (fun h => kf h (by rw [if_neg h] at hk; exact hk) H locs ls hl hP hS)
theorem v_if_gtT (S : CallFix p m c cc nL s args Ts own) {x : Int32} {off : Int} {tgt : Nat} (d : decode cc pc = .ok (.ifCond .gt off, 3)) (ht : (pc : Int) + off = (tgt : Int)) (h0 : 0 < x)
    (kt : vv p l e R s m args below meth c D cl b N ce nL Q fin k σ tgt L rest) : vv p l e R s m args below meth c D cl b N ce nL Q fin k σ pc L (.int x :: rest) := fun hk H locs ls hl hP hS =>
  lv_if_gt S.1 S.2.1 d ht (fun _ => kt hk H locs ls hl hP hS) (fun h => absurd h0 h)
theorem v_if_gtF (S : CallFix p m c cc nL s args Ts own) {x : Int32} {off : Int} {tgt : Nat} (d : decode cc pc = .ok (.ifCond .gt off, 3)) (ht : (pc : Int) + off = (tgt : Int)) (h0 : ¬ 0 < x)
    (kf : vv p l e R s m args below meth c D cl b N ce nL Q fin k σ (pc + 3) L rest) : vv p l e R s m args below meth c D cl b N ce nL Q fin k σ pc L (.int x :: rest) := fun hk H locs ls hl hP hS =>
  lv_if_gt S.1 S.2.1 d ht (fun h => absurd h h0) (fun _ => kf hk H locs ls hl hP hS)
theorem v_icmp_gt (S : CallFix p m c cc nL s args Ts own) {x y : Int32} {off : Int} {tgt : Nat} (d : decode cc pc = .ok (.if_icmp .gt off, 3)) (ht : (pc : Int) + off = (tgt : Int))
    (kt : y < x → vv p l e R s m args below meth c D cl b N ce nL Q fin A σ tgt L rest) (kf : ¬ y < x → vv p l e R s m args below meth c D cl b N ce nL Q fin B σ (pc + 3) L rest) : vv p l e R s m args below meth c D cl b N ce nL Q fin (if y < x then A else B) σ pc L (.int y :: .int x :: rest) := fun hk H locs ls hl hP hS =>
  lv_icmp_gt S.1 S.2.1 d ht (fun h => kt h (by rw [if_pos h] at hk; exact hk) H locs ls hl hP hS) (fun h => kf h (by rw [if_neg h] at hk; exact hk) H locs ls hl hP hS)
theorem v_icmp_gtT (S : CallFix p m c cc nL s args Ts own) {x y : Int32} {off : Int} {tgt : Nat} (d : decode cc pc = .ok (.if_icmp .gt off, 3)) (ht : (pc : Int) + off = (tgt : Int)) (h0 : y < x)
    (kt : vv p l e R s m args below meth c D cl b N ce nL Q fin k σ tgt L rest) : vv p l e R s m args below meth c D cl b N ce nL Q fin k σ pc L (.int y :: .int x :: rest) := fun hk H locs ls hl hP hS =>
  lv_icmp_gt S.1 S.2.1 d ht (fun _ => kt hk H locs ls hl hP hS) (fun h => absurd h0 h)
theorem v_icmp_gtF (S : CallFix p m c cc nL s args Ts own) {x y : Int32} {off : Int} {tgt : Nat} (d : decode cc pc = .ok (.if_icmp .gt off, 3)) (ht : (pc : Int) + off = (tgt : Int)) (h0 : ¬ y < x)
    (kf : vv p l e R s m args below meth c D cl b N ce nL Q fin k σ (pc + 3) L rest) : vv p l e R s m args below meth c D cl b N ce nL Q fin k σ pc L (.int y :: .int x :: rest) := fun hk H locs ls hl hP hS =>
  lv_icmp_gt S.1 S.2.1 d ht (fun h => absurd h h0) (fun _ => kf hk H locs ls hl hP hS)
theorem v_if_le (S : CallFix p m c cc nL s args Ts own) {x : Int32} {off : Int} {tgt : Nat} (d : decode cc pc = .ok (.ifCond .le off, 3)) (ht : (pc : Int) + off = (tgt : Int))
    (kt : x ≤ 0 → vv p l e R s m args below meth c D cl b N ce nL Q fin A σ tgt L rest) (kf : ¬ x ≤ 0 → vv p l e R s m args below meth c D cl b N ce nL Q fin B σ (pc + 3) L rest) : vv p l e R s m args below meth c D cl b N ce nL Q fin (if x ≤ 0 then A else B) σ pc L (.int x :: rest) := fun hk H locs ls hl hP hS =>
  lv_if_le S.1 S.2.1 d ht (fun h => kt h (by rw [if_pos h] at hk; exact hk) H locs ls hl hP hS) (fun h => kf h (by rw [if_neg h] at hk; exact hk) H locs ls hl hP hS)
theorem v_if_leT (S : CallFix p m c cc nL s args Ts own) {x : Int32} {off : Int} {tgt : Nat} (d : decode cc pc = .ok (.ifCond .le off, 3)) (ht : (pc : Int) + off = (tgt : Int)) (h0 : x ≤ 0)
    (kt : vv p l e R s m args below meth c D cl b N ce nL Q fin k σ tgt L rest) : vv p l e R s m args below meth c D cl b N ce nL Q fin k σ pc L (.int x :: rest) := fun hk H locs ls hl hP hS =>
  lv_if_le S.1 S.2.1 d ht (fun _ => kt hk H locs ls hl hP hS) (fun h => absurd h0 h)
theorem v_if_leF (S : CallFix p m c cc nL s args Ts own) {x : Int32} {off : Int} {tgt : Nat} (d : decode cc pc = .ok (.ifCond .le off, 3)) (ht : (pc : Int) + off = (tgt : Int)) (h0 : ¬ x ≤ 0)
    (kf : vv p l e R s m args below meth c D cl b N ce nL Q fin k σ (pc + 3) L rest) : vv p l e R s m args below meth c D cl b N ce nL Q fin k σ pc L (.int x :: rest) := fun hk H locs ls hl hP hS =>
  lv_if_le S.1 S.2.1 d ht (fun h => absurd h h0) (fun _ => kf hk H locs ls hl hP hS)
theorem v_icmp_le (S : CallFix p m c cc nL s args Ts own) {x y : Int32} {off : Int} {tgt : Nat} (d : decode cc pc = .ok (.if_icmp .le off, 3)) (ht : (pc : Int) + off = (tgt : Int))
    (kt : x ≤ y → vv p l e R s m args below meth c D cl b N ce nL Q fin A σ tgt L rest) (kf : ¬ x ≤ y → vv p l e R s m args below meth c D cl b N ce nL Q fin B σ (pc + 3) L rest) : vv p l e R s m args below meth c D cl b N ce nL Q fin (if x ≤ y then A else B) σ pc L (.int y :: .int x :: rest) := fun hk H locs ls hl hP hS =>
  lv_icmp_le S.1 S.2.1 d ht (fun h => kt h (by rw [if_pos h] at hk; exact hk) H locs ls hl hP hS) (fun h => kf h (by rw [if_neg h] at hk; exact hk) H locs ls hl hP hS)
theorem v_icmp_leT (S : CallFix p m c cc nL s args Ts own) {x y : Int32} {off : Int} {tgt : Nat} (d : decode cc pc = .ok (.if_icmp .le off, 3)) (ht : (pc : Int) + off = (tgt : Int)) (h0 : x ≤ y)
    (kt : vv p l e R s m args below meth c D cl b N ce nL Q fin k σ tgt L rest) : vv p l e R s m args below meth c D cl b N ce nL Q fin k σ pc L (.int y :: .int x :: rest) := fun hk H locs ls hl hP hS =>
  lv_icmp_le S.1 S.2.1 d ht (fun _ => kt hk H locs ls hl hP hS) (fun h => absurd h0 h)
theorem v_icmp_leF (S : CallFix p m c cc nL s args Ts own) {x y : Int32} {off : Int} {tgt : Nat} (d : decode cc pc = .ok (.if_icmp .le off, 3)) (ht : (pc : Int) + off = (tgt : Int)) (h0 : ¬ x ≤ y)
    (kf : vv p l e R s m args below meth c D cl b N ce nL Q fin k σ (pc + 3) L rest) : vv p l e R s m args below meth c D cl b N ce nL Q fin k σ pc L (.int y :: .int x :: rest) := fun hk H locs ls hl hP hS =>
  lv_icmp_le S.1 S.2.1 d ht (fun h => absurd h h0) (fun _ => kf hk H locs ls hl hP hS)
theorem v_goto (S : CallFix p m c cc nL s args Ts own) {off : Int} {tgt : Nat} (d : decode cc pc = .ok (.goto off, 3)) (ht : (pc : Int) + off = (tgt : Int))
    (kk : vv p l e R s m args below meth c D cl b N ce nL Q fin k σ tgt L rest) : vv p l e R s m args below meth c D cl b N ce nL Q fin k σ pc L rest := fun hk H locs ls hl hP hS => lv_goto S.1 S.2.1 d ht (kk hk H locs ls hl hP hS)
theorem v_sub (h : lo_le L2 L) (kk : vv p l e R s m args below meth c D cl b N ce nL Q fin k σ pc L2 rest) : vv p l e R s m args below meth c D cl b N ce nL Q fin k σ pc L rest := fun hk H locs ls hl hP hS => kk hk H locs ls (lo_sub hl (lo_le_get _ _ h)) hP hS
theorem v_tsw (S : CallFix p m c cc nL s args Ts own) {dflt lo hi : Int} {offs : Array Int} {len : Nat} {x : Int32} (v : Int32) {off : Int} {tgt : Nat} (d : decode cc pc = .ok (.tableswitch dflt lo hi offs, len)) (h1 : ¬ v.toInt < lo) (h2 : ¬ hi < v.toInt) (ho : offs[(v.toInt - lo).toNat]? = some off) (ht : (pc : Int) + off = (tgt : Int))
    (kt : x = v → vv p l e R s m args below meth c D cl b N ce nL Q fin A σ tgt L rest) (kf : ¬ x = v → vv p l e R s m args below meth c D cl b N ce nL Q fin B σ pc L (.int x :: rest)) : vv p l e R s m args below meth c D cl b N ce nL Q fin (if x = v then A else B) σ pc L (.int x :: rest) := fun hk H locs ls hl hP hS => by
  by_cases h : x = v
  · rw [if_pos h] at hk
    subst h
    exact lv_tableIn S.1 S.2.1 d h1 h2 ho ht (kt rfl hk H locs ls hl hP hS)
  · rw [if_neg h] at hk
    exact kf h hk H locs ls hl hP hS
theorem v_tswD (S : CallFix p m c cc nL s args Ts own) {dflt lo hi : Int} {offs : Array Int} {len : Nat} {x : Int32} {tgt : Nat} (d : decode cc pc = .ok (.tableswitch dflt lo hi offs, len)) (h : x.toInt < lo ∨ hi < x.toInt) (ht : (pc : Int) + dflt = (tgt : Int))
    (kk : vv p l e R s m args below meth c D cl b N ce nL Q fin k σ tgt L rest) : vv p l e R s m args below meth c D cl b N ce nL Q fin k σ pc L (.int x :: rest) := fun hk H locs ls hl hP hS => lv_tableOut S.1 S.2.1 d h ht (kk hk H locs ls hl hP hS)
theorem v_lsw (S : CallFix p m c cc nL s args Ts own) {dflt : Int} {ps : Array (Int × Int)} {len : Nat} {x : Int32} (v : Int32) {off : Int} {tgt : Nat} (d : decode cc pc = .ok (.lookupswitch dflt ps, len)) (hp : (ps.toList.zip (ps.toList.drop 1)).all (fun (a, next) => a.1 < next.1) = true) (ho : Op.lookupswitch.offset ps.toList dflt v.toInt = off) (ht : (pc : Int) + off = (tgt : Int))
    (kt : x = v → vv p l e R s m args below meth c D cl b N ce nL Q fin A σ tgt L rest) (kf : ¬ x = v → vv p l e R s m args below meth c D cl b N ce nL Q fin B σ pc L (.int x :: rest)) : vv p l e R s m args below meth c D cl b N ce nL Q fin (if x = v then A else B) σ pc L (.int x :: rest) := fun hk H locs ls hl hP hS => by
  by_cases h : x = v
  · rw [if_pos h] at hk
    subst h
    exact lv_lookup S.1 S.2.1 d hp ho ht (kt rfl hk H locs ls hl hP hS)
  · rw [if_neg h] at hk
    exact kf h hk H locs ls hl hP hS
theorem v_lswD (S : CallFix p m c cc nL s args Ts own) {dflt : Int} {ps : Array (Int × Int)} {len : Nat} {x : Int32} {tgt : Nat} (d : decode cc pc = .ok (.lookupswitch dflt ps, len)) (hp : (ps.toList.zip (ps.toList.drop 1)).all (fun (a, next) => a.1 < next.1) = true) (ho : Op.lookupswitch.offset ps.toList dflt x.toInt = dflt) (ht : (pc : Int) + dflt = (tgt : Int))
    (kk : vv p l e R s m args below meth c D cl b N ce nL Q fin k σ tgt L rest) : vv p l e R s m args below meth c D cl b N ce nL Q fin k σ pc L (.int x :: rest) := fun hk H locs ls hl hP hS => lv_lookup S.1 S.2.1 d hp ho ht (kk hk H locs ls hl hP hS)
theorem v_get (S : CallFix p m c cc nL s args Ts own) {ref C : String} {T : u_T} {Nf ci index : Nat} {tys : List (ClassId × FieldType)} (hin : ∀ w ∈ u_ws C T Nf, w ∈ Ts) (hK : va_K D cl tys s) (kq : Nat) (hkq : kq < N) {fs : List Value} (hce : ce kq (σ kq) = .inr (ci, fs)) (hc : cl[ci]? = some (C, T, Nf)) (j : Nat) (hj : j < Nf) (hlink : (Cond.fieldLink own index ref (T j).2.1 (T j).2.2.1).before args s = true) (hsame : ∀ x, s.fieldFound? (T j).1 (T j).2.1 (T j).2.2.1 = some x → s.fieldFound? ref (T j).2.1 (T j).2.2.1 = some x) {v : Value} (hv : fs[j]? = some v) (d : decode cc pc = .ok (.getfield index, 3))
    (kk : vv p l e R s m args below meth c D cl b N ce nL Q fin k σ (pc + 3) L (v :: rest)) : vv p l e R s m args below meth c D cl b N ce nL Q fin k σ pc L (.ref (b + kq) :: rest) := fun hk H locs ls hl hP hS =>
  va_get S.1 S.2.1 S.2.2.2.2 hin S.2.2.2.1 hK hP kq (by rw [mm_get hkq, hce]) hc j hj hlink hsame hv d (kk hk H locs ls hl hP hS)
theorem v_put (S : CallFix p m c cc nL s args Ts own) {ref C : String} {T : u_T} {Nf ci index : Nat} {tys : List (ClassId × FieldType)} (hin : ∀ w ∈ u_ws C T Nf, w ∈ Ts) (hK : va_K D cl tys s) (kq : Nat) (hkq : kq < N) {fs : List Value} (hce : ce kq (σ kq) = .inr (ci, fs)) (hc : cl[ci]? = some (C, T, Nf)) (j : Nat) (hj : j < Nf) (hlink : (Cond.fieldLink own index ref (T j).2.1 (T j).2.2.1).before args s = true) (hsame : ∀ x, s.fieldFound? (T j).1 (T j).2.1 (T j).2.2.1 = some x → s.fieldFound? ref (T j).2.1 (T j).2.2.1 = some x) (ty0 : Nat → FieldType) (hty : ∀ k, k < Nf → parseFieldDescriptor (T k).2.2.1 = some (ty0 k)) (hnm : ∀ a, a < Nf → ∀ b, b < Nf → a ≠ b → (T a).2.1 ≠ (T b).2.1) (hfin : (T j).2.2.2 = false) {ty : FieldType} {v : Value} (hd : parseFieldDescriptor (T j).2.2.1 = some ty) (hn : narrow ty v = v) (hfit : fits ty v = true) (hl0 : j < fs.length) (f : Nat → Int32) (he : .inr (ci, fs.set j v) = ce kq f) (d : decode cc pc = .ok (.putfield index, 3))
    (kk : vv p l e R s m args below meth c D cl b N ce nL Q fin k (va_up σ kq f) (pc + 3) L rest) : vv p l e R s m args below meth c D cl b N ce nL Q fin k σ pc L (v :: .ref (b + kq) :: rest) := fun hk H locs ls hl hP hS =>
  va_put S.1 S.2.1 S.2.2.2.2 hin ty0 hty hnm S.2.2.2.1 hK hP mm_D hS kq (by rw [mm_get hkq, hce]) hc j hj hlink hsame hfin hd hn hfit hl0 d (fun H1 locs1 hP1 _ hS1 => kk hk H1 locs1 ls hl (mm_P.put f he hP1) hS1)
theorem v_getN (S : CallFix p m c cc nL s args Ts own) {ref C : String} {T : u_T} {Nf ci index : Nat} {tys : List (ClassId × FieldType)} (hin : ∀ w ∈ u_ws C T Nf, w ∈ Ts) (hK : va_K D cl tys s) (kq : Nat) (hkq : kq < N) {fs : List Value} (hce : ce kq (σ kq) = .inr (ci, fs)) (hc : cl[ci]? = some (C, T, Nf)) (j : Nat) (hj : j < Nf) {host : String} (hlink : (Cond.fieldLinkNest own index ref (T j).2.1 (T j).2.2.1 host).before args s = true) (hsame : ∀ x, s.fieldFound? (T j).1 (T j).2.1 (T j).2.2.1 = some x → s.fieldFound? ref (T j).2.1 (T j).2.2.1 = some x) {v : Value} (hv : fs[j]? = some v) (d : decode cc pc = .ok (.getfield index, 3))
    (kk : vv p l e R s m args below meth c D cl b N ce nL Q fin k σ (pc + 3) L (v :: rest)) : vv p l e R s m args below meth c D cl b N ce nL Q fin k σ pc L (.ref (b + kq) :: rest) := fun hk H locs ls hl hP hS =>
  va_getN S.1 S.2.1 S.2.2.2.2 hin S.2.2.2.1 hK hP kq (by rw [mm_get hkq, hce]) hc j hj hlink hsame hv d (kk hk H locs ls hl hP hS)
theorem v_putN (S : CallFix p m c cc nL s args Ts own) {ref C : String} {T : u_T} {Nf ci index : Nat} {tys : List (ClassId × FieldType)} (hin : ∀ w ∈ u_ws C T Nf, w ∈ Ts) (hK : va_K D cl tys s) (kq : Nat) (hkq : kq < N) {fs : List Value} (hce : ce kq (σ kq) = .inr (ci, fs)) (hc : cl[ci]? = some (C, T, Nf)) (j : Nat) (hj : j < Nf) {host : String} (hlink : (Cond.fieldLinkNest own index ref (T j).2.1 (T j).2.2.1 host).before args s = true) (hsame : ∀ x, s.fieldFound? (T j).1 (T j).2.1 (T j).2.2.1 = some x → s.fieldFound? ref (T j).2.1 (T j).2.2.1 = some x) (ty0 : Nat → FieldType) (hty : ∀ k, k < Nf → parseFieldDescriptor (T k).2.2.1 = some (ty0 k)) (hnm : ∀ a, a < Nf → ∀ b, b < Nf → a ≠ b → (T a).2.1 ≠ (T b).2.1) (hfin : (T j).2.2.2 = false) {ty : FieldType} {v : Value} (hd : parseFieldDescriptor (T j).2.2.1 = some ty) (hn : narrow ty v = v) (hfit : fits ty v = true) (hl0 : j < fs.length) (f : Nat → Int32) (he : .inr (ci, fs.set j v) = ce kq f) (d : decode cc pc = .ok (.putfield index, 3))
    (kk : vv p l e R s m args below meth c D cl b N ce nL Q fin k (va_up σ kq f) (pc + 3) L rest) : vv p l e R s m args below meth c D cl b N ce nL Q fin k σ pc L (v :: .ref (b + kq) :: rest) := fun hk H locs ls hl hP hS =>
  va_putN S.1 S.2.1 S.2.2.2.2 hin ty0 hty hnm S.2.2.2.1 hK hP mm_D hS kq (by rw [mm_get hkq, hce]) hc j hj hlink hsame hfin hd hn hfit hl0 d (fun H1 locs1 hP1 _ hS1 => kk hk H1 locs1 ls hl (mm_P.put f he hP1) hS1)
theorem v_iald (S : CallFix p m c cc nL s args Ts own) {tys : List (ClassId × FieldType)} (hK : va_K D cl tys s) (kq t0 : Nat) (hkq : kq < N) {cA : ClassId} {n : Nat} (hce : ce kq (σ kq) = .inl (cA, n, .inl (σ kq))) (ht : tys[t0]? = some (cA, .int)) {i : Int32} (d : decode cc pc = .ok (.iaload, 1))
    (kk : ¬ (i < 0 ∨ n ≤ i.toNatClampNeg) → vv p l e R s m args below meth c D cl b N ce nL Q fin k σ (pc + 1) L (.int (σ kq i.toNatClampNeg) :: rest)) : vv p l e R s m args below meth c D cl b N ce nL Q fin (if (i < 0 ∨ n ≤ i.toNatClampNeg) then none else k) σ pc L (.int i :: .ref (b + kq) :: rest) := fun hk H locs ls hl hP hS => by
  by_cases h : (i < 0 ∨ n ≤ i.toNatClampNeg)
  · rw [if_pos h] at hk; cases hk
  · rw [if_neg h] at hk
    exact va_iald S.1 S.2.1 hK hP kq t0 (by rw [mm_get hkq, hce]) ht h d (kk h hk H locs ls hl hP hS)
theorem v_zald (S : CallFix p m c cc nL s args Ts own) {tys : List (ClassId × FieldType)} (hK : va_K D cl tys s) (kq t0 : Nat) (hkq : kq < N) {cA : ClassId} {n : Nat} (hce : ce kq (σ kq) = .inl (cA, n, .inl (σ kq))) (ht : tys[t0]? = some (cA, .boolean)) {i : Int32} (d : decode cc pc = .ok (.baload, 1))
    (kk : ¬ (i < 0 ∨ n ≤ i.toNatClampNeg) → vv p l e R s m args below meth c D cl b N ce nL Q fin k σ (pc + 1) L (.int (σ kq i.toNatClampNeg) :: rest)) : vv p l e R s m args below meth c D cl b N ce nL Q fin (if (i < 0 ∨ n ≤ i.toNatClampNeg) then none else k) σ pc L (.int i :: .ref (b + kq) :: rest) := fun hk H locs ls hl hP hS => by
  by_cases h : (i < 0 ∨ n ≤ i.toNatClampNeg)
  · rw [if_pos h] at hk; cases hk
  · rw [if_neg h] at hk
    exact va_zald S.1 S.2.1 hK hP kq t0 (by rw [mm_get hkq, hce]) ht h d (kk h hk H locs ls hl hP hS)
theorem v_iast (S : CallFix p m c cc nL s args Ts own) {tys : List (ClassId × FieldType)} (hK : va_K D cl tys s) (kq t0 : Nat) (hkq : kq < N) {cA : ClassId} {n : Nat} (hce : ∀ f, ce kq f = .inl (cA, n, .inl f)) (ht : tys[t0]? = some (cA, .int)) {i x : Int32} (d : decode cc pc = .ok (.iastore, 1))
    (kk : ¬ (i < 0 ∨ n ≤ i.toNatClampNeg) → vv p l e R s m args below meth c D cl b N ce nL Q fin k (va_up σ kq (upd (σ kq) i.toNatClampNeg x)) (pc + 1) L rest) : vv p l e R s m args below meth c D cl b N ce nL Q fin (if (i < 0 ∨ n ≤ i.toNatClampNeg) then none else k) σ pc L (.int x :: .int i :: .ref (b + kq) :: rest) := fun hk H locs ls hl hP hS => by
  by_cases h : (i < 0 ∨ n ≤ i.toNatClampNeg)
  · rw [if_pos h] at hk; cases hk
  · rw [if_neg h] at hk
    exact va_iast S.1 S.2.1 hK hP mm_D hS kq t0 (by rw [mm_get hkq, hce]) ht h d (fun H1 locs1 hP1 _ hS1 => kk h hk H1 locs1 ls hl (mm_P.put _ (hce _).symm hP1) hS1)
theorem v_zast (S : CallFix p m c cc nL s args Ts own) {tys : List (ClassId × FieldType)} (hK : va_K D cl tys s) (kq t0 : Nat) (hkq : kq < N) {cA : ClassId} {n : Nat} (hce : ∀ f, ce kq f = .inl (cA, n, .inl f)) (ht : tys[t0]? = some (cA, .boolean)) {i x : Int32} (d : decode cc pc = .ok (.bastore, 1))
    (kk : ¬ (i < 0 ∨ n ≤ i.toNatClampNeg) → vv p l e R s m args below meth c D cl b N ce nL Q fin k (va_up σ kq (upd (σ kq) i.toNatClampNeg (vp_nar .boolean x))) (pc + 1) L rest) : vv p l e R s m args below meth c D cl b N ce nL Q fin (if (i < 0 ∨ n ≤ i.toNatClampNeg) then none else k) σ pc L (.int x :: .int i :: .ref (b + kq) :: rest) := fun hk H locs ls hl hP hS => by
  by_cases h : (i < 0 ∨ n ≤ i.toNatClampNeg)
  · rw [if_pos h] at hk; cases hk
  · rw [if_neg h] at hk
    exact va_zast S.1 S.2.1 hK hP mm_D hS kq t0 (by rw [mm_get hkq, hce]) ht h d (fun H1 locs1 hP1 _ hS1 => kk h hk H1 locs1 ls hl (mm_P.put _ (hce _).symm hP1) hS1)
end VV1
def bd {α β : Type} (o : Option (α × mm_M)) (k : α → mm_M → Option β) : Option β := match o with
  | none => none
  | some x => k x.1 x.2
def bv {β : Type} (o : Option mm_M) (k : mm_M → Option β) : Option β := match o with
  | none => none
  | some x => k x
/-- what a method's start knows of the tables and constants: it moves with the walk -/
def kk_ok (b N : Nat) (KK : State → Prop) : Prop := (∀ u U : State, KK u → u.WarmedH U.vm → (∀ a : Nat, a < u.heap.size → ¬ mm_A b N a → U.heap[a]? = u.heap[a]?) → KK U) ∧ ∀ (U : State) (g : JFrame) (mk : MethodId) (a : Array Value), KK U → KK (U.calling g mk a)
abbrev qc_i (D : va_G) (cl : List vw_C) (b N : Nat) (ce : Nat → (Nat → Int32) → va_E) (r : Int32) (σ' : mm_M) : Array Value → State → Outcome → State → Prop := va_Qi (fun r' (u : mm_M) => r' = r ∧ u = σ') (fun u t => mm_P D cl b N ce u t.heap) (mm_A b N)
abbrev qc_v (D : va_G) (cl : List vw_C) (b N : Nat) (ce : Nat → (Nat → Int32) → va_E) (σ' : mm_M) : Array Value → State → Outcome → State → Prop := va_Qv (fun (u : mm_M) => u = σ') (fun u t => mm_P D cl b N ce u t.heap) (mm_A b N)
abbrev qc_a (D : va_G) (cl : List vw_C) (b N : Nat) (ce : Nat → (Nat → Int32) → va_E) (ra : Nat) (σ' : mm_M) : Array Value → State → Outcome → State → Prop := va_Qr (fun (u : mm_M) => u = σ') (fun u a t => a = ra ∧ mm_P D cl b N ce u t.heap) (mm_A b N)
abbrev pc_w (D : va_G) (cl : List vw_C) (b N : Nat) (ce : Nat → (Nat → Int32) → va_E) (KK : State → Prop) (av : List Value) (σ : mm_M) : Array Value → State → Prop := va_Pc av (fun U => mm_P D cl b N ce σ U.heap ∧ KK U)
/-- the contract of a method over the world: with these arguments, from σ, it answers r and leaves σ' -/
def ct_i (l : Launch) (D : va_G) (cl : List vw_C) (b N : Nat) (ce : Nat → (Nat → Int32) → va_E) (KK : State → Prop) (y : MethodName) (ws : List Cond) (rm : Room) (av : List Value) (σ : mm_M) (r : Int32) (σ' : mm_M) : Prop := Met l y ws rm (pc_w D cl b N ce KK av σ) (qc_i D cl b N ce r σ') 0 0 (mm_A b N)
def ct_v (l : Launch) (D : va_G) (cl : List vw_C) (b N : Nat) (ce : Nat → (Nat → Int32) → va_E) (KK : State → Prop) (y : MethodName) (ws : List Cond) (rm : Room) (av : List Value) (σ σ' : mm_M) : Prop := Met l y ws rm (pc_w D cl b N ce KK av σ) (qc_v D cl b N ce σ') 0 0 (mm_A b N)
def ct_a (l : Launch) (D : va_G) (cl : List vw_C) (b N : Nat) (ce : Nat → (Nat → Int32) → va_E) (KK : State → Prop) (y : MethodName) (ws : List Cond) (rm : Room) (av : List Value) (σ : mm_M) (ra : Nat) (σ' : mm_M) : Prop := Met l y ws rm (pc_w D cl b N ce KK av σ) (qc_a D cl b N ce ra σ') 0 0 (mm_A b N)
theorem lo_entry (vs : List Value) (h : ∀ v ∈ vs, v.category = 1) {n : Nat} (hn : vs.length ≤ n) : lo_ok ((vs.map Slot.val ++ List.replicate (n - vs.length) Slot.unset).toArray) n (vs.map some) := by
  have hg : ∀ (i : Nat) (z : Slot), ((vs.map Slot.val ++ List.replicate (n - vs.length) Slot.unset).toArray)[i]? = some z → (∃ v ∈ vs, z = .val v) ∨ z = .unset := by
    intro i z hz
    have hm : z ∈ vs.map Slot.val ++ List.replicate (n - vs.length) Slot.unset := by
      rw [List.getElem?_toArray] at hz
      exact List.mem_of_getElem? hz
    rcases List.mem_append.mp hm with h1 | h1
    · obtain ⟨v, hv, rfl⟩ := List.mem_map.mp h1
      exact Or.inl ⟨v, hv, rfl⟩
    · exact Or.inr (List.eq_of_mem_replicate h1)
  refine ⟨by simp; omega, ⟨fun i v hv hc => ?_, fun i hi => ?_⟩, fun i v hi => ?_⟩
  · rcases hg i _ hv with ⟨w, hw, e⟩ | e
    · cases e
      rw [h v hw] at hc
      cases hc
    · cases e
  · rcases hg i _ hi with ⟨w, hw, e⟩ | e <;> cases e
  · rw [List.getElem?_map] at hi
    cases hq : vs[i]? with
    | none => rw [hq] at hi; cases hi
    | some w =>
      rw [hq] at hi
      cases hi
      refine ⟨h _ (List.mem_of_getElem? hq), ?_⟩
      have hlt : i < (vs.map Slot.val).length := by rw [List.length_map]; exact (List.getElem?_eq_some_iff.mp hq).1
      rw [List.getElem?_toArray, List.getElem?_append_left hlt, List.getElem?_map, hq]
      rfl
section VV2
variable {l : Launch} {D : va_G} {cl : List vw_C} {b N : Nat} {ce : Nat → (Nat → Int32) → va_E} {KK : State → Prop} {y : MethodName} {ws ws' : List Cond} {rm : Room} {av : List Value} {σ σ' : mm_M} {r : Int32} {ra : Nat} {cc : ByteArray} {maxL : Nat}
theorem vv_go {Qc : Array Value → State → Outcome → State → Prop} {ret : Option FieldType} {Res : Type} {k : Option Res} {fin : Res} (hy : plainName y.cls = true) (hw : ws = Cond.code y cc maxL ret :: ws') (hav : ∀ v ∈ av, v.category = 1) (hn : av.length ≤ maxL) (hk : k = some fin)
    (body : ∀ (p : Program) (e : Env) (s : State) (m : MethodId) (below : List Frame) (meth : Method) (c : Code), meth.locks = false → meth.sig.returnType = ret → CallFix p m c cc maxL s av.toArray ws y.cls → KK s →
      vv p l e (headSpec ws rm).room s m av.toArray below meth c D cl b N ce maxL (MQ below Qc av.toArray s 0 0 (mm_A b N)) fin k σ 0 (av.map some) []) : Met l y ws rm (pc_w D cl b N ce KK av σ) Qc 0 0 (mm_A b N) := by
  refine Met.ofW (cc := cc) (maxL := maxL) (ret := ret) hy hw ?_
  intro p e s m args below meth c s₁ B hml hv
  obtain ⟨rfl, hP, hKK⟩ := hv
  rw [entry_eq m av hav maxL]
  exact body p e s m below meth c B.notSynchronized B.returns ⟨B.exec, B.bytes, hml, findClass_of_methodNamed B.named, atoms_spec (ws := ws) B.pre⟩ hKK hk s.heap [] _ (lo_entry av hav hn) hP va_S.rf
end VV2
section VV3
variable {Res : Type} {p : Program} {l : Launch} {e : Env} {R : Room} {s : State} {m : MethodId} {args : Array Value} {below : List Frame} {meth : Method} {c : Code} {D : va_G} {cl : List vw_C} {b N : Nat} {ce : Nat → (Nat → Int32) → va_E} {nL : Nat} {Q : State → Prop} {fin : Res} {k A B : Option Res} {σ σ' : mm_M} {pc : Nat} {L L2 : List (Option Value)} {rest : List Value} {cc : ByteArray} {Ts : List Cond} {own : String} {r xv : Int32} {ra : Nat}
theorem v_iret (S : CallFix p m c cc nL s args Ts own) (hr : meth.sig.returnType = some .int) (hlocks : meth.locks = false) (d : decode cc pc = .ok (.ireturn, 1)) : vv p l e R s m args below meth c D cl b N ce nL (MQ below (qc_i D cl b N ce r σ') args s 0 0 (mm_A b N)) (r, σ') (some (xv, σ)) σ pc L [.int xv] := fun hk H locs ls hl hP hS =>
  W.iret S.1 S.2.1 hr (fun t ht hW => ⟨⟨xv, σ, rfl, ⟨congrArg Prod.fst (Option.some.inj hk), congrArg Prod.snd (Option.some.inj hk)⟩, by show mm_P D cl b N ce σ t.heap; rw [ht]; exact hP⟩, hS.F ht⟩) hS.2.2 d hlocks
theorem v_zret (S : CallFix p m c cc nL s args Ts own) (hr : meth.sig.returnType = some .boolean) (hlocks : meth.locks = false) (d : decode cc pc = .ok (.ireturn, 1)) : vv p l e R s m args below meth c D cl b N ce nL (MQ below (qc_i D cl b N ce r σ') args s 0 0 (mm_A b N)) (r, σ') (if xv = 0 ∨ xv = 1 then some (xv, σ) else none) σ pc L [.int xv] := fun hk H locs ls hl hP hS => by
  by_cases h : xv = 0 ∨ xv = 1
  · rw [if_pos h] at hk
    exact W.zret S.1 S.2.1 hr (by rcases h with rfl | rfl <;> rfl) (fun t ht hW => ⟨⟨xv, σ, rfl, ⟨congrArg Prod.fst (Option.some.inj hk), congrArg Prod.snd (Option.some.inj hk)⟩, by show mm_P D cl b N ce σ t.heap; rw [ht]; exact hP⟩, hS.F ht⟩) hS.2.2 d hlocks
  · rw [if_neg h] at hk
    cases hk
theorem v_vret (S : CallFix p m c cc nL s args Ts own) (hr : meth.sig.returnType = none) (hlocks : meth.locks = false) (d : decode cc pc = .ok (.return_, 1)) : vv p l e R s m args below meth c D cl b N ce nL (MQ below (qc_v D cl b N ce σ') args s 0 0 (mm_A b N)) σ' (some σ) σ pc L [] := fun hk H locs ls hl hP hS =>
  W.vret S.1 S.2.1 hr (fun t ht hW => ⟨⟨σ, rfl, Option.some.inj hk, by show mm_P D cl b N ce σ t.heap; rw [ht]; exact hP⟩, hS.F ht⟩) hS.2.2 d hlocks
theorem v_aret {nm : String} {ri : Nat} (ad : Nat → Nat) (S : CallFix p m c cc nL s args Ts own) (hr : meth.sig.returnType = some (.object nm)) (hlocks : meth.locks = false) {i : Nat} (d : decode cc pc = .ok (.areturn, 1)) : vv p l e R s m args below meth c D cl b N ce nL (MQ below (qc_a D cl b N ce (ad ri) σ') args s 0 0 (mm_A b N)) (ri, σ') (some (i, σ)) σ pc L [.ref (ad i)] := fun hk H locs ls hl hP hS =>
  W.aret S.1 S.2.1 hr (Or.inl ⟨nm, rfl⟩) (Or.inr ⟨_, rfl⟩) (fun t ht hW => ⟨⟨σ, ad i, rfl, congrArg Prod.snd (Option.some.inj hk), congrArg (fun z => ad z.1) (Option.some.inj hk), by show mm_P D cl b N ce σ t.heap; rw [ht]; exact hP⟩, hS.F ht⟩) hS.2.2 d hlocks
theorem v_ci {g : Option (Int32 × mm_M)} {kf : Int32 → mm_M → Option Res} {st0 : List Value} {av : Array Value}
    (hr : ∀ (r1 : Int32) (σ1 : mm_M), g = some (r1, σ1) → ∀ (H : Heap) (locs : List Loc) (ls : Array Slot), ls.size = nL → mm_P D cl b N ce σ H → va_S (mm_A b N) s.heap H locs → va_Run p l e R s m args below meth c H locs 0 0 0 0 (F0 m pc ls st0) rest (qc_i D cl b N ce r1 σ1 av) (mm_A b N))
    (kk : ∀ (r1 : Int32) (σ1 : mm_M), g = some (r1, σ1) → vv p l e R s m args below meth c D cl b N ce nL Q fin (kf r1 σ1) σ1 (pc + 3) L (.int r1 :: rest)) : vv p l e R s m args below meth c D cl b N ce nL Q fin (bd g kf) σ pc L st0 := by
  intro hk H locs ls hl hP hS
  cases hg : g with
  | none => rw [hg] at hk; cases hk
  | some z =>
    obtain ⟨r1, σ1⟩ := z
    rw [hg] at hk
    refine va_calli (hr r1 σ1 hg H locs ls hl.1 hP hS) hS (fun q _ h => h) (fun q h => h) (fun r u t H1 locs1 ht hvm hp hB hz hk1 hS1 => ?_)
    obtain ⟨rfl, rfl⟩ := hp
    exact kk r u hg hk H1 locs1 ls hl (by rw [← ht]; exact hB) hS1
theorem v_cv {g : Option mm_M} {kf : mm_M → Option Res} {st0 : List Value} {av : Array Value}
    (hr : ∀ (σ1 : mm_M), g = some σ1 → ∀ (H : Heap) (locs : List Loc) (ls : Array Slot), ls.size = nL → mm_P D cl b N ce σ H → va_S (mm_A b N) s.heap H locs → va_Run p l e R s m args below meth c H locs 0 0 0 0 (F0 m pc ls st0) rest (qc_v D cl b N ce σ1 av) (mm_A b N))
    (kk : ∀ (σ1 : mm_M), g = some σ1 → vv p l e R s m args below meth c D cl b N ce nL Q fin (kf σ1) σ1 (pc + 3) L rest) : vv p l e R s m args below meth c D cl b N ce nL Q fin (bv g kf) σ pc L st0 := by
  intro hk H locs ls hl hP hS
  cases hg : g with
  | none => rw [hg] at hk; cases hk
  | some σ1 =>
    rw [hg] at hk
    refine va_callv (hr σ1 hg H locs ls hl.1 hP hS) hS (fun q _ h => h) (fun q h => h) (fun u t H1 locs1 ht hvm hp hB hz hk1 hS1 => ?_)
    obtain rfl := hp
    exact kk u hg hk H1 locs1 ls hl (by rw [← ht]; exact hB) hS1
theorem v_ca {g : Option (Nat × mm_M)} {kf : Nat → mm_M → Option Res} {st0 : List Value} {av : Array Value} (ad : Nat → Nat)
    (hr : ∀ (r1 : Nat) (σ1 : mm_M), g = some (r1, σ1) → ∀ (H : Heap) (locs : List Loc) (ls : Array Slot), ls.size = nL → mm_P D cl b N ce σ H → va_S (mm_A b N) s.heap H locs → va_Run p l e R s m args below meth c H locs 0 0 0 0 (F0 m pc ls st0) rest (qc_a D cl b N ce (ad r1) σ1 av) (mm_A b N))
    (kk : ∀ (r1 : Nat) (σ1 : mm_M), g = some (r1, σ1) → vv p l e R s m args below meth c D cl b N ce nL Q fin (kf r1 σ1) σ1 (pc + 3) L (.ref (ad r1) :: rest)) : vv p l e R s m args below meth c D cl b N ce nL Q fin (bd g kf) σ pc L st0 := by
  intro hk H locs ls hl hP hS
  cases hg : g with
  | none => rw [hg] at hk; cases hk
  | some z =>
    obtain ⟨r1, σ1⟩ := z
    rw [hg] at hk
    refine va_callr (hr r1 σ1 hg H locs ls hl.1 hP hS) hS (fun q _ h => h) (fun q h => h) (fun u ra t H1 locs1 ht hvm hp hB hz hk1 hS1 => ?_)
    obtain rfl := hp
    obtain ⟨rfl, hB⟩ := hB
    exact kk r1 u hg hk H1 locs1 ls hl (by rw [← ht]; exact hB) hS1
end VV3
section VV4
variable {p : Program} {l : Launch} {e : Env} {R : Room} {s : State} {m : MethodId} {args : Array Value} {below : List Frame} {meth : Method} {c : Code} {D : va_G} {cl : List vw_C} {b N : Nat} {ce : Nat → (Nat → Int32) → va_E} {nL : Nat} {KK : State → Prop} {σ : mm_M} {pc : Nat} {rest : List Value} {cc : ByteArray} {Ts : List Cond} {own C host : String} {H : Heap} {locs : List Loc} {ls : Array Slot} {y : MethodName} {bytes : ByteArray} {maxL n index : Nat} {ret : Option FieldType} {ws : List Cond} {rm : Room} {As st0 : List Value} {Qc : Array Value → State → Outcome → State → Prop}
theorem pw_pre {av : List Value} (hkk : kk_ok b N KK) (hK : KK s) (hP : mm_P D cl b N ce σ H) (hS : va_S (mm_A b N) s.heap H locs) : FrameBlind (pc_w D cl b N ce KK av σ) ∧ ∀ U : State, U.heap = H → s.WarmedH U.vm → pc_w D cl b N ce KK av σ av.toArray U := by
  refine ⟨fun a U g mk q => ⟨q.1, q.2.1, hkk.2 U g mk a q.2.2⟩, fun U hU hW => ⟨rfl, by rw [hU]; exact hP, hkk.1 s U hK hW (fun a h1 h2 => by rw [hU]; exact hS.2.1 a h1 h2)⟩⟩
theorem run_S (S : CallFix p m c cc nL s args Ts own) (hkk : kk_ok b N KK) (hK : KK s) (hM : Met l y ws rm (pc_w D cl b N ce KK As σ) Qc 0 0 (mm_A b N)) (cw : CallB R s args own index y bytes maxL ret ws rm 0 0 n ∧ (Cond.static y).before args s = true) (hn : As.length = n) (hst : st0 = As.reverse ++ rest) (hw : (rest.map fun v => v.category).sum ≤ 8) (d : decode cc pc = .ok (.invokestatic index, 3)) (hsz : ls.size = nL) (hP : mm_P D cl b N ce σ H) (hS : va_S (mm_A b N) s.heap H locs) :
    va_Run p l e R s m args below meth c H locs 0 0 0 0 (F0 m pc ls st0) rest (Qc As.toArray) (mm_A b N) := va_runS S hM cw (pw_pre hkk hK hP hS) rfl hn hsz hst (lv_room hw) d ⟨Nat.zero_le _, Nat.zero_le _⟩
theorem run_SN (S : CallFix p m c cc nL s args Ts own) (hkk : kk_ok b N KK) (hK : KK s) (hM : Met l y ws rm (pc_w D cl b N ce KK As σ) Qc 0 0 (mm_A b N)) (cw : va_CN R s args own index y host bytes maxL ret ws rm 0 0 n ∧ (Cond.static y).before args s = true ∧ True) (hn : As.length = n) (hst : st0 = As.reverse ++ rest) (hw : (rest.map fun v => v.category).sum ≤ 8) (d : decode cc pc = .ok (.invokestatic index, 3)) (hsz : ls.size = nL) (hP : mm_P D cl b N ce σ H) (hS : va_S (mm_A b N) s.heap H locs) :
    va_Run p l e R s m args below meth c H locs 0 0 0 0 (F0 m pc ls st0) rest (Qc As.toArray) (mm_A b N) := va_runSN S hM cw (pw_pre hkk hK hP hS) rfl hn hsz hst (lv_room hw) d ⟨Nat.zero_le _, Nat.zero_le _⟩
theorem run_V {a : Nat} (S : CallFix p m c cc nL s args Ts own) (hkk : kk_ok b N KK) (hK : KK s) (hM : Met l y ws rm (pc_w D cl b N ce KK (.ref a :: As) σ) Qc 0 0 (mm_A b N)) (cw : CallW R s args own C index y bytes maxL ret ws rm 0 0 n) (hrc : ∃ cellB : Cell, H[a]? = some cellB ∧ cellB.vm.isStatics = false ∧ s.vm.findClass C = some cellB.cls) (hn : As.length = n) (hst : st0 = As.reverse ++ .ref a :: rest) (hw : (rest.map fun v => v.category).sum ≤ 8) (d : decode cc pc = .ok (.invokevirtual index, 3)) (hsz : ls.size = nL) (hP : mm_P D cl b N ce σ H) (hS : va_S (mm_A b N) s.heap H locs) :
    va_Run p l e R s m args below meth c H locs 0 0 0 0 (F0 m pc ls st0) rest (Qc (Value.ref a :: As).toArray) (mm_A b N) := va_runV S hM cw ⟨(pw_pre (av := .ref a :: As) hkk hK hP hS).1, hrc, (pw_pre (av := .ref a :: As) hkk hK hP hS).2⟩ rfl hn hsz hst (lv_room hw) d ⟨Nat.zero_le _, Nat.zero_le _⟩
theorem run_VN {a : Nat} (S : CallFix p m c cc nL s args Ts own) (hkk : kk_ok b N KK) (hK : KK s) (hM : Met l y ws rm (pc_w D cl b N ce KK (.ref a :: As) σ) Qc 0 0 (mm_A b N)) (cw : va_CN R s args own index y host bytes maxL ret ws rm 0 0 n ∧ (Cond.instanceMethod y).before args s = true ∧ (Cond.selects C y y).before args s = true) (hrc : ∃ cellB : Cell, H[a]? = some cellB ∧ cellB.vm.isStatics = false ∧ s.vm.findClass C = some cellB.cls) (hn : As.length = n) (hst : st0 = As.reverse ++ .ref a :: rest) (hw : (rest.map fun v => v.category).sum ≤ 8) (d : decode cc pc = .ok (.invokevirtual index, 3)) (hsz : ls.size = nL) (hP : mm_P D cl b N ce σ H) (hS : va_S (mm_A b N) s.heap H locs) :
    va_Run p l e R s m args below meth c H locs 0 0 0 0 (F0 m pc ls st0) rest (Qc (Value.ref a :: As).toArray) (mm_A b N) := va_runVN S hM cw ⟨(pw_pre (av := .ref a :: As) hkk hK hP hS).1, hrc, (pw_pre (av := .ref a :: As) hkk hK hP hS).2⟩ rfl hn hsz hst (lv_room hw) d ⟨Nat.zero_le _, Nat.zero_le _⟩
theorem rc_w {tys : List (ClassId × FieldType)} (hK : va_K D cl tys s) (hP : mm_P D cl b N ce σ H) (kq : Nat) (hkq : kq < N) {ci : Nat} {fs : List Value} {q : vw_C} (hce : ce kq (σ kq) = .inr (ci, fs)) (hc : cl[ci]? = some q) : ∃ cellB : Cell, H[b + kq]? = some cellB ∧ cellB.vm.isStatics = false ∧ s.vm.findClass q.1 = some cellB.cls := by
  obtain ⟨r, h1, cell, q1, q2, q3, q4⟩ := hP kq (b + kq, .inr (ci, fs)) (by rw [mm_get hkq, hce])
  obtain ⟨hS, hfc, -⟩ := hK.1 ci _ hc
  exact ⟨cell, q1, by rw [q3]; rfl, by rw [q2]; exact hfc⟩
end VV4
end
section
/-! part 03: names, field tables, the one word list, call rows; written by wip/whole/names.py -/
def wG : List Cond := lw_tbl.filter goodWord
theorem wg_t {w : Cond} (i : Nat) (h : tables_1[i]? = some w) (hg : goodWord w = true) : w ∈ wG := List.mem_filter.mpr ⟨List.mem_append_right _ (List.mem_of_getElem? h), hg⟩
theorem wg_s {q : MethodName × Nat} (i : Nat) (h : lw_privs[i]? = some q) (hg : goodWord (Cond.selects q.1.cls q.1 q.1) = true) : Cond.selects q.1.cls q.1 q.1 ∈ wG := List.mem_filter.mpr ⟨List.mem_append_left _ (List.mem_map.mpr ⟨q, List.mem_of_getElem? h, rfl⟩), hg⟩
theorem wg_in {Ts : List Cond} {y : MethodName} {b : ByteArray} {n : Nat} {r : Option FieldType} (h : ∀ w ∈ wG, w ∈ Ts) (hc : Cond.code y b n r ∈ wG) : GoodIn Ts (Cond.code y b n r :: wG) := by
  intro w hw
  have h1 : w ∈ wG := by
    rcases List.mem_cons.mp hw with rfl | h1
    · exact hc
    · exact h1
  exact ⟨h w h1, good_of_word (List.mem_filter.mp h1).2⟩
theorem cb_G {R : Room} {s : State} {args : Array Value} {own : String} {index : Nat} {y : MethodName} {bytes : ByteArray} {maxL n : Nat} {ret : Option FieldType} {rm : Room} {Ts : List Cond} (hts : ∀ w ∈ Ts, w.before args s = true) (hsub : ∀ w ∈ wG, w ∈ Ts) (hc : Cond.code y bytes maxL ret ∈ wG) (hini : Cond.initialized y.cls ∈ wG) (hl : Cond.methodLink own index y ∈ wG)
    (hd : y.cls ≠ "java/lang/invoke/MethodHandle" ∧ y.cls ≠ "java/lang/invoke/VarHandle" ∧ (parseMethodDescriptor y.desc).map (fun d => d.parameters.length) = some n) (hrc : rm.cells = 0) (hrs : rm.slots = 0) (hR : rm.frames + 1 ≤ R.frames ∧ 8 + (maxL + 11) + rm.locals ≤ R.locals) : CallB R s args own index y bytes maxL ret (Cond.code y bytes maxL ret :: wG) rm 0 0 n :=
  callB_of n hts (wg_in hsub hc) rfl hrc hrs (hts _ (hsub _ hini)) (hts _ (hsub _ hl)) hd hR
def F_FV : u_T := fun k => match k with
  | 0 => ("FrameVerifier", "code", "LFrameVerifier$Code;", true)
  | 1 => ("FrameVerifier", "flow", "LFrameVerifier$Flow;", true)
  | 2 => ("FrameVerifier", "machine", "LFrameVerifier$Machine;", true)
  | _ => ("FrameVerifier", "verified", "Z", false)
def t_FV : Nat → FieldType := fun k => match k with
  | 0 => (.object "FrameVerifier$Code")
  | 1 => (.object "FrameVerifier$Flow")
  | 2 => (.object "FrameVerifier$Machine")
  | _ => .boolean
theorem n_FV : ∀ a, a < 4 → ∀ b, b < 4 → a ≠ b → (F_FV a).2.1 ≠ (F_FV b).2.1 := by decide +kernel
theorem t_FV_ok : ∀ k, k < 4 → parseFieldDescriptor (F_FV k).2.2.1 = some (t_FV k) := by decide +kernel
theorem i_FV : ∀ w ∈ u_ws "FrameVerifier" F_FV 4, w ∈ wG := by
  intro w hw
  obtain ⟨k, hk, rfl⟩ := List.mem_map.mp hw
  have hk := List.mem_range.mp hk
  exact (show ∀ k, k < 4 → u_lay "FrameVerifier" F_FV k ∈ wG from fun k hk => wg_t ([147, 149, 151, 153].getD k 0) ((show ∀ k, k < 4 → tables_1[[147, 149, 151, 153].getD k 0]? = some (u_lay "FrameVerifier" F_FV k) by decide +kernel) k hk) ((show ∀ k, k < 4 → goodWord (u_lay "FrameVerifier" F_FV k) = true by decide +kernel) k hk)) k hk
def F_Co : u_T := fun k => match k with
  | 0 => ("FrameVerifier$Code", "count", "I", false)
  | 1 => ("FrameVerifier$Code", "ops", "[I", true)
  | 2 => ("FrameVerifier$Code", "numbers", "[I", true)
  | 3 => ("FrameVerifier$Code", "told", "[Z", true)
  | 4 => ("FrameVerifier$Code", "starts", "[I", true)
  | 5 => ("FrameVerifier$Code", "parameters", "[I", true)
  | _ => ("FrameVerifier$Code", "kinds", "[I", true)
def t_Co : Nat → FieldType := fun k => match k with
  | 0 => .int
  | 1 => (.array .int)
  | 2 => (.array .int)
  | 3 => (.array .boolean)
  | 4 => (.array .int)
  | 5 => (.array .int)
  | _ => (.array .int)
theorem n_Co : ∀ a, a < 7 → ∀ b, b < 7 → a ≠ b → (F_Co a).2.1 ≠ (F_Co b).2.1 := by decide +kernel
theorem t_Co_ok : ∀ k, k < 7 → parseFieldDescriptor (F_Co k).2.2.1 = some (t_Co k) := by decide +kernel
theorem i_Co : ∀ w ∈ u_ws "FrameVerifier$Code" F_Co 7, w ∈ wG := by
  intro w hw
  obtain ⟨k, hk, rfl⟩ := List.mem_map.mp hw
  have hk := List.mem_range.mp hk
  exact (show ∀ k, k < 7 → u_lay "FrameVerifier$Code" F_Co k ∈ wG from fun k hk => wg_t ([49, 51, 53, 55, 57, 59, 61].getD k 0) ((show ∀ k, k < 7 → tables_1[[49, 51, 53, 55, 57, 59, 61].getD k 0]? = some (u_lay "FrameVerifier$Code" F_Co k) by decide +kernel) k hk) ((show ∀ k, k < 7 → goodWord (u_lay "FrameVerifier$Code" F_Co k) = true by decide +kernel) k hk)) k hk
def F_Fl : u_T := fun k => match k with
  | 0 => ("FrameVerifier$Flow", "code", "LFrameVerifier$Code;", true)
  | 1 => ("FrameVerifier$Flow", "known", "[Z", true)
  | 2 => ("FrameVerifier$Flow", "states", "[[I", true)
  | 3 => ("FrameVerifier$Flow", "waiting", "[Z", true)
  | _ => ("FrameVerifier$Flow", "waitingFrom", "I", false)
def t_Fl : Nat → FieldType := fun k => match k with
  | 0 => (.object "FrameVerifier$Code")
  | 1 => (.array .boolean)
  | 2 => (.array (.array .int))
  | 3 => (.array .boolean)
  | _ => .int
theorem n_Fl : ∀ a, a < 5 → ∀ b, b < 5 → a ≠ b → (F_Fl a).2.1 ≠ (F_Fl b).2.1 := by decide +kernel
theorem t_Fl_ok : ∀ k, k < 5 → parseFieldDescriptor (F_Fl k).2.2.1 = some (t_Fl k) := by decide +kernel
theorem i_Fl : ∀ w ∈ u_ws "FrameVerifier$Flow" F_Fl 5, w ∈ wG := by
  intro w hw
  obtain ⟨k, hk, rfl⟩ := List.mem_map.mp hw
  have hk := List.mem_range.mp hk
  exact (show ∀ k, k < 5 → u_lay "FrameVerifier$Flow" F_Fl k ∈ wG from fun k hk => wg_t ([79, 81, 83, 85, 87].getD k 0) ((show ∀ k, k < 5 → tables_1[[79, 81, 83, 85, 87].getD k 0]? = some (u_lay "FrameVerifier$Flow" F_Fl k) by decide +kernel) k hk) ((show ∀ k, k < 5 → goodWord (u_lay "FrameVerifier$Flow" F_Fl k) = true by decide +kernel) k hk)) k hk
def F_Fr : u_T := fun k => match k with
  | 0 => ("FrameVerifier$Frame", "owner", "I", false)
  | 1 => ("FrameVerifier$Frame", "address", "I", false)
  | 2 => ("FrameVerifier$Frame", "types", "I", false)
  | _ => ("FrameVerifier$Frame", "values", "[I", true)
def t_Fr : Nat → FieldType := fun k => match k with
  | 0 => .int
  | 1 => .int
  | 2 => .int
  | _ => (.array .int)
theorem n_Fr : ∀ a, a < 4 → ∀ b, b < 4 → a ≠ b → (F_Fr a).2.1 ≠ (F_Fr b).2.1 := by decide +kernel
theorem t_Fr_ok : ∀ k, k < 4 → parseFieldDescriptor (F_Fr k).2.2.1 = some (t_Fr k) := by decide +kernel
theorem i_Fr : ∀ w ∈ u_ws "FrameVerifier$Frame" F_Fr 4, w ∈ wG := by
  intro w hw
  obtain ⟨k, hk, rfl⟩ := List.mem_map.mp hw
  have hk := List.mem_range.mp hk
  exact (show ∀ k, k < 4 → u_lay "FrameVerifier$Frame" F_Fr k ∈ wG from fun k hk => wg_t ([112, 114, 116, 118].getD k 0) ((show ∀ k, k < 4 → tables_1[[112, 114, 116, 118].getD k 0]? = some (u_lay "FrameVerifier$Frame" F_Fr k) by decide +kernel) k hk) ((show ∀ k, k < 4 → goodWord (u_lay "FrameVerifier$Frame" F_Fr k) = true by decide +kernel) k hk)) k hk
def F_Ma : u_T := fun k => match k with
  | 0 => ("FrameVerifier$Machine", "depth", "I", false)
  | 1 => ("FrameVerifier$Machine", "used", "I", false)
  | 2 => ("FrameVerifier$Machine", "result", "I", false)
  | 3 => ("FrameVerifier$Machine", "code", "LFrameVerifier$Code;", true)
  | 4 => ("FrameVerifier$Machine", "frames", "[LFrameVerifier$Frame;", true)
  | _ => ("FrameVerifier$Machine", "elements", "[I", true)
def t_Ma : Nat → FieldType := fun k => match k with
  | 0 => .int
  | 1 => .int
  | 2 => .int
  | 3 => (.object "FrameVerifier$Code")
  | 4 => (.array (.object "FrameVerifier$Frame"))
  | _ => (.array .int)
theorem n_Ma : ∀ a, a < 6 → ∀ b, b < 6 → a ≠ b → (F_Ma a).2.1 ≠ (F_Ma b).2.1 := by decide +kernel
theorem t_Ma_ok : ∀ k, k < 6 → parseFieldDescriptor (F_Ma k).2.2.1 = some (t_Ma k) := by decide +kernel
theorem i_Ma : ∀ w ∈ u_ws "FrameVerifier$Machine" F_Ma 6, w ∈ wG := by
  intro w hw
  obtain ⟨k, hk, rfl⟩ := List.mem_map.mp hw
  have hk := List.mem_range.mp hk
  exact (show ∀ k, k < 6 → u_lay "FrameVerifier$Machine" F_Ma k ∈ wG from fun k hk => wg_t ([130, 132, 134, 136, 138, 140].getD k 0) ((show ∀ k, k < 6 → tables_1[[130, 132, 134, 136, 138, 140].getD k 0]? = some (u_lay "FrameVerifier$Machine" F_Ma k) by decide +kernel) k hk) ((show ∀ k, k < 6 → goodWord (u_lay "FrameVerifier$Machine" F_Ma k) = true by decide +kernel) k hk)) k hk
def F_Mo : u_T := fun k => match k with
  | 0 => ("FrameVerifierModel", "instructions", "I", false)
  | 1 => ("FrameVerifierModel", "op", "[I", true)
  | 2 => ("FrameVerifierModel", "number", "[I", true)
  | 3 => ("FrameVerifierModel", "there", "[Z", true)
  | 4 => ("FrameVerifierModel", "start", "[I", true)
  | 5 => ("FrameVerifierModel", "parameters", "[I", true)
  | 6 => ("FrameVerifierModel", "kinds", "[I", true)
  | 7 => ("FrameVerifierModel", "verified", "Z", false)
  | 8 => ("FrameVerifierModel", "height", "[I", true)
  | 9 => ("FrameVerifierModel", "types", "[I", true)
  | 10 => ("FrameVerifierModel", "waits", "[Z", true)
  | 11 => ("FrameVerifierModel", "high", "I", false)
  | 12 => ("FrameVerifierModel", "row", "[I", true)
  | 13 => ("FrameVerifierModel", "bad", "Z", false)
  | 14 => ("FrameVerifierModel", "goesBehind", "Z", false)
  | 15 => ("FrameVerifierModel", "goesTo", "I", false)
  | 16 => ("FrameVerifierModel", "frames", "I", false)
  | 17 => ("FrameVerifierModel", "routineOf", "[I", true)
  | 18 => ("FrameVerifierModel", "at", "[I", true)
  | 19 => ("FrameVerifierModel", "heightOf", "[I", true)
  | 20 => ("FrameVerifierModel", "value", "[I", true)
  | 21 => ("FrameVerifierModel", "kind", "[I", true)
  | 22 => ("FrameVerifierModel", "elements", "I", false)
  | 23 => ("FrameVerifierModel", "heap", "[I", true)
  | 24 => ("FrameVerifierModel", "result", "I", false)
  | 25 => ("FrameVerifierModel", "trap", "I", false)
  | _ => ("FrameVerifierModel", "thrown", "I", false)
def t_Mo : Nat → FieldType := fun k => match k with
  | 0 => .int
  | 1 => (.array .int)
  | 2 => (.array .int)
  | 3 => (.array .boolean)
  | 4 => (.array .int)
  | 5 => (.array .int)
  | 6 => (.array .int)
  | 7 => .boolean
  | 8 => (.array .int)
  | 9 => (.array .int)
  | 10 => (.array .boolean)
  | 11 => .int
  | 12 => (.array .int)
  | 13 => .boolean
  | 14 => .boolean
  | 15 => .int
  | 16 => .int
  | 17 => (.array .int)
  | 18 => (.array .int)
  | 19 => (.array .int)
  | 20 => (.array .int)
  | 21 => (.array .int)
  | 22 => .int
  | 23 => (.array .int)
  | 24 => .int
  | 25 => .int
  | _ => .int
theorem n_Mo : ∀ a, a < 27 → ∀ b, b < 27 → a ≠ b → (F_Mo a).2.1 ≠ (F_Mo b).2.1 := by decide +kernel
theorem t_Mo_ok : ∀ k, k < 27 → parseFieldDescriptor (F_Mo k).2.2.1 = some (t_Mo k) := by decide +kernel
theorem i_Mo : ∀ w ∈ u_ws "FrameVerifierModel" F_Mo 27, w ∈ wG := by
  intro w hw
  obtain ⟨k, hk, rfl⟩ := List.mem_map.mp hw
  have hk := List.mem_range.mp hk
  exact (show ∀ k, k < 27 → u_lay "FrameVerifierModel" F_Mo k ∈ wG from fun k hk => wg_t ([768, 770, 772, 774, 776, 778, 780, 782, 784, 786, 788, 790, 792, 794, 796, 798, 800, 802, 804, 806, 808, 810, 812, 814, 816, 818, 820].getD k 0) ((show ∀ k, k < 27 → tables_1[[768, 770, 772, 774, 776, 778, 780, 782, 784, 786, 788, 790, 792, 794, 796, 798, 800, 802, 804, 806, 808, 810, 812, 814, 816, 818, 820].getD k 0]? = some (u_lay "FrameVerifierModel" F_Mo k) by decide +kernel) k hk) ((show ∀ k, k < 27 → goodWord (u_lay "FrameVerifierModel" F_Mo k) = true by decide +kernel) k hk)) k hk
abbrev cls : List vw_C := [("FrameVerifier", F_FV, 4), ("FrameVerifier$Code", F_Co, 7), ("FrameVerifier$Flow", F_Fl, 5), ("FrameVerifier$Frame", F_Fr, 4), ("FrameVerifier$Machine", F_Ma, 6), ("FrameVerifierModel", F_Mo, 27)]
end
section
/-! part 04: the two worlds; constants; written by wip/whole/world.py -/
def fuel0 : Nat := 200000
def nm {α β : Type} (a : α) (k : α → β) : β := k a
def mw (σ : mm_M) (k j : Nat) (v : Int32) : mm_M := va_up σ k (upd (σ k) j v)
def mi_n (x y : Int32) : Int32 := if y < x then y else x
def N_C : Nat := 35
def N_M : Nat := 17
def tys (ca : Nat → ClassId) : List (ClassId × FieldType) := [(ca 0, .int), (ca 1, .boolean), (ca 2, .object "FrameVerifier$Frame"), (ca 3, .array .int), (ca 4, .long)]
def op_nm (i : Nat) : String := ["PUSH", "ADD", "SUBTRACT", "MULTIPLY", "DIVIDE", "LOAD", "STORE", "JUMP", "ZERO", "NONE", "MISSING", "NEW", "GET", "PUT", "LENGTH", "TWICE", "EXCHANGE", "DROP", "CALL", "RETURN"].getD i ""
def tr_nm (i : Nat) : String := ["NO_TRAP", "UNFIT", "DIVISION", "MISSING_ARRAY", "OUTSIDE", "FULL"].getD i ""
def op_gives (i : Nat) : Int32 := ([1, 1, 1, 1, 1, 3, 0, 0, 0, 2, 0, 2, 1, 0, 1, 3, 3, 0, 3, 0] : List Int32).getD i 0
def op_behind (i : Nat) : Int32 := ([1, 1, 1, 1, 1, 1, 1, 0, 1, 1, 1, 1, 1, 1, 1, 1, 1, 1, 1, 0] : List Int32).getD i 0
def st_of (i : Nat) : Nat := ([0, 1, 1, 1, 1, 0, 2, 0, 3, 0, 4, 3, 5, 6, 4, 2, 7, 2, 0, 2] : List Nat).getD i 0
def sw_op (i : Nat) : Int32 := ([15, 12, 13, 14, 7, 1, 2, 0, 0, 16, 0, 11, 8, 9, 10, 3, 4, 0, 5, 6] : List Int32).getD i 0
def sw_tr (i : Nat) : Int32 := ([0, 1, 2, 3, 4, 0] : List Int32).getD i 0
def tx_n (i : Nat) : Nat := ([0, 2, 1, 1, 1, 2, 3, 2] : List Nat).getD i 0
def tx_b (i j : Nat) : Int32 := ([[], [105, 105], [97], [105], [114], [114, 105], [114, 105, 105], [97, 97]] : List (List Int32)).getD i [] |>.getD j 0
def st_n (o : Nat) : Nat := tx_n (st_of o)
def st_len (o : Nat) : Int32 := nI (st_n o)
def st_at (o j : Nat) : Int32 := tx_b (st_of o) j
def ce_0 (ca : Nat → ClassId) (b : Nat) (k : Nat) (f : Nat → Int32) : va_E := match k with
  | 0 => .inr (0, [.ref (b + 1), .ref (b + 8), .ref (b + 16), .int (f 3)])
  | 1 => .inr (1, [.int (f 0), .ref (b + 2), .ref (b + 3), .ref (b + 4), .ref (b + 5), .ref (b + 6), .ref (b + 7)])
  | 2 => .inl (ca 0, 100, .inl f)
  | 3 => .inl (ca 0, 100, .inl f)
  | 4 => .inl (ca 1, 4, .inl f)
  | 5 => .inl (ca 0, 4, .inl f)
  | 6 => .inl (ca 0, 4, .inl f)
  | 7 => .inl (ca 0, 4, .inl f)
  | 8 => .inr (2, [.ref (b + 1), .ref (b + 9), .ref (b + 10), .ref (b + 15), .int (f 4)])
  | 9 => .inl (ca 1, 4, .inl f)
  | 10 => .inl (ca 3, 4, .inr (.inr (.inr (.inr (fun j => some (b + (11 + j)))))))
  | 11 => .inl (ca 0, 100, .inl f)
  | 12 => .inl (ca 0, 100, .inl f)
  | 13 => .inl (ca 0, 100, .inl f)
  | 14 => .inl (ca 0, 100, .inl f)
  | 15 => .inl (ca 1, 100, .inl f)
  | 16 => .inr (4, [.int (f 0), .int (f 1), .int (f 2), .ref (b + 1), .ref (b + 18), .ref (b + 17)])
  | 17 => .inl (ca 0, 30, .inl f)
  | _ => .inl (ca 2, 8, .inr (.inr (.inr (.inr (fun j => some (b + (19 + 2 * j)))))))
def ce_C (ca : Nat → ClassId) (b : Nat) (k : Nat) (f : Nat → Int32) : va_E := if k < 19 then ce_0 ca b k f else if (k - 19) % 2 = 0 then .inr (3, [.int (f 0), .int (f 1), .int (f 2), .ref (b + (k + 1))]) else .inl (ca 0, 12, .inl f)
def ce_M (ca : Nat → ClassId) (b : Nat) (k : Nat) (f : Nat → Int32) : va_E := match k with
  | 0 => .inr (5, [.int (f 0), .ref (b + 1), .ref (b + 2), .ref (b + 3), .ref (b + 4), .ref (b + 5), .ref (b + 6), .int (f 7), .ref (b + 7), .ref (b + 8), .ref (b + 9), .int (f 11), .ref (b + 10), .int (f 13), .int (f 14), .int (f 15), .int (f 16), .ref (b + 11), .ref (b + 12), .ref (b + 13), .ref (b + 14), .ref (b + 15), .int (f 22), .ref (b + 16), .int (f 24), .int (f 25), .int (f 26)])
  | 1 => .inl (ca 0, 100, .inl f)
  | 2 => .inl (ca 0, 100, .inl f)
  | 3 => .inl (ca 1, 4, .inl f)
  | 4 => .inl (ca 0, 4, .inl f)
  | 5 => .inl (ca 0, 4, .inl f)
  | 6 => .inl (ca 0, 4, .inl f)
  | 7 => .inl (ca 0, 400, .inl f)
  | 8 => .inl (ca 0, 4800, .inl f)
  | 9 => .inl (ca 1, 400, .inl f)
  | 10 => .inl (ca 0, 12, .inl f)
  | 11 => .inl (ca 0, 8, .inl f)
  | 12 => .inl (ca 0, 8, .inl f)
  | 13 => .inl (ca 0, 8, .inl f)
  | 14 => .inl (ca 0, 96, .inl f)
  | 15 => .inl (ca 0, 96, .inl f)
  | _ => .inl (ca 0, 31, .inl f)
theorem fr_lt {i : Nat} (h : i < 8) : 19 + 2 * i < N_C := by unfold N_C; omega
theorem vl_lt {i : Nat} (h : i < 8) : 20 + 2 * i < N_C := by unfold N_C; omega
theorem rw_lt {i : Nat} (h : i < 4) : 11 + i < N_C := by unfold N_C; omega
theorem ce_fr {ca : Nat → ClassId} {b i : Nat} (_h : i < 8) {f : Nat → Int32} : ce_C ca b (19 + 2 * i) f = .inr (3, [.int (f 0), .int (f 1), .int (f 2), .ref (b + (20 + 2 * i))]) := by
  unfold ce_C
  rw [if_neg (by omega), if_pos (by omega), show 19 + 2 * i + 1 = 20 + 2 * i by omega]
theorem ce_frP {ca : Nat → ClassId} {b i : Nat} (h : i < 8) (j : Nat) (hj : j < 3) {f : Nat → Int32} {v : Int32} : (.inr (3, ([.int (f 0), .int (f 1), .int (f 2), .ref (b + (20 + 2 * i))] : List Value).set j (.int v)) : va_E) = ce_C ca b (19 + 2 * i) (upd f j v) := by
  rw [ce_fr h]
  rcases (show j = 0 ∨ j = 1 ∨ j = 2 by omega) with rfl | rfl | rfl <;> rfl
theorem ce_vl {ca : Nat → ClassId} {b i : Nat} (_h : i < 8) {f : Nat → Int32} : ce_C ca b (20 + 2 * i) f = .inl (ca 0, 12, .inl f) := by
  unfold ce_C
  rw [if_neg (by omega), if_neg (by omega)]
theorem ce_vlA {ca : Nat → ClassId} {b i : Nat} (h : i < 8) : ∀ f : Nat → Int32, ce_C ca b (20 + 2 * i) f = .inl (ca 0, 12, .inl f) := fun _ => ce_vl h
theorem ce_rwA {ca : Nat → ClassId} {b i : Nat} (h : i < 4) : ∀ f : Nat → Int32, ce_C ca b (11 + i) f = .inl (ca 0, 100, .inl f) := by
  intro f
  rcases (show i = 0 ∨ i = 1 ∨ i = 2 ∨ i = 3 by omega) with rfl | rfl | rfl | rfl <;> rfl
theorem ce_rw {ca : Nat → ClassId} {b i : Nat} (h : i < 4) {f : Nat → Int32} : ce_C ca b (11 + i) f = .inl (ca 0, 100, .inl f) := ce_rwA h f
theorem ib {i : Int32} {n : Nat} (h : ¬ (i < 0 ∨ n ≤ i.toNatClampNeg)) : (i.toNatClampNeg) < n := Nat.not_le.mp fun q => h (Or.inr q)
theorem nz_b {v : Int32} (h : v = 0 ∨ v = 1) : narrow .boolean (.int v) = .int v := by rcases h with rfl | rfl <;> rfl
theorem fz_b {v : Int32} (h : v = 0 ∨ v = 1) : fits .boolean (.int v) = true := by rcases h with rfl | rfl <;> rfl
theorem vp_nb {v : Int32} (h : v = 0 ∨ v = 1) : vp_nar .boolean v = v := by rcases h with rfl | rfl <;> rfl
theorem i32_ne {x v : Int32} {n : Int} (h : ¬ x = v) (hv : v.toInt = n) : x.toInt ≠ n := fun q => h (Int32.toInt_inj.mp (by rw [q, hv]))
/-- a place of the locals, wherever the list ends -/
def lo_st : List (Option Value) → Nat → Value → List (Option Value)
  | [], 0, v => [some v]
  | [], n + 1, v => none :: lo_st [] n v
  | _ :: t, 0, v => some v :: t
  | x :: t, n + 1, v => x :: lo_st t n v
theorem lo_st_at : ∀ (L : List (Option Value)) (i : Nat) (v : Value), (lo_st L i v)[i]? = some (some v)
  | [], 0, v => rfl
  | [], n + 1, v => by rw [lo_st, List.getElem?_cons_succ]; exact lo_st_at [] n v
  | _ :: t, 0, v => rfl
  | x :: t, n + 1, v => by rw [lo_st, List.getElem?_cons_succ]; exact lo_st_at t n v
theorem lo_st_ne : ∀ (L : List (Option Value)) (i : Nat) (v : Value) (j : Nat), j ≠ i → ∀ w, (lo_st L i v)[j]? = some (some w) → L[j]? = some (some w)
  | [], 0, v, j, hj, w, h => by
    cases j with
    | zero => exact absurd rfl hj
    | succ j => simp [lo_st] at h
  | [], n + 1, v, j, hj, w, h => by
    cases j with
    | zero => simp [lo_st] at h
    | succ j =>
      rw [lo_st, List.getElem?_cons_succ] at h
      have := lo_st_ne [] n v j (by omega) w h
      simp at this
  | _ :: t, 0, v, j, hj, w, h => by
    cases j with
    | zero => exact absurd rfl hj
    | succ j => rw [lo_st, List.getElem?_cons_succ] at h; rw [List.getElem?_cons_succ]; exact h
  | x :: t, n + 1, v, j, hj, w, h => by
    cases j with
    | zero => rw [lo_st, List.getElem?_cons_zero] at h; rw [List.getElem?_cons_zero]; exact h
    | succ j =>
      rw [lo_st, List.getElem?_cons_succ] at h
      rw [List.getElem?_cons_succ]
      exact lo_st_ne t n v j (by omega) w h
theorem lo_putP {ls ls' : Array Slot} {nL i : Nat} {v : Value} {L : List (Option Value)} (h : lo_ok ls nL L) (hv : v.category = 1) (h2 : lv_has ls' nL ((i, v) :: (lo_li L).filter (fun q => !(q.1 == i) && !(q.1 + 1 == i && q.2.category == 2)))) : lo_ok ls' nL (lo_st L i v) := by
  refine ⟨h2.1, h2.2.1, fun j w hj => ?_⟩
  by_cases hji : j = i
  · subst hji
    rw [lo_st_at] at hj
    cases hj
    exact ⟨hv, h2.2.2 (j, v) List.mem_cons_self⟩
  · have hj := lo_st_ne L i v j hji w hj
    have h1 := (h.2.2 j w hj).1
    refine ⟨h1, h2.2.2 (j, w) (List.mem_cons_of_mem _ (List.mem_filter.mpr ⟨lo_mem.mpr hj, ?_⟩))⟩
    simp [hji, h1]
/-- what is known of the constants -/
def kc_c (ax : Nat → Nat → Nat) (A : Nat → Prop) (U : State) (H : Heap) : Prop :=
  (∀ i, i < 20 → va_Z "FrameVerifier$Op" (op_nm i) "LFrameVerifier$Op;" (.ref (ax 0 i)) A U H ∧ va_O "FrameVerifier$Op" (ax 0 i) A U H ∧ va_OF "java/lang/Enum" "ordinal" "I" (.int (nI i)) (ax 0 i) A U H ∧ va_OF "FrameVerifier$Op" "gives" "I" (.int (op_gives i)) (ax 0 i) A U H ∧ va_OF "FrameVerifier$Op" "goesBehind" "Z" (.int (op_behind i)) (ax 0 i) A U H ∧ va_OF "FrameVerifier$Op" "takes" "Ljava/lang/String;" (.ref (ax 5 (st_of i))) (ax 0 i) A U H) ∧
  (∀ i, i < 6 → va_Z "FrameVerifier$Trap" (tr_nm i) "LFrameVerifier$Trap;" (.ref (ax 1 i)) A U H ∧ va_O "FrameVerifier$Trap" (ax 1 i) A U H ∧ va_OF "java/lang/Enum" "ordinal" "I" (.int (nI i)) (ax 1 i) A U H) ∧
  (∀ i, i < 8 → va_O "java/lang/String" (ax 5 i) A U H ∧ va_OF "java/lang/String" "coder" "B" (.int 0) (ax 5 i) A U H ∧ va_OF "java/lang/String" "value" "[B" (.ref (ax 6 i)) (ax 5 i) A U H ∧ va_T .byte (ax 6 i) (tx_n i) (fun j => .int (tx_b i j)) A U H) ∧
  (va_Z "FrameVerifier" "OPS" "[LFrameVerifier$Op;" (.ref (ax 2 0)) A U H ∧ va_T (.object "FrameVerifier$Op") (ax 2 0) 20 (fun j => .ref (ax 0 j)) A U H) ∧
  (va_Z "FrameVerifier$1" "$SwitchMap$FrameVerifier$Op" "[I" (.ref (ax 3 0)) A U H ∧ va_T .int (ax 3 0) 20 (fun j => .int (sw_op j)) A U H) ∧
  (va_Z "FrameVerifier$1" "$SwitchMap$FrameVerifier$Trap" "[I" (.ref (ax 4 0)) A U H ∧ va_T .int (ax 4 0) 6 (fun j => .int (sw_tr j)) A U H) ∧
  va_Z "java/lang/String" "COMPACT_STRINGS" "Z" (.int 1) A U H
theorem kc_c.moved {ax : Nat → Nat → Nat} {A : Nat → Prop} {u U : State} {H : Heap} (hvm : u.vm.Alike U.vm) (h : kc_c ax A u H) : kc_c ax A U H := by
  obtain ⟨h1, h2, h3, h4, h5, h6, h7⟩ := h
  exact ⟨fun i hi => ⟨(h1 i hi).1.moved hvm, (h1 i hi).2.1.moved hvm, (h1 i hi).2.2.1.moved hvm, (h1 i hi).2.2.2.1.moved hvm, (h1 i hi).2.2.2.2.1.moved hvm, (h1 i hi).2.2.2.2.2.moved hvm⟩, fun i hi => ⟨(h2 i hi).1.moved hvm, (h2 i hi).2.1.moved hvm, (h2 i hi).2.2.moved hvm⟩, fun i hi => ⟨(h3 i hi).1.moved hvm, (h3 i hi).2.1.moved hvm, (h3 i hi).2.2.1.moved hvm, (h3 i hi).2.2.2.moved hvm⟩, ⟨h4.1.moved hvm, h4.2.moved hvm⟩, ⟨h5.1.moved hvm, h5.2.moved hvm⟩, ⟨h6.1.moved hvm, h6.2.moved hvm⟩, h7.moved hvm⟩
theorem kc_c.kept {ax : Nat → Nat → Nat} {A : Nat → Prop} {U : State} {H H1 : Heap} (h : kc_c ax A U H) (hq : ∀ a : Nat, a < H.size → ¬ A a → H1[a]? = H[a]?) : kc_c ax A U H1 := by
  obtain ⟨h1, h2, h3, h4, h5, h6, h7⟩ := h
  exact ⟨fun i hi => ⟨(h1 i hi).1.kept hq, (h1 i hi).2.1.kept hq, (h1 i hi).2.2.1.kept hq, (h1 i hi).2.2.2.1.kept hq, (h1 i hi).2.2.2.2.1.kept hq, (h1 i hi).2.2.2.2.2.kept hq⟩, fun i hi => ⟨(h2 i hi).1.kept hq, (h2 i hi).2.1.kept hq, (h2 i hi).2.2.kept hq⟩, fun i hi => ⟨(h3 i hi).1.kept hq, (h3 i hi).2.1.kept hq, (h3 i hi).2.2.1.kept hq, (h3 i hi).2.2.2.kept hq⟩, ⟨h4.1.kept hq, h4.2.kept hq⟩, ⟨h5.1.kept hq, h5.2.kept hq⟩, ⟨h6.1.kept hq, h6.2.kept hq⟩, h7.kept hq⟩
theorem kc_c.narrow {ax : Nat → Nat → Nat} {A B : Nat → Prop} {U : State} {H : Heap} (h : kc_c ax A U H) (hq : ∀ q, B q → A q) : kc_c ax B U H := by
  obtain ⟨h1, h2, h3, h4, h5, h6, h7⟩ := h
  exact ⟨fun i hi => ⟨(h1 i hi).1.narrow hq, (h1 i hi).2.1.narrow hq, (h1 i hi).2.2.1.narrow hq, (h1 i hi).2.2.2.1.narrow hq, (h1 i hi).2.2.2.2.1.narrow hq, (h1 i hi).2.2.2.2.2.narrow hq⟩, fun i hi => ⟨(h2 i hi).1.narrow hq, (h2 i hi).2.1.narrow hq, (h2 i hi).2.2.narrow hq⟩, fun i hi => ⟨(h3 i hi).1.narrow hq, (h3 i hi).2.1.narrow hq, (h3 i hi).2.2.1.narrow hq, (h3 i hi).2.2.2.narrow hq⟩, ⟨h4.1.narrow hq, h4.2.narrow hq⟩, ⟨h5.1.narrow hq, h5.2.narrow hq⟩, ⟨h6.1.narrow hq, h6.2.narrow hq⟩, h7.narrow hq⟩
def kc_n (U : State) : Prop := va_Nw (.fieldLinkNest "FrameVerifier$Code" 35 "FrameVerifier" "OPS" "[LFrameVerifier$Op;" "FrameVerifier") U ∧ va_Nw (.methodLinkNest "FrameVerifier$Code" 109 ⟨"FrameVerifier", "isLocal", "(I)Z"⟩ "FrameVerifier") U
def kC (D : va_G) (ca : Nat → ClassId) (ax : Nat → Nat → Nat) (b : Nat) (U : State) : Prop := va_K D cls (tys ca) U ∧ kc_c ax (mm_A b N_C) U U.heap ∧ kc_n U
def kM (D : va_G) (ca : Nat → ClassId) (_ax : Nat → Nat → Nat) (_b : Nat) (U : State) : Prop := va_K D cls (tys ca) U ∧ True
theorem kC_ok {D : va_G} {ca : Nat → ClassId} {ax : Nat → Nat → Nat} {b : Nat} : kk_ok b N_C (kC D ca ax b) := by
  refine ⟨fun u U h hW hq => ⟨va_K.moved hW.alike h.1, (h.2.1.moved hW.alike).kept hq, va_Nw.warmF hW h.2.2.1, va_Nw.warmM hW h.2.2.2⟩, fun U g mk a h => ⟨va_K.moved (u := U) (U := U.calling g mk a) (Vm.Alike.refl U.vm) h.1, kc_c.moved (u := U) (U := U.calling g mk a) (Vm.Alike.refl U.vm) h.2.1, va_Nw.same rfl (rfl : U.vm = (U.calling g mk a).vm) h.2.2.1, va_Nw.same rfl (rfl : U.vm = (U.calling g mk a).vm) h.2.2.2⟩⟩
theorem kM_ok {D : va_G} {ca : Nat → ClassId} {ax : Nat → Nat → Nat} {b : Nat} : kk_ok b N_M (kM D ca ax b) :=
  ⟨fun u U h hW hq => ⟨va_K.moved hW.alike h.1, trivial⟩, fun U g mk a h => ⟨va_K.moved (u := U) (U := U.calling g mk a) (Vm.Alike.refl U.vm) h.1, trivial⟩⟩
section VV5
variable {Res : Type} {p : Program} {l : Launch} {e : Env} {R : Room} {s : State} {m : MethodId} {args : Array Value} {below : List Frame} {meth : Method} {c : Code} {D : va_G} {cl : List vw_C} {b N : Nat} {ce : Nat → (Nat → Int32) → va_E} {nL : Nat} {Q : State → Prop} {fin : Res} {k A B : Option Res} {σ : mm_M} {pc : Nat} {L L2 : List (Option Value)} {rest : List Value} {cc : ByteArray} {Ts : List Cond} {own : String}
theorem v_istore_nP (S : CallFix p m c cc nL s args Ts own) {q : Fin 4} {i : Nat} {x : Int32} (d : decode cc pc = .ok (.istore_n q, 1)) (hi : (q : Nat) = i) (hn : i < nL) (hL : lo_st L i (.int x) = L2)
    (kk : vv p l e R s m args below meth c D cl b N ce nL Q fin k σ (pc + 1) L2 rest) : vv p l e R s m args below meth c D cl b N ce nL Q fin k σ pc L (.int x :: rest) := fun hk H locs ls hl hP hS => lv_istore_n S.1 S.2.1 d hi (lo_has hl) hn rfl (fun ls' h2 => kk hk H locs ls' (hL ▸ lo_putP hl rfl h2) hP hS)
theorem v_istoreP (S : CallFix p m c cc nL s args Ts own) {i : Nat} {x : Int32} (d : decode cc pc = .ok (.istore i, 2)) (hn : i < nL) (hL : lo_st L i (.int x) = L2)
    (kk : vv p l e R s m args below meth c D cl b N ce nL Q fin k σ (pc + 2) L2 rest) : vv p l e R s m args below meth c D cl b N ce nL Q fin k σ pc L (.int x :: rest) := fun hk H locs ls hl hP hS => lv_istore S.1 S.2.1 d (lo_has hl) hn rfl (fun ls' h2 => kk hk H locs ls' (hL ▸ lo_putP hl rfl h2) hP hS)
theorem v_astore_nP (S : CallFix p m c cc nL s args Ts own) {q : Fin 4} {i : Nat} {x : Nat} (d : decode cc pc = .ok (.astore_n q, 1)) (hi : (q : Nat) = i) (hn : i < nL) (hL : lo_st L i (.ref x) = L2)
    (kk : vv p l e R s m args below meth c D cl b N ce nL Q fin k σ (pc + 1) L2 rest) : vv p l e R s m args below meth c D cl b N ce nL Q fin k σ pc L (.ref x :: rest) := fun hk H locs ls hl hP hS => lv_astore_n S.1 S.2.1 d hi (lo_has hl) hn rfl (fun ls' h2 => kk hk H locs ls' (hL ▸ lo_putP hl rfl h2) hP hS)
theorem v_astoreP (S : CallFix p m c cc nL s args Ts own) {i : Nat} {x : Nat} (d : decode cc pc = .ok (.astore i, 2)) (hn : i < nL) (hL : lo_st L i (.ref x) = L2)
    (kk : vv p l e R s m args below meth c D cl b N ce nL Q fin k σ (pc + 2) L2 rest) : vv p l e R s m args below meth c D cl b N ce nL Q fin k σ pc L (.ref x :: rest) := fun hk H locs ls hl hP hS => lv_astore S.1 S.2.1 d (lo_has hl) hn rfl (fun ls' h2 => kk hk H locs ls' (hL ▸ lo_putP hl rfl h2) hP hS)
theorem v_top {x : Int32} {kf : Int32 → Option Res} (kk : ∀ z : Int32, z = x → vv p l e R s m args below meth c D cl b N ce nL Q fin (kf z) σ pc L (.int z :: rest)) : vv p l e R s m args below meth c D cl b N ce nL Q fin (nm x kf) σ pc L (.int x :: rest) := kk x rfl
theorem v_sg {kf : mm_M → Option Res} (kk : ∀ z : mm_M, z = σ → vv p l e R s m args below meth c D cl b N ce nL Q fin (kf z) z pc L rest) : vv p l e R s m args below meth c D cl b N ce nL Q fin (nm σ kf) σ pc L rest := kk σ rfl
theorem v_guard {c' : Prop} (hd : Decidable c') (kk : c' → vv p l e R s m args below meth c D cl b N ce nL Q fin k σ pc L rest) : vv p l e R s m args below meth c D cl b N ce nL Q fin (@ite _ c' hd k none) σ pc L rest := fun hk H locs ls hl hP hS => by
  by_cases h : c'
  · rw [if_pos h] at hk
    exact kk h hk H locs ls hl hP hS
  · rw [if_neg h] at hk
    cases hk
theorem v_puti (S : CallFix p m c cc nL s args Ts own) {ref C : String} {T : u_T} {Nf ci index : Nat} {tys : List (ClassId × FieldType)} (hin : ∀ w ∈ u_ws C T Nf, w ∈ Ts) (hK : va_K D cl tys s) (kq : Nat) (hkq : kq < N) {fs : List Value} (hce : ce kq (σ kq) = .inr (ci, fs)) (hc : cl[ci]? = some (C, T, Nf)) (j : Nat) (hj : j < Nf) (hlink : (Cond.fieldLink own index ref (T j).2.1 (T j).2.2.1).before args s = true) (hsame : ∀ x, s.fieldFound? (T j).1 (T j).2.1 (T j).2.2.1 = some x → s.fieldFound? ref (T j).2.1 (T j).2.2.1 = some x) (ty0 : Nat → FieldType) (hty : ∀ k, k < Nf → parseFieldDescriptor (T k).2.2.1 = some (ty0 k)) (hnm : ∀ a, a < Nf → ∀ b, b < Nf → a ≠ b → (T a).2.1 ≠ (T b).2.1) (hfin : (T j).2.2.2 = false) {ty : FieldType} {x : Int32} (hd : parseFieldDescriptor (T j).2.2.1 = some ty) (hn : narrow ty (.int x) = .int x) (hfit : fits ty (.int x) = true) (hl0 : j < fs.length) (he : .inr (ci, fs.set j (.int x)) = ce kq (upd (σ kq) j x)) (d : decode cc pc = .ok (.putfield index, 3))
    (kk : vv p l e R s m args below meth c D cl b N ce nL Q fin k (mw σ kq j x) (pc + 3) L rest) : vv p l e R s m args below meth c D cl b N ce nL Q fin k σ pc L (.int x :: .ref (b + kq) :: rest) := v_put S hin hK kq hkq hce hc j hj hlink hsame ty0 hty hnm hfin hd hn hfit hl0 _ he d kk
theorem v_iast1 (S : CallFix p m c cc nL s args Ts own) {tys : List (ClassId × FieldType)} (hK : va_K D cl tys s) (kq t0 : Nat) (hkq : kq < N) {cA : ClassId} {n : Nat} (hce : ∀ f, ce kq f = .inl (cA, n, .inl f)) (ht : tys[t0]? = some (cA, .int)) {i x : Int32} (d : decode cc pc = .ok (.iastore, 1))
    (kk : ¬ (i < 0 ∨ n ≤ i.toNatClampNeg) → vv p l e R s m args below meth c D cl b N ce nL Q fin k (mw σ kq i.toNatClampNeg x) (pc + 1) L rest) : vv p l e R s m args below meth c D cl b N ce nL Q fin (if (i < 0 ∨ n ≤ i.toNatClampNeg) then none else k) σ pc L (.int x :: .int i :: .ref (b + kq) :: rest) := v_iast S hK kq t0 hkq hce ht d kk
theorem v_zast1 (S : CallFix p m c cc nL s args Ts own) {tys : List (ClassId × FieldType)} (hK : va_K D cl tys s) (kq t0 : Nat) (hkq : kq < N) {cA : ClassId} {n : Nat} (hce : ∀ f, ce kq f = .inl (cA, n, .inl f)) (ht : tys[t0]? = some (cA, .boolean)) {i x : Int32} (hx : x = 0 ∨ x = 1) (d : decode cc pc = .ok (.bastore, 1))
    (kk : ¬ (i < 0 ∨ n ≤ i.toNatClampNeg) → vv p l e R s m args below meth c D cl b N ce nL Q fin k (mw σ kq i.toNatClampNeg x) (pc + 1) L rest) : vv p l e R s m args below meth c D cl b N ce nL Q fin (if (i < 0 ∨ n ≤ i.toNatClampNeg) then none else k) σ pc L (.int x :: .int i :: .ref (b + kq) :: rest) := v_zast S hK kq t0 hkq hce ht d (fun h => by rw [vp_nb hx]; exact kk h)
theorem v_aald (S : CallFix p m c cc nL s args Ts own) {tys : List (ClassId × FieldType)} (hK : va_K D cl tys s) (kq t0 : Nat) (hkq : kq < N) {cA : ClassId} {n : Nat} {ty : FieldType} {g : Nat → Nat} (hce : ce kq (σ kq) = .inl (cA, n, .inr (.inr (.inr (.inr (fun j => some (g j))))))) (ht : tys[t0]? = some (cA, ty)) (hr : ty.isReference = true) {i : Int32} (d : decode cc pc = .ok (.aaload, 1))
    (kk : ¬ (i < 0 ∨ n ≤ i.toNatClampNeg) → vv p l e R s m args below meth c D cl b N ce nL Q fin k σ (pc + 1) L (.ref (g i.toNatClampNeg) :: rest)) : vv p l e R s m args below meth c D cl b N ce nL Q fin (if (i < 0 ∨ n ≤ i.toNatClampNeg) then none else k) σ pc L (.int i :: .ref (b + kq) :: rest) := fun hk H locs ls hl hP hS => by
  by_cases h : (i < 0 ∨ n ≤ i.toNatClampNeg)
  · rw [if_pos h] at hk; cases hk
  · rw [if_neg h] at hk
    have hlt : i.toNatClampNeg < n := Nat.not_le.mp fun q => h (Or.inr q)
    exact W.aald (v := .ref (g i.toNatClampNeg)) (ty := ty) S.1 S.2.1 (hP kq (b + kq, .inl (cA, n, .inr (.inr (.inr (.inr (fun j => some (g j))))))) (by rw [mm_get hkq, hce])) ((hK.2 t0 _ ht).1 n (fun j => .ref (g j))) hr (fun q => by cases q) (by show ¬ (i < 0 ∨ (arrV _ _ _).slots.size ≤ _); rw [arrV_size]; exact h) (by show (arrV _ _ _).slots[_]? = _; rw [arrV_read _ _ hlt]; rfl) rfl rfl d (kk h hk H locs ls hl hP hS)
theorem v_gets (S : CallFix p m c cc nL s args Ts own) {C n d0 ref : String} {v : Value} {index : Nat} (hZ : va_Z C n d0 v (mm_A b N) s s.heap) (hlink : (Cond.fieldLink own index ref n d0).before args s = true) (hsame : ∀ x, s.fieldFound? C n d0 = some x → s.fieldFound? ref n d0 = some x) (d : decode cc pc = .ok (.getstatic index, 3))
    (kk : vv p l e R s m args below meth c D cl b N ce nL Q fin k σ (pc + 3) L (v :: rest)) : vv p l e R s m args below meth c D cl b N ce nL Q fin k σ pc L rest := fun hk H locs ls hl hP hS => va_gets S.1 S.2.1 hZ hS S.2.2.2.1 hlink hsame d (kk hk H locs ls hl hP hS)
theorem v_getsN (S : CallFix p m c cc nL s args Ts own) {C n d0 ref host : String} {v : Value} {index : Nat} (hZ : va_Z C n d0 v (mm_A b N) s s.heap) (hlink : (Cond.fieldLinkNest own index ref n d0 host).before args s = true) (hsame : ∀ x, s.fieldFound? C n d0 = some x → s.fieldFound? ref n d0 = some x) (d : decode cc pc = .ok (.getstatic index, 3))
    (kk : vv p l e R s m args below meth c D cl b N ce nL Q fin k σ (pc + 3) L (v :: rest)) : vv p l e R s m args below meth c D cl b N ce nL Q fin k σ pc L rest := fun hk H locs ls hl hP hS => va_getsN S.1 S.2.1 hZ hS S.2.2.2.1 hlink hsame d (kk hk H locs ls hl hP hS)
theorem v_ti0 (S : CallFix p m c cc nL s args Ts own) {t n : Nat} {f : Nat → Int32} (hT : va_T .int t n (fun j => .int (f j)) (mm_A b N) s s.heap) {i : Int32} (d : decode cc pc = .ok (.iaload, 1))
    (kk : ¬ (i < 0 ∨ n ≤ i.toNatClampNeg) → vv p l e R s m args below meth c D cl b N ce nL Q fin k σ (pc + 1) L (.int (f i.toNatClampNeg) :: rest)) : vv p l e R s m args below meth c D cl b N ce nL Q fin (if (i < 0 ∨ n ≤ i.toNatClampNeg) then none else k) σ pc L (.int i :: .ref t :: rest) := fun hk H locs ls hl hP hS => by
  by_cases h : (i < 0 ∨ n ≤ i.toNatClampNeg)
  · rw [if_pos h] at hk; cases hk
  · rw [if_neg h] at hk
    exact va_ti S.1 S.2.1 hT hS h rfl d (kk h hk H locs ls hl hP hS)
theorem v_of (S : CallFix p m c cc nL s args Ts own) {o n d0 ref : String} {index q : Nat} {v : Value} (hE : va_OF o n d0 v q (mm_A b N) s s.heap) (hlink : (Cond.fieldLink own index ref n d0).before args s = true) (hsame : ∀ x, s.fieldFound? o n d0 = some x → s.fieldFound? ref n d0 = some x) (d : decode cc pc = .ok (.getfield index, 3))
    (kk : vv p l e R s m args below meth c D cl b N ce nL Q fin k σ (pc + 3) L (v :: rest)) : vv p l e R s m args below meth c D cl b N ce nL Q fin k σ pc L (.ref q :: rest) := fun hk H locs ls hl hP hS => vk_getf S.1 S.2.1 hE hS S.2.2.2.1 hlink hsame d (kk hk H locs ls hl hP hS)
theorem v_tlen (S : CallFix p m c cc nL s args Ts own) {t n : Nat} {ty : FieldType} {f : Nat → Value} (hT : va_T ty t n f (mm_A b N) s s.heap) {v : Int32} (hv : Int32.ofNat n = v) (d : decode cc pc = .ok (.arraylength, 1))
    (kk : vv p l e R s m args below meth c D cl b N ce nL Q fin k σ (pc + 1) L (.int v :: rest)) : vv p l e R s m args below meth c D cl b N ce nL Q fin k σ pc L (.ref t :: rest) := fun hk H locs ls hl hP hS => va_tlen S.1 S.2.1 hT hS hv d (kk hk H locs ls hl hP hS)
theorem v_ta (S : CallFix p m c cc nL s args Ts own) {t n : Nat} {ty : FieldType} {g : Nat → Nat} (hT : va_T ty t n (fun j => .ref (g j)) (mm_A b N) s s.heap) (hr : ty.isReference = true) {i : Int32} (d : decode cc pc = .ok (.aaload, 1))
    (kk : ¬ (i < 0 ∨ n ≤ i.toNatClampNeg) → vv p l e R s m args below meth c D cl b N ce nL Q fin k σ (pc + 1) L (.ref (g i.toNatClampNeg) :: rest)) : vv p l e R s m args below meth c D cl b N ce nL Q fin (if (i < 0 ∨ n ≤ i.toNatClampNeg) then none else k) σ pc L (.int i :: .ref t :: rest) := fun hk H locs ls hl hP hS => by
  by_cases h : (i < 0 ∨ n ≤ i.toNatClampNeg)
  · rw [if_pos h] at hk; cases hk
  · rw [if_neg h] at hk
    obtain ⟨cell, h1, h2, h3, h4, h5, h6, h7⟩ := hT
    have hlt : i.toNatClampNeg < n := Nat.not_le.mp fun q => h (Or.inr q)
    exact W.aald (v := .ref (g i.toNatClampNeg)) (ty := ty) S.1 S.2.1 (by rw [hS.2.1 t (Array.getElem?_eq_some_iff.mp h1).1 h7]; exact h1) h2 hr h3 (fun q => by rcases q with q | q; exact h (Or.inl q); omega) (h6 _ hlt) rfl rfl d (kk h hk H locs ls hl hP hS)
theorem v_acmp_eq (S : CallFix p m c cc nL s args Ts own) {ad : Nat → Nat} {x y : Nat} {off : Int} {tgt : Nat} (d : decode cc pc = .ok (.if_acmp .eq off, 3)) (ht : (pc : Int) + off = (tgt : Int)) (hi : ad x = ad y → x = y) (kt : x = y → vv p l e R s m args below meth c D cl b N ce nL Q fin A σ tgt L rest) (kf : ¬ x = y → vv p l e R s m args below meth c D cl b N ce nL Q fin B σ (pc + 3) L rest) : vv p l e R s m args below meth c D cl b N ce nL Q fin (if x = y then A else B) σ pc L (.ref (ad y) :: .ref (ad x) :: rest) := fun hk H locs ls hl hP hS =>
  lv_acmp_eq (rx := some (ad x)) (ry := some (ad y)) S.1 S.2.1 d ht (fun h => kt (hi (Option.some.inj h)) (by rw [if_pos (hi (Option.some.inj h))] at hk; exact hk) H locs ls hl hP hS) (fun h => kf (fun q => h (by rw [q])) (by rw [if_neg (fun q => h (by rw [q]))] at hk; exact hk) H locs ls hl hP hS)
theorem v_acmp_ne (S : CallFix p m c cc nL s args Ts own) {ad : Nat → Nat} {x y : Nat} {off : Int} {tgt : Nat} (d : decode cc pc = .ok (.if_acmp .ne off, 3)) (ht : (pc : Int) + off = (tgt : Int)) (hi : ad x = ad y → x = y) (kt : ¬ x = y → vv p l e R s m args below meth c D cl b N ce nL Q fin B σ tgt L rest) (kf : x = y → vv p l e R s m args below meth c D cl b N ce nL Q fin A σ (pc + 3) L rest) : vv p l e R s m args below meth c D cl b N ce nL Q fin (if x = y then A else B) σ pc L (.ref (ad y) :: .ref (ad x) :: rest) := fun hk H locs ls hl hP hS =>
  lv_acmp_ne (rx := some (ad x)) (ry := some (ad y)) S.1 S.2.1 d ht (fun h => kt (fun q => h (by rw [q])) (by rw [if_neg (fun q => h (by rw [q]))] at hk; exact hk) H locs ls hl hP hS) (fun h => kf (hi (Option.some.inj h)) (by rw [if_pos (hi (Option.some.inj h))] at hk; exact hk) H locs ls hl hP hS)
theorem v_tswQ (S : CallFix p m c cc nL s args Ts own) {dflt lo hi : Int} {offs : Array Int} {len : Nat} {x : Int32} (v : Int32) {off : Int} {tgt : Nat} (d : decode cc pc = .ok (.tableswitch dflt lo hi offs, len)) (h1 : ¬ v.toInt < lo) (h2 : ¬ hi < v.toInt) (ho : offs[(v.toInt - lo).toNat]? = some off) (ht : (pc : Int) + off = (tgt : Int))
    (kt : vv p l e R s m args below meth c D cl b N ce nL Q fin k σ tgt L rest) (kf : ¬ x = v → vv p l e R s m args below meth c D cl b N ce nL Q fin k σ pc L (.int x :: rest)) : vv p l e R s m args below meth c D cl b N ce nL Q fin k σ pc L (.int x :: rest) := fun hk H locs ls hl hP hS => by
  by_cases h : x = v
  · subst h
    exact lv_tableIn S.1 S.2.1 d h1 h2 ho ht (kt hk H locs ls hl hP hS)
  · exact kf h hk H locs ls hl hP hS
end VV5
section VV6
variable {D : va_G} {ca : Nat → ClassId} {ax : Nat → Nat → Nat} {b : Nat} {s : State}
theorem va_OF.inj {o n d : String} {v w : Value} {t : Nat} {A : Nat → Prop} {U : State} {H : Heap} (h1 : va_OF o n d v t A U H) (h2 : va_OF o n d w t A U H) : v = w := by
  obtain ⟨cf, k, i, f, cell, a1, a2, a3, a4, a5, a6⟩ := h1
  obtain ⟨cf', k', i', f', cell', b1, b2, b3, b4, b5, b6⟩ := h2
  cases a1.symm.trans b1
  cases a3.symm.trans b3
  exact Option.some.inj (a5.symm.trans b5)
theorem op_inj (h : kC D ca ax b s) {i j : Nat} (hi : i < 20) (hj : j < 20) (e : ax 0 i = ax 0 j) : i = j := by
  have h1 := (h.2.1.1 i hi).2.2.1
  have h2 := (h.2.1.1 j hj).2.2.1
  rw [e] at h1
  exact (nI_eq (by omega) (by omega)).mp (Value.int.inj (h1.inj h2))
theorem tr_inj (h : kC D ca ax b s) {i j : Nat} (hi : i < 6) (hj : j < 6) (e : ax 1 i = ax 1 j) : i = j := by
  have h1 := (h.2.1.2.1 i hi).2.2
  have h2 := (h.2.1.2.1 j hj).2.2
  rw [e] at h1
  exact (nI_eq (by omega) (by omega)).mp (Value.int.inj (h1.inj h2))
end VV6
end
section
/-! names of 05.types -/
def y_Ty_height : MethodName := ⟨"FrameVerifier$Types", "height", "(I)I"⟩
abbrev b_Ty_height : ByteArray := prog_9_method_2_code
def rm_Ty_height : Room := { frames := 0, cells := 0, slots := 0, locals := 0 }
abbrev w_Ty_height : List Cond := Cond.code y_Ty_height b_Ty_height 1 (some .int) :: wG
theorem m_Ty_height : Cond.code y_Ty_height b_Ty_height 1 (some .int) ∈ wG := wg_t 216 (by decide +kernel) (by decide +kernel)
theorem q_Ty_height : y_Ty_height.cls ≠ "java/lang/invoke/MethodHandle" ∧ y_Ty_height.cls ≠ "java/lang/invoke/VarHandle" ∧ (parseMethodDescriptor y_Ty_height.desc).map (fun d => d.parameters.length) = some 1 := by decide +kernel
theorem g_Ty_height : Cond.initialized y_Ty_height.cls ∈ wG := wg_t 11 (by decide +kernel) (by decide +kernel)
theorem s_Ty_height : Cond.static y_Ty_height ∈ wG := wg_t 215 (by decide +kernel) (by decide +kernel)
theorem d_Ty_height_0 : decode b_Ty_height 0 = .ok (.iload_n 0, 1) := by decide +kernel
theorem d_Ty_height_1 : decode b_Ty_height 1 = .ok (.bipush (7), 2) := by decide +kernel
theorem d_Ty_height_3 : decode b_Ty_height 3 = .ok (.iand, 1) := by decide +kernel
theorem d_Ty_height_4 : decode b_Ty_height 4 = .ok (.ireturn, 1) := by decide +kernel
def y_Ty_at : MethodName := ⟨"FrameVerifier$Types", "at", "(II)I"⟩
abbrev b_Ty_at : ByteArray := prog_9_method_3_code
def rm_Ty_at : Room := { frames := 0, cells := 0, slots := 0, locals := 0 }
abbrev w_Ty_at : List Cond := Cond.code y_Ty_at b_Ty_at 2 (some .int) :: wG
theorem m_Ty_at : Cond.code y_Ty_at b_Ty_at 2 (some .int) ∈ wG := wg_t 219 (by decide +kernel) (by decide +kernel)
theorem q_Ty_at : y_Ty_at.cls ≠ "java/lang/invoke/MethodHandle" ∧ y_Ty_at.cls ≠ "java/lang/invoke/VarHandle" ∧ (parseMethodDescriptor y_Ty_at.desc).map (fun d => d.parameters.length) = some 2 := by decide +kernel
theorem g_Ty_at : Cond.initialized y_Ty_at.cls ∈ wG := wg_t 11 (by decide +kernel) (by decide +kernel)
theorem s_Ty_at : Cond.static y_Ty_at ∈ wG := wg_t 218 (by decide +kernel) (by decide +kernel)
theorem d_Ty_at_0 : decode b_Ty_at 0 = .ok (.iload_n 0, 1) := by decide +kernel
theorem d_Ty_at_1 : decode b_Ty_at 1 = .ok (.iconst 3, 1) := by decide +kernel
theorem d_Ty_at_2 : decode b_Ty_at 2 = .ok (.iconst 2, 1) := by decide +kernel
theorem d_Ty_at_3 : decode b_Ty_at 3 = .ok (.iload_n 1, 1) := by decide +kernel
theorem d_Ty_at_4 : decode b_Ty_at 4 = .ok (.imul, 1) := by decide +kernel
theorem d_Ty_at_5 : decode b_Ty_at 5 = .ok (.iadd, 1) := by decide +kernel
theorem d_Ty_at_6 : decode b_Ty_at 6 = .ok (.ishr, 1) := by decide +kernel
theorem d_Ty_at_7 : decode b_Ty_at 7 = .ok (.iconst 3, 1) := by decide +kernel
theorem d_Ty_at_8 : decode b_Ty_at 8 = .ok (.iand, 1) := by decide +kernel
theorem d_Ty_at_9 : decode b_Ty_at 9 = .ok (.ireturn, 1) := by decide +kernel
def y_Ty_with : MethodName := ⟨"FrameVerifier$Types", "with", "(III)I"⟩
abbrev b_Ty_with : ByteArray := prog_9_method_4_code
def rm_Ty_with : Room := { frames := 0, cells := 0, slots := 0, locals := 0 }
abbrev w_Ty_with : List Cond := Cond.code y_Ty_with b_Ty_with 4 (some .int) :: wG
theorem m_Ty_with : Cond.code y_Ty_with b_Ty_with 4 (some .int) ∈ wG := wg_t 206 (by decide +kernel) (by decide +kernel)
theorem q_Ty_with : y_Ty_with.cls ≠ "java/lang/invoke/MethodHandle" ∧ y_Ty_with.cls ≠ "java/lang/invoke/VarHandle" ∧ (parseMethodDescriptor y_Ty_with.desc).map (fun d => d.parameters.length) = some 3 := by decide +kernel
theorem g_Ty_with : Cond.initialized y_Ty_with.cls ∈ wG := wg_t 11 (by decide +kernel) (by decide +kernel)
theorem s_Ty_with : Cond.static y_Ty_with ∈ wG := wg_t 205 (by decide +kernel) (by decide +kernel)
theorem d_Ty_with_0 : decode b_Ty_with 0 = .ok (.iconst 3, 1) := by decide +kernel
theorem d_Ty_with_1 : decode b_Ty_with 1 = .ok (.iconst 2, 1) := by decide +kernel
theorem d_Ty_with_2 : decode b_Ty_with 2 = .ok (.iload_n 1, 1) := by decide +kernel
theorem d_Ty_with_3 : decode b_Ty_with 3 = .ok (.imul, 1) := by decide +kernel
theorem d_Ty_with_4 : decode b_Ty_with 4 = .ok (.iadd, 1) := by decide +kernel
theorem d_Ty_with_5 : decode b_Ty_with 5 = .ok (.istore_n 3, 1) := by decide +kernel
theorem d_Ty_with_6 : decode b_Ty_with 6 = .ok (.iload_n 0, 1) := by decide +kernel
theorem d_Ty_with_7 : decode b_Ty_with 7 = .ok (.iconst 3, 1) := by decide +kernel
theorem d_Ty_with_8 : decode b_Ty_with 8 = .ok (.iload_n 3, 1) := by decide +kernel
theorem d_Ty_with_9 : decode b_Ty_with 9 = .ok (.ishl, 1) := by decide +kernel
theorem d_Ty_with_10 : decode b_Ty_with 10 = .ok (.iconst (-1), 1) := by decide +kernel
theorem d_Ty_with_11 : decode b_Ty_with 11 = .ok (.ixor, 1) := by decide +kernel
theorem d_Ty_with_12 : decode b_Ty_with 12 = .ok (.iand, 1) := by decide +kernel
theorem d_Ty_with_13 : decode b_Ty_with 13 = .ok (.iload_n 2, 1) := by decide +kernel
theorem d_Ty_with_14 : decode b_Ty_with 14 = .ok (.iload_n 3, 1) := by decide +kernel
theorem d_Ty_with_15 : decode b_Ty_with 15 = .ok (.ishl, 1) := by decide +kernel
theorem d_Ty_with_16 : decode b_Ty_with 16 = .ok (.ior, 1) := by decide +kernel
theorem d_Ty_with_17 : decode b_Ty_with 17 = .ok (.ireturn, 1) := by decide +kernel
def y_Ty_slotBelow : MethodName := ⟨"FrameVerifier$Types", "slotBelow", "(II)I"⟩
abbrev b_Ty_slotBelow : ByteArray := prog_9_method_5_code
def rm_Ty_slotBelow : Room := { frames := 0, cells := 0, slots := 0, locals := 0 }
abbrev w_Ty_slotBelow : List Cond := Cond.code y_Ty_slotBelow b_Ty_slotBelow 2 (some .int) :: wG
theorem m_Ty_slotBelow : Cond.code y_Ty_slotBelow b_Ty_slotBelow 2 (some .int) ∈ wG := wg_t 347 (by decide +kernel) (by decide +kernel)
theorem q_Ty_slotBelow : y_Ty_slotBelow.cls ≠ "java/lang/invoke/MethodHandle" ∧ y_Ty_slotBelow.cls ≠ "java/lang/invoke/VarHandle" ∧ (parseMethodDescriptor y_Ty_slotBelow.desc).map (fun d => d.parameters.length) = some 2 := by decide +kernel
theorem g_Ty_slotBelow : Cond.initialized y_Ty_slotBelow.cls ∈ wG := wg_t 11 (by decide +kernel) (by decide +kernel)
theorem s_Ty_slotBelow : Cond.static y_Ty_slotBelow ∈ wG := wg_t 346 (by decide +kernel) (by decide +kernel)
theorem d_Ty_slotBelow_0 : decode b_Ty_slotBelow 0 = .ok (.bipush (6), 2) := by decide +kernel
theorem d_Ty_slotBelow_2 : decode b_Ty_slotBelow 2 = .ok (.iload_n 0, 1) := by decide +kernel
theorem d_Ty_slotBelow_3 : decode b_Ty_slotBelow 3 = .ok (.bipush (7), 2) := by decide +kernel
theorem d_Ty_slotBelow_5 : decode b_Ty_slotBelow 5 = .ok (.iand, 1) := by decide +kernel
theorem d_Ty_slotBelow_6 : decode b_Ty_slotBelow 6 = .ok (.iadd, 1) := by decide +kernel
theorem d_Ty_slotBelow_7 : decode b_Ty_slotBelow 7 = .ok (.iconst 1, 1) := by decide +kernel
theorem d_Ty_slotBelow_8 : decode b_Ty_slotBelow 8 = .ok (.isub, 1) := by decide +kernel
theorem d_Ty_slotBelow_9 : decode b_Ty_slotBelow 9 = .ok (.iload_n 1, 1) := by decide +kernel
theorem d_Ty_slotBelow_10 : decode b_Ty_slotBelow 10 = .ok (.isub, 1) := by decide +kernel
theorem d_Ty_slotBelow_11 : decode b_Ty_slotBelow 11 = .ok (.ireturn, 1) := by decide +kernel
def y_Ty_below : MethodName := ⟨"FrameVerifier$Types", "below", "(II)I"⟩
abbrev b_Ty_below : ByteArray := prog_9_method_6_code
def rm_Ty_below : Room := { frames := 1, cells := 0, slots := 0, locals := 21 }
abbrev w_Ty_below : List Cond := Cond.code y_Ty_below b_Ty_below 2 (some .int) :: wG
theorem m_Ty_below : Cond.code y_Ty_below b_Ty_below 2 (some .int) ∈ wG := wg_t 344 (by decide +kernel) (by decide +kernel)
theorem q_Ty_below : y_Ty_below.cls ≠ "java/lang/invoke/MethodHandle" ∧ y_Ty_below.cls ≠ "java/lang/invoke/VarHandle" ∧ (parseMethodDescriptor y_Ty_below.desc).map (fun d => d.parameters.length) = some 2 := by decide +kernel
theorem g_Ty_below : Cond.initialized y_Ty_below.cls ∈ wG := wg_t 11 (by decide +kernel) (by decide +kernel)
theorem s_Ty_below : Cond.static y_Ty_below ∈ wG := wg_t 343 (by decide +kernel) (by decide +kernel)
theorem d_Ty_below_0 : decode b_Ty_below 0 = .ok (.iload_n 0, 1) := by decide +kernel
theorem d_Ty_below_1 : decode b_Ty_below 1 = .ok (.iload_n 0, 1) := by decide +kernel
theorem d_Ty_below_2 : decode b_Ty_below 2 = .ok (.iload_n 1, 1) := by decide +kernel
theorem d_Ty_below_3 : decode b_Ty_below 3 = .ok (.invokestatic 11, 3) := by decide +kernel
theorem d_Ty_below_6 : decode b_Ty_below 6 = .ok (.invokestatic 15, 3) := by decide +kernel
theorem d_Ty_below_9 : decode b_Ty_below 9 = .ok (.ireturn, 1) := by decide +kernel
def y_Ty_pushed : MethodName := ⟨"FrameVerifier$Types", "pushed", "(II)I"⟩
abbrev b_Ty_pushed : ByteArray := prog_9_method_7_code
def rm_Ty_pushed : Room := { frames := 1, cells := 0, slots := 0, locals := 23 }
abbrev w_Ty_pushed : List Cond := Cond.code y_Ty_pushed b_Ty_pushed 2 (some .int) :: wG
theorem m_Ty_pushed : Cond.code y_Ty_pushed b_Ty_pushed 2 (some .int) ∈ wG := wg_t 357 (by decide +kernel) (by decide +kernel)
theorem q_Ty_pushed : y_Ty_pushed.cls ≠ "java/lang/invoke/MethodHandle" ∧ y_Ty_pushed.cls ≠ "java/lang/invoke/VarHandle" ∧ (parseMethodDescriptor y_Ty_pushed.desc).map (fun d => d.parameters.length) = some 2 := by decide +kernel
theorem g_Ty_pushed : Cond.initialized y_Ty_pushed.cls ∈ wG := wg_t 11 (by decide +kernel) (by decide +kernel)
theorem s_Ty_pushed : Cond.static y_Ty_pushed ∈ wG := wg_t 356 (by decide +kernel) (by decide +kernel)
theorem d_Ty_pushed_0 : decode b_Ty_pushed 0 = .ok (.iload_n 0, 1) := by decide +kernel
theorem d_Ty_pushed_1 : decode b_Ty_pushed 1 = .ok (.bipush (6), 2) := by decide +kernel
theorem d_Ty_pushed_3 : decode b_Ty_pushed 3 = .ok (.iload_n 0, 1) := by decide +kernel
theorem d_Ty_pushed_4 : decode b_Ty_pushed 4 = .ok (.invokestatic 18, 3) := by decide +kernel
theorem d_Ty_pushed_7 : decode b_Ty_pushed 7 = .ok (.iadd, 1) := by decide +kernel
theorem d_Ty_pushed_8 : decode b_Ty_pushed 8 = .ok (.iload_n 1, 1) := by decide +kernel
theorem d_Ty_pushed_9 : decode b_Ty_pushed 9 = .ok (.invokestatic 22, 3) := by decide +kernel
theorem d_Ty_pushed_12 : decode b_Ty_pushed 12 = .ok (.iconst 1, 1) := by decide +kernel
theorem d_Ty_pushed_13 : decode b_Ty_pushed 13 = .ok (.iadd, 1) := by decide +kernel
theorem d_Ty_pushed_14 : decode b_Ty_pushed 14 = .ok (.ireturn, 1) := by decide +kernel
def y_Ty_dropped : MethodName := ⟨"FrameVerifier$Types", "dropped", "(II)I"⟩
abbrev b_Ty_dropped : ByteArray := prog_9_method_8_code
def rm_Ty_dropped : Room := { frames := 1, cells := 0, slots := 0, locals := 23 }
abbrev w_Ty_dropped : List Cond := Cond.code y_Ty_dropped b_Ty_dropped 4 (some .int) :: wG
theorem m_Ty_dropped : Cond.code y_Ty_dropped b_Ty_dropped 4 (some .int) ∈ wG := wg_t 354 (by decide +kernel) (by decide +kernel)
theorem q_Ty_dropped : y_Ty_dropped.cls ≠ "java/lang/invoke/MethodHandle" ∧ y_Ty_dropped.cls ≠ "java/lang/invoke/VarHandle" ∧ (parseMethodDescriptor y_Ty_dropped.desc).map (fun d => d.parameters.length) = some 2 := by decide +kernel
theorem g_Ty_dropped : Cond.initialized y_Ty_dropped.cls ∈ wG := wg_t 11 (by decide +kernel) (by decide +kernel)
theorem s_Ty_dropped : Cond.static y_Ty_dropped ∈ wG := wg_t 353 (by decide +kernel) (by decide +kernel)
theorem d_Ty_dropped_0 : decode b_Ty_dropped 0 = .ok (.iload_n 0, 1) := by decide +kernel
theorem d_Ty_dropped_1 : decode b_Ty_dropped 1 = .ok (.istore_n 2, 1) := by decide +kernel
theorem d_Ty_dropped_2 : decode b_Ty_dropped 2 = .ok (.iconst 0, 1) := by decide +kernel
theorem d_Ty_dropped_3 : decode b_Ty_dropped 3 = .ok (.istore_n 3, 1) := by decide +kernel
theorem d_Ty_dropped_4 : decode b_Ty_dropped 4 = .ok (.iload_n 3, 1) := by decide +kernel
theorem d_Ty_dropped_5 : decode b_Ty_dropped 5 = .ok (.iload_n 1, 1) := by decide +kernel
theorem d_Ty_dropped_6 : decode b_Ty_dropped 6 = .ok (.if_icmp .ge (22), 3) := by decide +kernel
theorem d_Ty_dropped_9 : decode b_Ty_dropped 9 = .ok (.iload_n 2, 1) := by decide +kernel
theorem d_Ty_dropped_10 : decode b_Ty_dropped 10 = .ok (.iload_n 2, 1) := by decide +kernel
theorem d_Ty_dropped_11 : decode b_Ty_dropped 11 = .ok (.iconst 0, 1) := by decide +kernel
theorem d_Ty_dropped_12 : decode b_Ty_dropped 12 = .ok (.invokestatic 11, 3) := by decide +kernel
theorem d_Ty_dropped_15 : decode b_Ty_dropped 15 = .ok (.iconst 0, 1) := by decide +kernel
theorem d_Ty_dropped_16 : decode b_Ty_dropped 16 = .ok (.invokestatic 22, 3) := by decide +kernel
theorem d_Ty_dropped_19 : decode b_Ty_dropped 19 = .ok (.iconst 1, 1) := by decide +kernel
theorem d_Ty_dropped_20 : decode b_Ty_dropped 20 = .ok (.isub, 1) := by decide +kernel
theorem d_Ty_dropped_21 : decode b_Ty_dropped 21 = .ok (.istore_n 2, 1) := by decide +kernel
theorem d_Ty_dropped_22 : decode b_Ty_dropped 22 = .ok (.iinc 3 (1), 3) := by decide +kernel
theorem d_Ty_dropped_25 : decode b_Ty_dropped 25 = .ok (.goto (-21), 3) := by decide +kernel
theorem d_Ty_dropped_28 : decode b_Ty_dropped 28 = .ok (.iload_n 2, 1) := by decide +kernel
theorem d_Ty_dropped_29 : decode b_Ty_dropped 29 = .ok (.ireturn, 1) := by decide +kernel
def y_Ty_met : MethodName := ⟨"FrameVerifier$Types", "met", "(II)I"⟩
abbrev b_Ty_met : ByteArray := prog_9_method_9_code
def rm_Ty_met : Room := { frames := 1, cells := 0, slots := 0, locals := 23 }
abbrev w_Ty_met : List Cond := Cond.code y_Ty_met b_Ty_met 4 (some .int) :: wG
theorem m_Ty_met : Cond.code y_Ty_met b_Ty_met 4 (some .int) ∈ wG := wg_t 213 (by decide +kernel) (by decide +kernel)
theorem q_Ty_met : y_Ty_met.cls ≠ "java/lang/invoke/MethodHandle" ∧ y_Ty_met.cls ≠ "java/lang/invoke/VarHandle" ∧ (parseMethodDescriptor y_Ty_met.desc).map (fun d => d.parameters.length) = some 2 := by decide +kernel
theorem g_Ty_met : Cond.initialized y_Ty_met.cls ∈ wG := wg_t 11 (by decide +kernel) (by decide +kernel)
theorem s_Ty_met : Cond.static y_Ty_met ∈ wG := wg_t 212 (by decide +kernel) (by decide +kernel)
theorem d_Ty_met_0 : decode b_Ty_met 0 = .ok (.iload_n 0, 1) := by decide +kernel
theorem d_Ty_met_1 : decode b_Ty_met 1 = .ok (.iconst (-1), 1) := by decide +kernel
theorem d_Ty_met_2 : decode b_Ty_met 2 = .ok (.if_icmp .ne (5), 3) := by decide +kernel
theorem d_Ty_met_5 : decode b_Ty_met 5 = .ok (.iload_n 1, 1) := by decide +kernel
theorem d_Ty_met_6 : decode b_Ty_met 6 = .ok (.ireturn, 1) := by decide +kernel
theorem d_Ty_met_7 : decode b_Ty_met 7 = .ok (.iload_n 0, 1) := by decide +kernel
theorem d_Ty_met_8 : decode b_Ty_met 8 = .ok (.bipush (-2), 2) := by decide +kernel
theorem d_Ty_met_10 : decode b_Ty_met 10 = .ok (.if_icmp .eq (14), 3) := by decide +kernel
theorem d_Ty_met_13 : decode b_Ty_met 13 = .ok (.iload_n 0, 1) := by decide +kernel
theorem d_Ty_met_14 : decode b_Ty_met 14 = .ok (.invokestatic 18, 3) := by decide +kernel
theorem d_Ty_met_17 : decode b_Ty_met 17 = .ok (.iload_n 1, 1) := by decide +kernel
theorem d_Ty_met_18 : decode b_Ty_met 18 = .ok (.invokestatic 18, 3) := by decide +kernel
theorem d_Ty_met_21 : decode b_Ty_met 21 = .ok (.if_icmp .eq (6), 3) := by decide +kernel
theorem d_Ty_met_24 : decode b_Ty_met 24 = .ok (.bipush (-2), 2) := by decide +kernel
theorem d_Ty_met_26 : decode b_Ty_met 26 = .ok (.ireturn, 1) := by decide +kernel
theorem d_Ty_met_27 : decode b_Ty_met 27 = .ok (.iload_n 0, 1) := by decide +kernel
theorem d_Ty_met_28 : decode b_Ty_met 28 = .ok (.istore_n 2, 1) := by decide +kernel
theorem d_Ty_met_29 : decode b_Ty_met 29 = .ok (.iconst 0, 1) := by decide +kernel
theorem d_Ty_met_30 : decode b_Ty_met 30 = .ok (.istore_n 3, 1) := by decide +kernel
theorem d_Ty_met_31 : decode b_Ty_met 31 = .ok (.iload_n 3, 1) := by decide +kernel
theorem d_Ty_met_32 : decode b_Ty_met 32 = .ok (.bipush (12), 2) := by decide +kernel
theorem d_Ty_met_34 : decode b_Ty_met 34 = .ok (.if_icmp .ge (29), 3) := by decide +kernel
theorem d_Ty_met_37 : decode b_Ty_met 37 = .ok (.iload_n 0, 1) := by decide +kernel
theorem d_Ty_met_38 : decode b_Ty_met 38 = .ok (.iload_n 3, 1) := by decide +kernel
theorem d_Ty_met_39 : decode b_Ty_met 39 = .ok (.invokestatic 15, 3) := by decide +kernel
theorem d_Ty_met_42 : decode b_Ty_met 42 = .ok (.iload_n 1, 1) := by decide +kernel
theorem d_Ty_met_43 : decode b_Ty_met 43 = .ok (.iload_n 3, 1) := by decide +kernel
theorem d_Ty_met_44 : decode b_Ty_met 44 = .ok (.invokestatic 15, 3) := by decide +kernel
theorem d_Ty_met_47 : decode b_Ty_met 47 = .ok (.if_icmp .eq (10), 3) := by decide +kernel
theorem d_Ty_met_50 : decode b_Ty_met 50 = .ok (.iload_n 2, 1) := by decide +kernel
theorem d_Ty_met_51 : decode b_Ty_met 51 = .ok (.iload_n 3, 1) := by decide +kernel
theorem d_Ty_met_52 : decode b_Ty_met 52 = .ok (.iconst 3, 1) := by decide +kernel
theorem d_Ty_met_53 : decode b_Ty_met 53 = .ok (.invokestatic 22, 3) := by decide +kernel
theorem d_Ty_met_56 : decode b_Ty_met 56 = .ok (.istore_n 2, 1) := by decide +kernel
theorem d_Ty_met_57 : decode b_Ty_met 57 = .ok (.iinc 3 (1), 3) := by decide +kernel
theorem d_Ty_met_60 : decode b_Ty_met 60 = .ok (.goto (-29), 3) := by decide +kernel
theorem d_Ty_met_63 : decode b_Ty_met 63 = .ok (.iload_n 2, 1) := by decide +kernel
theorem d_Ty_met_64 : decode b_Ty_met 64 = .ok (.ireturn, 1) := by decide +kernel
theorem k_Ty_11 {R : Room} {s : State} {args : Array Value} {Ts : List Cond} (hts : ∀ w ∈ Ts, w.before args s = true) (hsub : ∀ w ∈ wG, w ∈ Ts) (hR : rm_Ty_slotBelow.frames + 1 ≤ R.frames ∧ 8 + (2 + 11) + rm_Ty_slotBelow.locals ≤ R.locals) : CallB R s args "FrameVerifier$Types" 11 y_Ty_slotBelow b_Ty_slotBelow 2 (some .int) w_Ty_slotBelow rm_Ty_slotBelow 0 0 2 ∧ (Cond.static y_Ty_slotBelow).before args s = true := ⟨cb_G hts hsub m_Ty_slotBelow g_Ty_slotBelow (wg_t 345 (by decide +kernel) (by decide +kernel) : Cond.methodLink "FrameVerifier$Types" 11 y_Ty_slotBelow ∈ wG) q_Ty_slotBelow rfl rfl hR, hts _ (hsub _ s_Ty_slotBelow)⟩
theorem k_Ty_15 {R : Room} {s : State} {args : Array Value} {Ts : List Cond} (hts : ∀ w ∈ Ts, w.before args s = true) (hsub : ∀ w ∈ wG, w ∈ Ts) (hR : rm_Ty_at.frames + 1 ≤ R.frames ∧ 8 + (2 + 11) + rm_Ty_at.locals ≤ R.locals) : CallB R s args "FrameVerifier$Types" 15 y_Ty_at b_Ty_at 2 (some .int) w_Ty_at rm_Ty_at 0 0 2 ∧ (Cond.static y_Ty_at).before args s = true := ⟨cb_G hts hsub m_Ty_at g_Ty_at (wg_t 217 (by decide +kernel) (by decide +kernel) : Cond.methodLink "FrameVerifier$Types" 15 y_Ty_at ∈ wG) q_Ty_at rfl rfl hR, hts _ (hsub _ s_Ty_at)⟩
theorem k_Ty_18 {R : Room} {s : State} {args : Array Value} {Ts : List Cond} (hts : ∀ w ∈ Ts, w.before args s = true) (hsub : ∀ w ∈ wG, w ∈ Ts) (hR : rm_Ty_height.frames + 1 ≤ R.frames ∧ 8 + (1 + 11) + rm_Ty_height.locals ≤ R.locals) : CallB R s args "FrameVerifier$Types" 18 y_Ty_height b_Ty_height 1 (some .int) w_Ty_height rm_Ty_height 0 0 1 ∧ (Cond.static y_Ty_height).before args s = true := ⟨cb_G hts hsub m_Ty_height g_Ty_height (wg_t 214 (by decide +kernel) (by decide +kernel) : Cond.methodLink "FrameVerifier$Types" 18 y_Ty_height ∈ wG) q_Ty_height rfl rfl hR, hts _ (hsub _ s_Ty_height)⟩
theorem k_Ty_22 {R : Room} {s : State} {args : Array Value} {Ts : List Cond} (hts : ∀ w ∈ Ts, w.before args s = true) (hsub : ∀ w ∈ wG, w ∈ Ts) (hR : rm_Ty_with.frames + 1 ≤ R.frames ∧ 8 + (4 + 11) + rm_Ty_with.locals ≤ R.locals) : CallB R s args "FrameVerifier$Types" 22 y_Ty_with b_Ty_with 4 (some .int) w_Ty_with rm_Ty_with 0 0 3 ∧ (Cond.static y_Ty_with).before args s = true := ⟨cb_G hts hsub m_Ty_with g_Ty_with (wg_t 220 (by decide +kernel) (by decide +kernel) : Cond.methodLink "FrameVerifier$Types" 22 y_Ty_with ∈ wG) q_Ty_with rfl rfl hR, hts _ (hsub _ s_Ty_with)⟩
end
section
/-! contracts of 05.types; written by wip/whole/make.py -/
def fn_Ty_height (σ : mm_M) (a0 : Int32) : Option (Int32 × mm_M) :=
    (some ((a0 &&& (7 : Int32)), σ))
set_option maxRecDepth 100000 in
set_option maxHeartbeats 40000000 in
theorem c_Ty_height (l : Launch) (D : va_G) (ca : Nat → ClassId) (ax : Nat → Nat → Nat) (b : Nat) (σ : mm_M) (a0 : Int32)  {r : Int32} {σ' : mm_M} (hf : fn_Ty_height σ a0 = some (r, σ')) : Met l y_Ty_height w_Ty_height rm_Ty_height (pc_w D cls b N_C (ce_C ca b) (kC D ca ax b) [.int a0] σ) (qc_i D cls b N_C (ce_C ca b) r σ') 0 0 (mm_A b N_C) := by
  refine vv_go (cc := b_Ty_height) (maxL := 1) (ret := (some .int)) (fin := (r, σ')) (k := fn_Ty_height σ a0) (by decide) rfl (by simp [Value.category]) (Nat.le_of_ble_eq_true rfl) hf ?_
  intro p e s m below meth c hlocks hret S hKK
  unfold fn_Ty_height
  refine v_iload_n S d_Ty_height_0 rfl rfl ?_
  refine v_bipush S d_Ty_height_1 (v := (7 : Int32)) (by decide) ?_
  refine v_iand S d_Ty_height_3 ?_
  exact v_iret S hret hlocks d_Ty_height_4
def fn_Ty_at (σ : mm_M) (a0 : Int32) (a1 : Int32) : Option (Int32 × mm_M) :=
    (some (((a0 >>> (((3 : Int32) + ((2 : Int32) * a1)) &&& 31)) &&& (3 : Int32)), σ))
set_option maxRecDepth 100000 in
set_option maxHeartbeats 40000000 in
theorem c_Ty_at (l : Launch) (D : va_G) (ca : Nat → ClassId) (ax : Nat → Nat → Nat) (b : Nat) (σ : mm_M) (a0 : Int32) (a1 : Int32)  {r : Int32} {σ' : mm_M} (hf : fn_Ty_at σ a0 a1 = some (r, σ')) : Met l y_Ty_at w_Ty_at rm_Ty_at (pc_w D cls b N_C (ce_C ca b) (kC D ca ax b) [.int a0, .int a1] σ) (qc_i D cls b N_C (ce_C ca b) r σ') 0 0 (mm_A b N_C) := by
  refine vv_go (cc := b_Ty_at) (maxL := 2) (ret := (some .int)) (fin := (r, σ')) (k := fn_Ty_at σ a0 a1) (by decide) rfl (by simp [Value.category]) (Nat.le_of_ble_eq_true rfl) hf ?_
  intro p e s m below meth c hlocks hret S hKK
  unfold fn_Ty_at
  refine v_iload_n S d_Ty_at_0 rfl rfl ?_
  refine v_iconst S d_Ty_at_1 (v := (3 : Int32)) (by decide) ?_
  refine v_iconst S d_Ty_at_2 (v := (2 : Int32)) (by decide) ?_
  refine v_iload_n S d_Ty_at_3 rfl rfl ?_
  refine v_imul S d_Ty_at_4 ?_
  refine v_iadd S d_Ty_at_5 ?_
  refine v_ishr S d_Ty_at_6 ?_
  refine v_iconst S d_Ty_at_7 (v := (3 : Int32)) (by decide) ?_
  refine v_iand S d_Ty_at_8 ?_
  exact v_iret S hret hlocks d_Ty_at_9
def fn_Ty_with (σ : mm_M) (a0 : Int32) (a1 : Int32) (a2 : Int32) : Option (Int32 × mm_M) :=
    (nm ((3 : Int32) + ((2 : Int32) * a1)) (fun x1 =>
    (some (((a0 &&& (((3 : Int32) <<< (x1 &&& 31)) ^^^ (-1 : Int32))) ||| (a2 <<< (x1 &&& 31))), σ))))
set_option maxRecDepth 100000 in
set_option maxHeartbeats 40000000 in
theorem c_Ty_with (l : Launch) (D : va_G) (ca : Nat → ClassId) (ax : Nat → Nat → Nat) (b : Nat) (σ : mm_M) (a0 : Int32) (a1 : Int32) (a2 : Int32)  {r : Int32} {σ' : mm_M} (hf : fn_Ty_with σ a0 a1 a2 = some (r, σ')) : Met l y_Ty_with w_Ty_with rm_Ty_with (pc_w D cls b N_C (ce_C ca b) (kC D ca ax b) [.int a0, .int a1, .int a2] σ) (qc_i D cls b N_C (ce_C ca b) r σ') 0 0 (mm_A b N_C) := by
  refine vv_go (cc := b_Ty_with) (maxL := 4) (ret := (some .int)) (fin := (r, σ')) (k := fn_Ty_with σ a0 a1 a2) (by decide) rfl (by simp [Value.category]) (Nat.le_of_ble_eq_true rfl) hf ?_
  intro p e s m below meth c hlocks hret S hKK
  unfold fn_Ty_with
  refine v_iconst S d_Ty_with_0 (v := (3 : Int32)) (by decide) ?_
  refine v_iconst S d_Ty_with_1 (v := (2 : Int32)) (by decide) ?_
  refine v_iload_n S d_Ty_with_2 rfl rfl ?_
  refine v_imul S d_Ty_with_3 ?_
  refine v_iadd S d_Ty_with_4 ?_
  refine v_top (fun x1 ex1 => ?_)
  refine v_istore_nP S d_Ty_with_5 rfl (by decide) (L2 := [some (.int a0), some (.int a1), some (.int a2), some (.int x1)]) rfl ?_
  refine v_iload_n S d_Ty_with_6 rfl rfl ?_
  refine v_iconst S d_Ty_with_7 (v := (3 : Int32)) (by decide) ?_
  refine v_iload_n S d_Ty_with_8 rfl rfl ?_
  refine v_ishl S d_Ty_with_9 ?_
  refine v_iconst S d_Ty_with_10 (v := (-1 : Int32)) (by decide) ?_
  refine v_ixor S d_Ty_with_11 ?_
  refine v_iand S d_Ty_with_12 ?_
  refine v_iload_n S d_Ty_with_13 rfl rfl ?_
  refine v_iload_n S d_Ty_with_14 rfl rfl ?_
  refine v_ishl S d_Ty_with_15 ?_
  refine v_ior S d_Ty_with_16 ?_
  exact v_iret S hret hlocks d_Ty_with_17
def fn_Ty_slotBelow (σ : mm_M) (a0 : Int32) (a1 : Int32) : Option (Int32 × mm_M) :=
    (some (((((6 : Int32) + (a0 &&& (7 : Int32))) - (1 : Int32)) - a1), σ))
set_option maxRecDepth 100000 in
set_option maxHeartbeats 40000000 in
theorem c_Ty_slotBelow (l : Launch) (D : va_G) (ca : Nat → ClassId) (ax : Nat → Nat → Nat) (b : Nat) (σ : mm_M) (a0 : Int32) (a1 : Int32)  {r : Int32} {σ' : mm_M} (hf : fn_Ty_slotBelow σ a0 a1 = some (r, σ')) : Met l y_Ty_slotBelow w_Ty_slotBelow rm_Ty_slotBelow (pc_w D cls b N_C (ce_C ca b) (kC D ca ax b) [.int a0, .int a1] σ) (qc_i D cls b N_C (ce_C ca b) r σ') 0 0 (mm_A b N_C) := by
  refine vv_go (cc := b_Ty_slotBelow) (maxL := 2) (ret := (some .int)) (fin := (r, σ')) (k := fn_Ty_slotBelow σ a0 a1) (by decide) rfl (by simp [Value.category]) (Nat.le_of_ble_eq_true rfl) hf ?_
  intro p e s m below meth c hlocks hret S hKK
  unfold fn_Ty_slotBelow
  refine v_bipush S d_Ty_slotBelow_0 (v := (6 : Int32)) (by decide) ?_
  refine v_iload_n S d_Ty_slotBelow_2 rfl rfl ?_
  refine v_bipush S d_Ty_slotBelow_3 (v := (7 : Int32)) (by decide) ?_
  refine v_iand S d_Ty_slotBelow_5 ?_
  refine v_iadd S d_Ty_slotBelow_6 ?_
  refine v_iconst S d_Ty_slotBelow_7 (v := (1 : Int32)) (by decide) ?_
  refine v_isub S d_Ty_slotBelow_8 ?_
  refine v_iload_n S d_Ty_slotBelow_9 rfl rfl ?_
  refine v_isub S d_Ty_slotBelow_10 ?_
  exact v_iret S hret hlocks d_Ty_slotBelow_11
def fn_Ty_below (σ : mm_M) (a0 : Int32) (a1 : Int32) : Option (Int32 × mm_M) :=
    (bd (fn_Ty_slotBelow σ a0 a1) (fun r2 σ1 =>
    (bd (fn_Ty_at σ1 a0 r2) (fun r4 σ3 =>
    (some (r4, σ3))))))
set_option maxRecDepth 100000 in
set_option maxHeartbeats 40000000 in
theorem c_Ty_below (l : Launch) (D : va_G) (ca : Nat → ClassId) (ax : Nat → Nat → Nat) (b : Nat) (σ : mm_M) (a0 : Int32) (a1 : Int32)  {r : Int32} {σ' : mm_M} (hf : fn_Ty_below σ a0 a1 = some (r, σ')) : Met l y_Ty_below w_Ty_below rm_Ty_below (pc_w D cls b N_C (ce_C ca b) (kC D ca ax b) [.int a0, .int a1] σ) (qc_i D cls b N_C (ce_C ca b) r σ') 0 0 (mm_A b N_C) := by
  refine vv_go (cc := b_Ty_below) (maxL := 2) (ret := (some .int)) (fin := (r, σ')) (k := fn_Ty_below σ a0 a1) (by decide) rfl (by simp [Value.category]) (Nat.le_of_ble_eq_true rfl) hf ?_
  intro p e s m below meth c hlocks hret S hKK
  unfold fn_Ty_below
  refine v_iload_n S d_Ty_below_0 rfl rfl ?_
  refine v_iload_n S d_Ty_below_1 rfl rfl ?_
  refine v_iload_n S d_Ty_below_2 rfl rfl ?_
  refine v_ci (rest := [.int a0]) (fun _ _ hg H locs ls hsz hP hS => run_S (As := [.int a0, .int a1]) (rest := [.int a0]) S kC_ok hKK (c_Ty_slotBelow l D ca ax b σ a0 a1 hg) (k_Ty_11 S.2.2.2.2 (fun _ => List.mem_cons_of_mem _) ⟨Nat.le_of_ble_eq_true rfl, Nat.le_of_ble_eq_true rfl⟩) rfl rfl (by simp [Value.category]) d_Ty_below_3 hsz hP hS) (fun r2 σ1 _ => ?_)
  refine v_ci (rest := []) (fun _ _ hg H locs ls hsz hP hS => run_S (As := [.int a0, .int r2]) (rest := []) S kC_ok hKK (c_Ty_at l D ca ax b σ1 a0 r2 hg) (k_Ty_15 S.2.2.2.2 (fun _ => List.mem_cons_of_mem _) ⟨Nat.le_of_ble_eq_true rfl, Nat.le_of_ble_eq_true rfl⟩) rfl rfl (Nat.zero_le _) d_Ty_below_6 hsz hP hS) (fun r4 σ3 _ => ?_)
  exact v_iret S hret hlocks d_Ty_below_9
def fn_Ty_pushed (σ : mm_M) (a0 : Int32) (a1 : Int32) : Option (Int32 × mm_M) :=
    (bd (fn_Ty_height σ a0) (fun r2 σ1 =>
    (bd (fn_Ty_with σ1 a0 ((6 : Int32) + r2) a1) (fun r4 σ3 =>
    (some ((r4 + (1 : Int32)), σ3))))))
set_option maxRecDepth 100000 in
set_option maxHeartbeats 40000000 in
theorem c_Ty_pushed (l : Launch) (D : va_G) (ca : Nat → ClassId) (ax : Nat → Nat → Nat) (b : Nat) (σ : mm_M) (a0 : Int32) (a1 : Int32)  {r : Int32} {σ' : mm_M} (hf : fn_Ty_pushed σ a0 a1 = some (r, σ')) : Met l y_Ty_pushed w_Ty_pushed rm_Ty_pushed (pc_w D cls b N_C (ce_C ca b) (kC D ca ax b) [.int a0, .int a1] σ) (qc_i D cls b N_C (ce_C ca b) r σ') 0 0 (mm_A b N_C) := by
  refine vv_go (cc := b_Ty_pushed) (maxL := 2) (ret := (some .int)) (fin := (r, σ')) (k := fn_Ty_pushed σ a0 a1) (by decide) rfl (by simp [Value.category]) (Nat.le_of_ble_eq_true rfl) hf ?_
  intro p e s m below meth c hlocks hret S hKK
  unfold fn_Ty_pushed
  refine v_iload_n S d_Ty_pushed_0 rfl rfl ?_
  refine v_bipush S d_Ty_pushed_1 (v := (6 : Int32)) (by decide) ?_
  refine v_iload_n S d_Ty_pushed_3 rfl rfl ?_
  refine v_ci (rest := [.int (6 : Int32), .int a0]) (fun _ _ hg H locs ls hsz hP hS => run_S (As := [.int a0]) (rest := [.int (6 : Int32), .int a0]) S kC_ok hKK (c_Ty_height l D ca ax b σ a0 hg) (k_Ty_18 S.2.2.2.2 (fun _ => List.mem_cons_of_mem _) ⟨Nat.le_of_ble_eq_true rfl, Nat.le_of_ble_eq_true rfl⟩) rfl rfl (by simp [Value.category]) d_Ty_pushed_4 hsz hP hS) (fun r2 σ1 _ => ?_)
  refine v_iadd S d_Ty_pushed_7 ?_
  refine v_iload_n S d_Ty_pushed_8 rfl rfl ?_
  refine v_ci (rest := []) (fun _ _ hg H locs ls hsz hP hS => run_S (As := [.int a0, .int ((6 : Int32) + r2), .int a1]) (rest := []) S kC_ok hKK (c_Ty_with l D ca ax b σ1 a0 ((6 : Int32) + r2) a1 hg) (k_Ty_22 S.2.2.2.2 (fun _ => List.mem_cons_of_mem _) ⟨Nat.le_of_ble_eq_true rfl, Nat.le_of_ble_eq_true rfl⟩) rfl rfl (Nat.zero_le _) d_Ty_pushed_9 hsz hP hS) (fun r4 σ3 _ => ?_)
  refine v_iconst S d_Ty_pushed_12 (v := (1 : Int32)) (by decide) ?_
  refine v_iadd S d_Ty_pushed_13 ?_
  exact v_iret S hret hlocks d_Ty_pushed_14
def fn_Ty_dropped_4 (a0 : Int32) (a1 : Int32) : Nat → mm_M → Int32 → Int32 → Option (Int32 × mm_M)
  | 0, _, _, _ => none
  | n + 1, σ, l2, l3 =>
    (if a1 ≤ l3 then
    (some (l2, σ))
    else
    (bd (fn_Ty_slotBelow σ l2 (0 : Int32)) (fun r3 σ2 =>
    (bd (fn_Ty_with σ2 l2 r3 (0 : Int32)) (fun r5 σ4 =>
    (nm (r5 - (1 : Int32)) (fun x6 =>
    (fn_Ty_dropped_4 a0 a1 n σ4 x6 (l3 + (1 : Int32))))))))))
def fn_Ty_dropped (σ : mm_M) (a0 : Int32) (a1 : Int32) : Option (Int32 × mm_M) :=
    (fn_Ty_dropped_4 a0 a1 fuel0 σ a0 (0 : Int32))
set_option maxRecDepth 100000 in
set_option maxHeartbeats 40000000 in
theorem c_Ty_dropped (l : Launch) (D : va_G) (ca : Nat → ClassId) (ax : Nat → Nat → Nat) (b : Nat) (σ : mm_M) (a0 : Int32) (a1 : Int32)  {r : Int32} {σ' : mm_M} (hf : fn_Ty_dropped σ a0 a1 = some (r, σ')) : Met l y_Ty_dropped w_Ty_dropped rm_Ty_dropped (pc_w D cls b N_C (ce_C ca b) (kC D ca ax b) [.int a0, .int a1] σ) (qc_i D cls b N_C (ce_C ca b) r σ') 0 0 (mm_A b N_C) := by
  refine vv_go (cc := b_Ty_dropped) (maxL := 4) (ret := (some .int)) (fin := (r, σ')) (k := fn_Ty_dropped σ a0 a1) (by decide) rfl (by simp [Value.category]) (Nat.le_of_ble_eq_true rfl) hf ?_
  intro p e s m below meth c hlocks hret S hKK
  have C4 : ∀ (n : Nat) (σ : mm_M) (l2 : Int32) (l3 : Int32), vv p l e (headSpec w_Ty_dropped rm_Ty_dropped).room s m [.int a0, .int a1].toArray below meth c D cls b N_C (ce_C ca b) 4 (MQ below (qc_i D cls b N_C (ce_C ca b) r σ') [.int a0, .int a1].toArray s 0 0 (mm_A b N_C)) (r, σ') (fn_Ty_dropped_4 a0 a1 n σ l2 l3) σ 4 [none, some (.int a1), some (.int l2), some (.int l3)] [] := by
    intro n
    induction n with
    | zero => intro σ l2 l3  h; cases h
    | succ n ih =>
      intro σ l2 l3
      show vv p l e (headSpec w_Ty_dropped rm_Ty_dropped).room s m [.int a0, .int a1].toArray below meth c D cls b N_C (ce_C ca b) 4 (MQ below (qc_i D cls b N_C (ce_C ca b) r σ') [.int a0, .int a1].toArray s 0 0 (mm_A b N_C)) (r, σ') (        (if a1 ≤ l3 then
        (some (l2, σ))
        else
        (bd (fn_Ty_slotBelow σ l2 (0 : Int32)) (fun r3 σ2 =>
        (bd (fn_Ty_with σ2 l2 r3 (0 : Int32)) (fun r5 σ4 =>
        (nm (r5 - (1 : Int32)) (fun x6 =>
        (fn_Ty_dropped_4 a0 a1 n σ4 x6 (l3 + (1 : Int32))))))))))) σ 4 [none, some (.int a1), some (.int l2), some (.int l3)] []
      refine v_iload_n S d_Ty_dropped_4 rfl rfl ?_
      refine v_iload_n S d_Ty_dropped_5 rfl rfl ?_
      refine v_icmp_ge S d_Ty_dropped_6 (tgt := 28) (by decide) (fun h1 => ?_) (fun h1 => ?_)
      · refine v_iload_n S d_Ty_dropped_28 rfl rfl ?_
        exact v_iret S hret hlocks d_Ty_dropped_29
      · refine v_iload_n S d_Ty_dropped_9 rfl rfl ?_
        refine v_iload_n S d_Ty_dropped_10 rfl rfl ?_
        refine v_iconst S d_Ty_dropped_11 (v := (0 : Int32)) (by decide) ?_
        refine v_ci (rest := [.int l2]) (fun _ _ hg H locs ls hsz hP hS => run_S (As := [.int l2, .int (0 : Int32)]) (rest := [.int l2]) S kC_ok hKK (c_Ty_slotBelow l D ca ax b σ l2 (0 : Int32) hg) (k_Ty_11 S.2.2.2.2 (fun _ => List.mem_cons_of_mem _) ⟨Nat.le_of_ble_eq_true rfl, Nat.le_of_ble_eq_true rfl⟩) rfl rfl (by simp [Value.category]) d_Ty_dropped_12 hsz hP hS) (fun r3 σ2 _ => ?_)
        refine v_iconst S d_Ty_dropped_15 (v := (0 : Int32)) (by decide) ?_
        refine v_ci (rest := []) (fun _ _ hg H locs ls hsz hP hS => run_S (As := [.int l2, .int r3, .int (0 : Int32)]) (rest := []) S kC_ok hKK (c_Ty_with l D ca ax b σ2 l2 r3 (0 : Int32) hg) (k_Ty_22 S.2.2.2.2 (fun _ => List.mem_cons_of_mem _) ⟨Nat.le_of_ble_eq_true rfl, Nat.le_of_ble_eq_true rfl⟩) rfl rfl (Nat.zero_le _) d_Ty_dropped_16 hsz hP hS) (fun r5 σ4 _ => ?_)
        refine v_iconst S d_Ty_dropped_19 (v := (1 : Int32)) (by decide) ?_
        refine v_isub S d_Ty_dropped_20 ?_
        refine v_top (fun x6 ex6 => ?_)
        refine v_istore_nP S d_Ty_dropped_21 rfl (by decide) (L2 := [none, some (.int a1), some (.int x6), some (.int l3)]) rfl ?_
        refine v_iinc S d_Ty_dropped_22 rfl (v := (l3 + (1 : Int32))) (by first | rfl | decide) (by decide) (L2 := [none, some (.int a1), some (.int x6), some (.int (l3 + (1 : Int32)))]) rfl ?_
        refine v_goto S d_Ty_dropped_25 (tgt := 4) (by decide) ?_
        refine v_sub (L2 := [none, some (.int a1), some (.int x6), some (.int (l3 + (1 : Int32)))]) (And.intro rfl (And.intro rfl (And.intro rfl True.intro))) ?_
        exact ih σ4 x6 (l3 + (1 : Int32))
  unfold fn_Ty_dropped
  refine v_iload_n S d_Ty_dropped_0 rfl rfl ?_
  refine v_istore_nP S d_Ty_dropped_1 rfl (by decide) (L2 := [some (.int a0), some (.int a1), some (.int a0)]) rfl ?_
  refine v_iconst S d_Ty_dropped_2 (v := (0 : Int32)) (by decide) ?_
  refine v_istore_nP S d_Ty_dropped_3 rfl (by decide) (L2 := [some (.int a0), some (.int a1), some (.int a0), some (.int (0 : Int32))]) rfl ?_
  refine v_sub (L2 := [none, some (.int a1), some (.int a0), some (.int (0 : Int32))]) (And.intro rfl (And.intro rfl (And.intro rfl True.intro))) ?_
  exact C4 fuel0 σ a0 (0 : Int32)
def fn_Ty_met_31 (a0 : Int32) (a1 : Int32) : Nat → mm_M → Int32 → Int32 → Option (Int32 × mm_M)
  | 0, _, _, _ => none
  | n + 1, σ, l2, l3 =>
    (if (12 : Int32) ≤ l3 then
    (some (l2, σ))
    else
    (bd (fn_Ty_at σ a0 l3) (fun r10 σ9 =>
    (bd (fn_Ty_at σ9 a1 l3) (fun r12 σ11 =>
    (if r10 = r12 then
    (fn_Ty_met_31 a0 a1 n σ11 l2 (l3 + (1 : Int32)))
    else
    (bd (fn_Ty_with σ11 l2 l3 (3 : Int32)) (fun r16 σ15 =>
    (fn_Ty_met_31 a0 a1 n σ15 r16 (l3 + (1 : Int32)))))))))))
def fn_Ty_met (σ : mm_M) (a0 : Int32) (a1 : Int32) : Option (Int32 × mm_M) :=
    (if a0 = (-1 : Int32) then
    (some (a1, σ))
    else
    (if a0 = (-2 : Int32) then
    (some ((-2 : Int32), σ))
    else
    (bd (fn_Ty_height σ a0) (fun r4 σ3 =>
    (bd (fn_Ty_height σ3 a1) (fun r6 σ5 =>
    (if r4 = r6 then
    (fn_Ty_met_31 a0 a1 fuel0 σ5 a0 (0 : Int32))
    else
    (some ((-2 : Int32), σ5)))))))))
set_option maxRecDepth 100000 in
set_option maxHeartbeats 40000000 in
theorem c_Ty_met (l : Launch) (D : va_G) (ca : Nat → ClassId) (ax : Nat → Nat → Nat) (b : Nat) (σ : mm_M) (a0 : Int32) (a1 : Int32)  {r : Int32} {σ' : mm_M} (hf : fn_Ty_met σ a0 a1 = some (r, σ')) : Met l y_Ty_met w_Ty_met rm_Ty_met (pc_w D cls b N_C (ce_C ca b) (kC D ca ax b) [.int a0, .int a1] σ) (qc_i D cls b N_C (ce_C ca b) r σ') 0 0 (mm_A b N_C) := by
  refine vv_go (cc := b_Ty_met) (maxL := 4) (ret := (some .int)) (fin := (r, σ')) (k := fn_Ty_met σ a0 a1) (by decide) rfl (by simp [Value.category]) (Nat.le_of_ble_eq_true rfl) hf ?_
  intro p e s m below meth c hlocks hret S hKK
  have C31 : ∀ (n : Nat) (σ : mm_M) (l2 : Int32) (l3 : Int32), vv p l e (headSpec w_Ty_met rm_Ty_met).room s m [.int a0, .int a1].toArray below meth c D cls b N_C (ce_C ca b) 4 (MQ below (qc_i D cls b N_C (ce_C ca b) r σ') [.int a0, .int a1].toArray s 0 0 (mm_A b N_C)) (r, σ') (fn_Ty_met_31 a0 a1 n σ l2 l3) σ 31 [some (.int a0), some (.int a1), some (.int l2), some (.int l3)] [] := by
    intro n
    induction n with
    | zero => intro σ l2 l3  h; cases h
    | succ n ih =>
      intro σ l2 l3
      show vv p l e (headSpec w_Ty_met rm_Ty_met).room s m [.int a0, .int a1].toArray below meth c D cls b N_C (ce_C ca b) 4 (MQ below (qc_i D cls b N_C (ce_C ca b) r σ') [.int a0, .int a1].toArray s 0 0 (mm_A b N_C)) (r, σ') (        (if (12 : Int32) ≤ l3 then
        (some (l2, σ))
        else
        (bd (fn_Ty_at σ a0 l3) (fun r10 σ9 =>
        (bd (fn_Ty_at σ9 a1 l3) (fun r12 σ11 =>
        (if r10 = r12 then
        (fn_Ty_met_31 a0 a1 n σ11 l2 (l3 + (1 : Int32)))
        else
        (bd (fn_Ty_with σ11 l2 l3 (3 : Int32)) (fun r16 σ15 =>
        (fn_Ty_met_31 a0 a1 n σ15 r16 (l3 + (1 : Int32)))))))))))) σ 31 [some (.int a0), some (.int a1), some (.int l2), some (.int l3)] []
      refine v_iload_n S d_Ty_met_31 rfl rfl ?_
      refine v_bipush S d_Ty_met_32 (v := (12 : Int32)) (by decide) ?_
      refine v_icmp_ge S d_Ty_met_34 (tgt := 63) (by decide) (fun h8 => ?_) (fun h8 => ?_)
      · refine v_iload_n S d_Ty_met_63 rfl rfl ?_
        exact v_iret S hret hlocks d_Ty_met_64
      · refine v_iload_n S d_Ty_met_37 rfl rfl ?_
        refine v_iload_n S d_Ty_met_38 rfl rfl ?_
        refine v_ci (rest := []) (fun _ _ hg H locs ls hsz hP hS => run_S (As := [.int a0, .int l3]) (rest := []) S kC_ok hKK (c_Ty_at l D ca ax b σ a0 l3 hg) (k_Ty_15 S.2.2.2.2 (fun _ => List.mem_cons_of_mem _) ⟨Nat.le_of_ble_eq_true rfl, Nat.le_of_ble_eq_true rfl⟩) rfl rfl (Nat.zero_le _) d_Ty_met_39 hsz hP hS) (fun r10 σ9 _ => ?_)
        refine v_iload_n S d_Ty_met_42 rfl rfl ?_
        refine v_iload_n S d_Ty_met_43 rfl rfl ?_
        refine v_ci (rest := [.int r10]) (fun _ _ hg H locs ls hsz hP hS => run_S (As := [.int a1, .int l3]) (rest := [.int r10]) S kC_ok hKK (c_Ty_at l D ca ax b σ9 a1 l3 hg) (k_Ty_15 S.2.2.2.2 (fun _ => List.mem_cons_of_mem _) ⟨Nat.le_of_ble_eq_true rfl, Nat.le_of_ble_eq_true rfl⟩) rfl rfl (by simp [Value.category]) d_Ty_met_44 hsz hP hS) (fun r12 σ11 _ => ?_)
        refine v_icmp_eq S d_Ty_met_47 (tgt := 57) (by decide) (fun h13 => ?_) (fun h13 => ?_)
        · refine v_iinc S d_Ty_met_57 rfl (v := (l3 + (1 : Int32))) (by first | rfl | decide) (by decide) (L2 := [some (.int a0), some (.int a1), some (.int l2), some (.int (l3 + (1 : Int32)))]) rfl ?_
          refine v_goto S d_Ty_met_60 (tgt := 31) (by decide) ?_
          refine v_sub (L2 := [some (.int a0), some (.int a1), some (.int l2), some (.int (l3 + (1 : Int32)))]) (And.intro rfl (And.intro rfl (And.intro rfl (And.intro rfl True.intro)))) ?_
          exact ih σ11 l2 (l3 + (1 : Int32))
        · refine v_iload_n S d_Ty_met_50 rfl rfl ?_
          refine v_iload_n S d_Ty_met_51 rfl rfl ?_
          refine v_iconst S d_Ty_met_52 (v := (3 : Int32)) (by decide) ?_
          refine v_ci (rest := []) (fun _ _ hg H locs ls hsz hP hS => run_S (As := [.int l2, .int l3, .int (3 : Int32)]) (rest := []) S kC_ok hKK (c_Ty_with l D ca ax b σ11 l2 l3 (3 : Int32) hg) (k_Ty_22 S.2.2.2.2 (fun _ => List.mem_cons_of_mem _) ⟨Nat.le_of_ble_eq_true rfl, Nat.le_of_ble_eq_true rfl⟩) rfl rfl (Nat.zero_le _) d_Ty_met_53 hsz hP hS) (fun r16 σ15 _ => ?_)
          refine v_istore_nP S d_Ty_met_56 rfl (by decide) (L2 := [some (.int a0), some (.int a1), some (.int r16), some (.int l3)]) rfl ?_
          refine v_iinc S d_Ty_met_57 rfl (v := (l3 + (1 : Int32))) (by first | rfl | decide) (by decide) (L2 := [some (.int a0), some (.int a1), some (.int r16), some (.int (l3 + (1 : Int32)))]) rfl ?_
          refine v_goto S d_Ty_met_60 (tgt := 31) (by decide) ?_
          refine v_sub (L2 := [some (.int a0), some (.int a1), some (.int r16), some (.int (l3 + (1 : Int32)))]) (And.intro rfl (And.intro rfl (And.intro rfl (And.intro rfl True.intro)))) ?_
          exact ih σ15 r16 (l3 + (1 : Int32))
  unfold fn_Ty_met
  refine v_iload_n S d_Ty_met_0 rfl rfl ?_
  refine v_iconst S d_Ty_met_1 (v := (-1 : Int32)) (by decide) ?_
  refine v_icmp_ne S d_Ty_met_2 (tgt := 7) (by decide) (fun h1 => ?_) (fun h1 => ?_)
  · refine v_iload_n S d_Ty_met_7 rfl rfl ?_
    refine v_bipush S d_Ty_met_8 (v := (-2 : Int32)) (by decide) ?_
    refine v_icmp_eq S d_Ty_met_10 (tgt := 24) (by decide) (fun h2 => ?_) (fun h2 => ?_)
    · refine v_bipush S d_Ty_met_24 (v := (-2 : Int32)) (by decide) ?_
      exact v_iret S hret hlocks d_Ty_met_26
    · refine v_iload_n S d_Ty_met_13 rfl rfl ?_
      refine v_ci (rest := []) (fun _ _ hg H locs ls hsz hP hS => run_S (As := [.int a0]) (rest := []) S kC_ok hKK (c_Ty_height l D ca ax b σ a0 hg) (k_Ty_18 S.2.2.2.2 (fun _ => List.mem_cons_of_mem _) ⟨Nat.le_of_ble_eq_true rfl, Nat.le_of_ble_eq_true rfl⟩) rfl rfl (Nat.zero_le _) d_Ty_met_14 hsz hP hS) (fun r4 σ3 _ => ?_)
      refine v_iload_n S d_Ty_met_17 rfl rfl ?_
      refine v_ci (rest := [.int r4]) (fun _ _ hg H locs ls hsz hP hS => run_S (As := [.int a1]) (rest := [.int r4]) S kC_ok hKK (c_Ty_height l D ca ax b σ3 a1 hg) (k_Ty_18 S.2.2.2.2 (fun _ => List.mem_cons_of_mem _) ⟨Nat.le_of_ble_eq_true rfl, Nat.le_of_ble_eq_true rfl⟩) rfl rfl (by simp [Value.category]) d_Ty_met_18 hsz hP hS) (fun r6 σ5 _ => ?_)
      refine v_icmp_eq S d_Ty_met_21 (tgt := 27) (by decide) (fun h7 => ?_) (fun h7 => ?_)
      · refine v_iload_n S d_Ty_met_27 rfl rfl ?_
        refine v_istore_nP S d_Ty_met_28 rfl (by decide) (L2 := [some (.int a0), some (.int a1), some (.int a0)]) rfl ?_
        refine v_iconst S d_Ty_met_29 (v := (0 : Int32)) (by decide) ?_
        refine v_istore_nP S d_Ty_met_30 rfl (by decide) (L2 := [some (.int a0), some (.int a1), some (.int a0), some (.int (0 : Int32))]) rfl ?_
        refine v_sub (L2 := [some (.int a0), some (.int a1), some (.int a0), some (.int (0 : Int32))]) (And.intro rfl (And.intro rfl (And.intro rfl (And.intro rfl True.intro)))) ?_
        exact C31 fuel0 σ5 a0 (0 : Int32)
      · refine v_bipush S d_Ty_met_24 (v := (-2 : Int32)) (by decide) ?_
        exact v_iret S hret hlocks d_Ty_met_26
  · refine v_iload_n S d_Ty_met_5 rfl rfl ?_
    exact v_iret S hret hlocks d_Ty_met_6
end
section
/-! names of 06.frames -/
def y_Fr_open : MethodName := ⟨"FrameVerifier$Frame", "open", "(III)V"⟩
abbrev b_Fr_open : ByteArray := prog_5_method_2_code
def rm_Fr_open : Room := { frames := 0, cells := 0, slots := 0, locals := 0 }
abbrev w_Fr_open : List Cond := Cond.code y_Fr_open b_Fr_open 4 none :: wG
theorem m_Fr_open : Cond.code y_Fr_open b_Fr_open 4 none ∈ wG := wg_t 401 (by decide +kernel) (by decide +kernel)
theorem q_Fr_open : y_Fr_open.cls ≠ "java/lang/invoke/MethodHandle" ∧ y_Fr_open.cls ≠ "java/lang/invoke/VarHandle" ∧ (parseMethodDescriptor y_Fr_open.desc).map (fun d => d.parameters.length) = some 3 := by decide +kernel
theorem g_Fr_open : Cond.initialized y_Fr_open.cls ∈ wG := wg_t 5 (by decide +kernel) (by decide +kernel)
theorem s_Fr_open : Cond.instanceMethod y_Fr_open ∈ wG := wg_t 399 (by decide +kernel) (by decide +kernel)
theorem e_Fr_open : Cond.selects "FrameVerifier$Frame" y_Fr_open y_Fr_open ∈ wG := wg_t 400 (by decide +kernel) (by decide +kernel)
theorem d_Fr_open_0 : decode b_Fr_open 0 = .ok (.aload_n 0, 1) := by decide +kernel
theorem d_Fr_open_1 : decode b_Fr_open 1 = .ok (.iload_n 1, 1) := by decide +kernel
theorem d_Fr_open_2 : decode b_Fr_open 2 = .ok (.putfield 9, 3) := by decide +kernel
theorem d_Fr_open_5 : decode b_Fr_open 5 = .ok (.aload_n 0, 1) := by decide +kernel
theorem d_Fr_open_6 : decode b_Fr_open 6 = .ok (.iload_n 2, 1) := by decide +kernel
theorem d_Fr_open_7 : decode b_Fr_open 7 = .ok (.putfield 15, 3) := by decide +kernel
theorem d_Fr_open_10 : decode b_Fr_open 10 = .ok (.aload_n 0, 1) := by decide +kernel
theorem d_Fr_open_11 : decode b_Fr_open 11 = .ok (.iload_n 3, 1) := by decide +kernel
theorem d_Fr_open_12 : decode b_Fr_open 12 = .ok (.putfield 20, 3) := by decide +kernel
theorem d_Fr_open_15 : decode b_Fr_open 15 = .ok (.return_, 1) := by decide +kernel
def y_Fr_setParameter : MethodName := ⟨"FrameVerifier$Frame", "setParameter", "(II)V"⟩
abbrev b_Fr_setParameter : ByteArray := prog_5_method_3_code
def rm_Fr_setParameter : Room := { frames := 0, cells := 0, slots := 0, locals := 0 }
abbrev w_Fr_setParameter : List Cond := Cond.code y_Fr_setParameter b_Fr_setParameter 3 none :: wG
theorem m_Fr_setParameter : Cond.code y_Fr_setParameter b_Fr_setParameter 3 none ∈ wG := wg_t 409 (by decide +kernel) (by decide +kernel)
theorem q_Fr_setParameter : y_Fr_setParameter.cls ≠ "java/lang/invoke/MethodHandle" ∧ y_Fr_setParameter.cls ≠ "java/lang/invoke/VarHandle" ∧ (parseMethodDescriptor y_Fr_setParameter.desc).map (fun d => d.parameters.length) = some 2 := by decide +kernel
theorem g_Fr_setParameter : Cond.initialized y_Fr_setParameter.cls ∈ wG := wg_t 5 (by decide +kernel) (by decide +kernel)
theorem s_Fr_setParameter : Cond.instanceMethod y_Fr_setParameter ∈ wG := wg_t 407 (by decide +kernel) (by decide +kernel)
theorem e_Fr_setParameter : Cond.selects "FrameVerifier$Frame" y_Fr_setParameter y_Fr_setParameter ∈ wG := wg_t 408 (by decide +kernel) (by decide +kernel)
theorem d_Fr_setParameter_0 : decode b_Fr_setParameter 0 = .ok (.aload_n 0, 1) := by decide +kernel
theorem d_Fr_setParameter_1 : decode b_Fr_setParameter 1 = .ok (.getfield 23, 3) := by decide +kernel
theorem d_Fr_setParameter_4 : decode b_Fr_setParameter 4 = .ok (.iload_n 1, 1) := by decide +kernel
theorem d_Fr_setParameter_5 : decode b_Fr_setParameter 5 = .ok (.iload_n 2, 1) := by decide +kernel
theorem d_Fr_setParameter_6 : decode b_Fr_setParameter 6 = .ok (.iastore, 1) := by decide +kernel
theorem d_Fr_setParameter_7 : decode b_Fr_setParameter 7 = .ok (.return_, 1) := by decide +kernel
def y_Fr_typeBelow : MethodName := ⟨"FrameVerifier$Frame", "typeBelow", "(I)I"⟩
abbrev b_Fr_typeBelow : ByteArray := prog_5_method_4_code
def rm_Fr_typeBelow : Room := { frames := 2, cells := 0, slots := 0, locals := 42 }
abbrev w_Fr_typeBelow : List Cond := Cond.code y_Fr_typeBelow b_Fr_typeBelow 2 (some .int) :: wG
theorem m_Fr_typeBelow : Cond.code y_Fr_typeBelow b_Fr_typeBelow 2 (some .int) ∈ wG := wg_t 691 (by decide +kernel) (by decide +kernel)
theorem q_Fr_typeBelow : y_Fr_typeBelow.cls ≠ "java/lang/invoke/MethodHandle" ∧ y_Fr_typeBelow.cls ≠ "java/lang/invoke/VarHandle" ∧ (parseMethodDescriptor y_Fr_typeBelow.desc).map (fun d => d.parameters.length) = some 1 := by decide +kernel
theorem g_Fr_typeBelow : Cond.initialized y_Fr_typeBelow.cls ∈ wG := wg_t 5 (by decide +kernel) (by decide +kernel)
theorem s_Fr_typeBelow : Cond.instanceMethod y_Fr_typeBelow ∈ wG := wg_t 689 (by decide +kernel) (by decide +kernel)
theorem e_Fr_typeBelow : Cond.selects "FrameVerifier$Frame" y_Fr_typeBelow y_Fr_typeBelow ∈ wG := wg_t 690 (by decide +kernel) (by decide +kernel)
theorem d_Fr_typeBelow_0 : decode b_Fr_typeBelow 0 = .ok (.aload_n 0, 1) := by decide +kernel
theorem d_Fr_typeBelow_1 : decode b_Fr_typeBelow 1 = .ok (.getfield 20, 3) := by decide +kernel
theorem d_Fr_typeBelow_4 : decode b_Fr_typeBelow 4 = .ok (.iload_n 1, 1) := by decide +kernel
theorem d_Fr_typeBelow_5 : decode b_Fr_typeBelow 5 = .ok (.invokestatic 27, 3) := by decide +kernel
theorem d_Fr_typeBelow_8 : decode b_Fr_typeBelow 8 = .ok (.ireturn, 1) := by decide +kernel
def y_Fr_below : MethodName := ⟨"FrameVerifier$Frame", "below", "(I)I"⟩
abbrev b_Fr_below : ByteArray := prog_5_method_5_code
def rm_Fr_below : Room := { frames := 1, cells := 0, slots := 0, locals := 21 }
abbrev w_Fr_below : List Cond := Cond.code y_Fr_below b_Fr_below 2 (some .int) :: wG
theorem m_Fr_below : Cond.code y_Fr_below b_Fr_below 2 (some .int) ∈ wG := wg_t 544 (by decide +kernel) (by decide +kernel)
theorem q_Fr_below : y_Fr_below.cls ≠ "java/lang/invoke/MethodHandle" ∧ y_Fr_below.cls ≠ "java/lang/invoke/VarHandle" ∧ (parseMethodDescriptor y_Fr_below.desc).map (fun d => d.parameters.length) = some 1 := by decide +kernel
theorem g_Fr_below : Cond.initialized y_Fr_below.cls ∈ wG := wg_t 5 (by decide +kernel) (by decide +kernel)
theorem s_Fr_below : Cond.instanceMethod y_Fr_below ∈ wG := wg_t 542 (by decide +kernel) (by decide +kernel)
theorem e_Fr_below : Cond.selects "FrameVerifier$Frame" y_Fr_below y_Fr_below ∈ wG := wg_t 543 (by decide +kernel) (by decide +kernel)
theorem d_Fr_below_0 : decode b_Fr_below 0 = .ok (.aload_n 0, 1) := by decide +kernel
theorem d_Fr_below_1 : decode b_Fr_below 1 = .ok (.getfield 23, 3) := by decide +kernel
theorem d_Fr_below_4 : decode b_Fr_below 4 = .ok (.aload_n 0, 1) := by decide +kernel
theorem d_Fr_below_5 : decode b_Fr_below 5 = .ok (.getfield 20, 3) := by decide +kernel
theorem d_Fr_below_8 : decode b_Fr_below 8 = .ok (.iload_n 1, 1) := by decide +kernel
theorem d_Fr_below_9 : decode b_Fr_below 9 = .ok (.invokestatic 31, 3) := by decide +kernel
theorem d_Fr_below_12 : decode b_Fr_below 12 = .ok (.iaload, 1) := by decide +kernel
theorem d_Fr_below_13 : decode b_Fr_below 13 = .ok (.ireturn, 1) := by decide +kernel
def y_Fr_push : MethodName := ⟨"FrameVerifier$Frame", "push", "(II)V"⟩
abbrev b_Fr_push : ByteArray := prog_5_method_6_code
def rm_Fr_push : Room := { frames := 2, cells := 0, slots := 0, locals := 44 }
abbrev w_Fr_push : List Cond := Cond.code y_Fr_push b_Fr_push 3 none :: wG
theorem m_Fr_push : Cond.code y_Fr_push b_Fr_push 3 none ∈ wG := wg_t 661 (by decide +kernel) (by decide +kernel)
theorem q_Fr_push : y_Fr_push.cls ≠ "java/lang/invoke/MethodHandle" ∧ y_Fr_push.cls ≠ "java/lang/invoke/VarHandle" ∧ (parseMethodDescriptor y_Fr_push.desc).map (fun d => d.parameters.length) = some 2 := by decide +kernel
theorem g_Fr_push : Cond.initialized y_Fr_push.cls ∈ wG := wg_t 5 (by decide +kernel) (by decide +kernel)
theorem s_Fr_push : Cond.instanceMethod y_Fr_push ∈ wG := wg_t 659 (by decide +kernel) (by decide +kernel)
theorem e_Fr_push : Cond.selects "FrameVerifier$Frame" y_Fr_push y_Fr_push ∈ wG := wg_t 660 (by decide +kernel) (by decide +kernel)
theorem d_Fr_push_0 : decode b_Fr_push 0 = .ok (.aload_n 0, 1) := by decide +kernel
theorem d_Fr_push_1 : decode b_Fr_push 1 = .ok (.aload_n 0, 1) := by decide +kernel
theorem d_Fr_push_2 : decode b_Fr_push 2 = .ok (.getfield 20, 3) := by decide +kernel
theorem d_Fr_push_5 : decode b_Fr_push 5 = .ok (.iload_n 1, 1) := by decide +kernel
theorem d_Fr_push_6 : decode b_Fr_push 6 = .ok (.invokestatic 34, 3) := by decide +kernel
theorem d_Fr_push_9 : decode b_Fr_push 9 = .ok (.putfield 20, 3) := by decide +kernel
theorem d_Fr_push_12 : decode b_Fr_push 12 = .ok (.aload_n 0, 1) := by decide +kernel
theorem d_Fr_push_13 : decode b_Fr_push 13 = .ok (.getfield 23, 3) := by decide +kernel
theorem d_Fr_push_16 : decode b_Fr_push 16 = .ok (.aload_n 0, 1) := by decide +kernel
theorem d_Fr_push_17 : decode b_Fr_push 17 = .ok (.getfield 20, 3) := by decide +kernel
theorem d_Fr_push_20 : decode b_Fr_push 20 = .ok (.iconst 0, 1) := by decide +kernel
theorem d_Fr_push_21 : decode b_Fr_push 21 = .ok (.invokestatic 31, 3) := by decide +kernel
theorem d_Fr_push_24 : decode b_Fr_push 24 = .ok (.iload_n 2, 1) := by decide +kernel
theorem d_Fr_push_25 : decode b_Fr_push 25 = .ok (.iastore, 1) := by decide +kernel
theorem d_Fr_push_26 : decode b_Fr_push 26 = .ok (.return_, 1) := by decide +kernel
def y_Fr_pop : MethodName := ⟨"FrameVerifier$Frame", "pop", "()I"⟩
abbrev b_Fr_pop : ByteArray := prog_5_method_7_code
def rm_Fr_pop : Room := { frames := 2, cells := 0, slots := 0, locals := 46 }
abbrev w_Fr_pop : List Cond := Cond.code y_Fr_pop b_Fr_pop 2 (some .int) :: wG
theorem m_Fr_pop : Cond.code y_Fr_pop b_Fr_pop 2 (some .int) ∈ wG := wg_t 645 (by decide +kernel) (by decide +kernel)
theorem q_Fr_pop : y_Fr_pop.cls ≠ "java/lang/invoke/MethodHandle" ∧ y_Fr_pop.cls ≠ "java/lang/invoke/VarHandle" ∧ (parseMethodDescriptor y_Fr_pop.desc).map (fun d => d.parameters.length) = some 0 := by decide +kernel
theorem g_Fr_pop : Cond.initialized y_Fr_pop.cls ∈ wG := wg_t 5 (by decide +kernel) (by decide +kernel)
theorem s_Fr_pop : Cond.instanceMethod y_Fr_pop ∈ wG := wg_t 643 (by decide +kernel) (by decide +kernel)
theorem e_Fr_pop : Cond.selects "FrameVerifier$Frame" y_Fr_pop y_Fr_pop ∈ wG := wg_t 644 (by decide +kernel) (by decide +kernel)
theorem d_Fr_pop_0 : decode b_Fr_pop 0 = .ok (.aload_n 0, 1) := by decide +kernel
theorem d_Fr_pop_1 : decode b_Fr_pop 1 = .ok (.iconst 0, 1) := by decide +kernel
theorem d_Fr_pop_2 : decode b_Fr_pop 2 = .ok (.invokevirtual 37, 3) := by decide +kernel
theorem d_Fr_pop_5 : decode b_Fr_pop 5 = .ok (.istore_n 1, 1) := by decide +kernel
theorem d_Fr_pop_6 : decode b_Fr_pop 6 = .ok (.aload_n 0, 1) := by decide +kernel
theorem d_Fr_pop_7 : decode b_Fr_pop 7 = .ok (.aload_n 0, 1) := by decide +kernel
theorem d_Fr_pop_8 : decode b_Fr_pop 8 = .ok (.getfield 20, 3) := by decide +kernel
theorem d_Fr_pop_11 : decode b_Fr_pop 11 = .ok (.iconst 1, 1) := by decide +kernel
theorem d_Fr_pop_12 : decode b_Fr_pop 12 = .ok (.invokestatic 40, 3) := by decide +kernel
theorem d_Fr_pop_15 : decode b_Fr_pop 15 = .ok (.putfield 20, 3) := by decide +kernel
theorem d_Fr_pop_18 : decode b_Fr_pop 18 = .ok (.iload_n 1, 1) := by decide +kernel
theorem d_Fr_pop_19 : decode b_Fr_pop 19 = .ok (.ireturn, 1) := by decide +kernel
def y_Fr_load : MethodName := ⟨"FrameVerifier$Frame", "load", "(I)V"⟩
abbrev b_Fr_load : ByteArray := prog_5_method_8_code
def rm_Fr_load : Room := { frames := 3, cells := 0, slots := 0, locals := 66 }
abbrev w_Fr_load : List Cond := Cond.code y_Fr_load b_Fr_load 2 none :: wG
theorem m_Fr_load : Cond.code y_Fr_load b_Fr_load 2 none ∈ wG := wg_t 699 (by decide +kernel) (by decide +kernel)
theorem q_Fr_load : y_Fr_load.cls ≠ "java/lang/invoke/MethodHandle" ∧ y_Fr_load.cls ≠ "java/lang/invoke/VarHandle" ∧ (parseMethodDescriptor y_Fr_load.desc).map (fun d => d.parameters.length) = some 1 := by decide +kernel
theorem g_Fr_load : Cond.initialized y_Fr_load.cls ∈ wG := wg_t 5 (by decide +kernel) (by decide +kernel)
theorem s_Fr_load : Cond.instanceMethod y_Fr_load ∈ wG := wg_t 697 (by decide +kernel) (by decide +kernel)
theorem e_Fr_load : Cond.selects "FrameVerifier$Frame" y_Fr_load y_Fr_load ∈ wG := wg_t 698 (by decide +kernel) (by decide +kernel)
theorem d_Fr_load_0 : decode b_Fr_load 0 = .ok (.aload_n 0, 1) := by decide +kernel
theorem d_Fr_load_1 : decode b_Fr_load 1 = .ok (.aload_n 0, 1) := by decide +kernel
theorem d_Fr_load_2 : decode b_Fr_load 2 = .ok (.getfield 20, 3) := by decide +kernel
theorem d_Fr_load_5 : decode b_Fr_load 5 = .ok (.iload_n 1, 1) := by decide +kernel
theorem d_Fr_load_6 : decode b_Fr_load 6 = .ok (.invokestatic 43, 3) := by decide +kernel
theorem d_Fr_load_9 : decode b_Fr_load 9 = .ok (.aload_n 0, 1) := by decide +kernel
theorem d_Fr_load_10 : decode b_Fr_load 10 = .ok (.getfield 23, 3) := by decide +kernel
theorem d_Fr_load_13 : decode b_Fr_load 13 = .ok (.iload_n 1, 1) := by decide +kernel
theorem d_Fr_load_14 : decode b_Fr_load 14 = .ok (.iaload, 1) := by decide +kernel
theorem d_Fr_load_15 : decode b_Fr_load 15 = .ok (.invokevirtual 46, 3) := by decide +kernel
theorem d_Fr_load_18 : decode b_Fr_load 18 = .ok (.return_, 1) := by decide +kernel
def y_Fr_store : MethodName := ⟨"FrameVerifier$Frame", "store", "(I)V"⟩
abbrev b_Fr_store : ByteArray := prog_5_method_9_code
def rm_Fr_store : Room := { frames := 3, cells := 0, slots := 0, locals := 67 }
abbrev w_Fr_store : List Cond := Cond.code y_Fr_store b_Fr_store 3 none :: wG
theorem m_Fr_store : Cond.code y_Fr_store b_Fr_store 3 none ∈ wG := wg_t 704 (by decide +kernel) (by decide +kernel)
theorem q_Fr_store : y_Fr_store.cls ≠ "java/lang/invoke/MethodHandle" ∧ y_Fr_store.cls ≠ "java/lang/invoke/VarHandle" ∧ (parseMethodDescriptor y_Fr_store.desc).map (fun d => d.parameters.length) = some 1 := by decide +kernel
theorem g_Fr_store : Cond.initialized y_Fr_store.cls ∈ wG := wg_t 5 (by decide +kernel) (by decide +kernel)
theorem s_Fr_store : Cond.instanceMethod y_Fr_store ∈ wG := wg_t 702 (by decide +kernel) (by decide +kernel)
theorem e_Fr_store : Cond.selects "FrameVerifier$Frame" y_Fr_store y_Fr_store ∈ wG := wg_t 703 (by decide +kernel) (by decide +kernel)
theorem d_Fr_store_0 : decode b_Fr_store 0 = .ok (.aload_n 0, 1) := by decide +kernel
theorem d_Fr_store_1 : decode b_Fr_store 1 = .ok (.iconst 0, 1) := by decide +kernel
theorem d_Fr_store_2 : decode b_Fr_store 2 = .ok (.invokevirtual 50, 3) := by decide +kernel
theorem d_Fr_store_5 : decode b_Fr_store 5 = .ok (.istore_n 2, 1) := by decide +kernel
theorem d_Fr_store_6 : decode b_Fr_store 6 = .ok (.aload_n 0, 1) := by decide +kernel
theorem d_Fr_store_7 : decode b_Fr_store 7 = .ok (.getfield 23, 3) := by decide +kernel
theorem d_Fr_store_10 : decode b_Fr_store 10 = .ok (.iload_n 1, 1) := by decide +kernel
theorem d_Fr_store_11 : decode b_Fr_store 11 = .ok (.aload_n 0, 1) := by decide +kernel
theorem d_Fr_store_12 : decode b_Fr_store 12 = .ok (.invokevirtual 53, 3) := by decide +kernel
theorem d_Fr_store_15 : decode b_Fr_store 15 = .ok (.iastore, 1) := by decide +kernel
theorem d_Fr_store_16 : decode b_Fr_store 16 = .ok (.aload_n 0, 1) := by decide +kernel
theorem d_Fr_store_17 : decode b_Fr_store 17 = .ok (.aload_n 0, 1) := by decide +kernel
theorem d_Fr_store_18 : decode b_Fr_store 18 = .ok (.getfield 20, 3) := by decide +kernel
theorem d_Fr_store_21 : decode b_Fr_store 21 = .ok (.iload_n 1, 1) := by decide +kernel
theorem d_Fr_store_22 : decode b_Fr_store 22 = .ok (.iload_n 2, 1) := by decide +kernel
theorem d_Fr_store_23 : decode b_Fr_store 23 = .ok (.invokestatic 57, 3) := by decide +kernel
theorem d_Fr_store_26 : decode b_Fr_store 26 = .ok (.putfield 20, 3) := by decide +kernel
theorem d_Fr_store_29 : decode b_Fr_store 29 = .ok (.return_, 1) := by decide +kernel
def y_Fr_exchange : MethodName := ⟨"FrameVerifier$Frame", "exchange", "()V"⟩
abbrev b_Fr_exchange : ByteArray := prog_5_method_10_code
def rm_Fr_exchange : Room := { frames := 3, cells := 0, slots := 0, locals := 67 }
abbrev w_Fr_exchange : List Cond := Cond.code y_Fr_exchange b_Fr_exchange 5 none :: wG
theorem m_Fr_exchange : Cond.code y_Fr_exchange b_Fr_exchange 5 none ∈ wG := wg_t 711 (by decide +kernel) (by decide +kernel)
theorem q_Fr_exchange : y_Fr_exchange.cls ≠ "java/lang/invoke/MethodHandle" ∧ y_Fr_exchange.cls ≠ "java/lang/invoke/VarHandle" ∧ (parseMethodDescriptor y_Fr_exchange.desc).map (fun d => d.parameters.length) = some 0 := by decide +kernel
theorem g_Fr_exchange : Cond.initialized y_Fr_exchange.cls ∈ wG := wg_t 5 (by decide +kernel) (by decide +kernel)
theorem s_Fr_exchange : Cond.instanceMethod y_Fr_exchange ∈ wG := wg_t 709 (by decide +kernel) (by decide +kernel)
theorem e_Fr_exchange : Cond.selects "FrameVerifier$Frame" y_Fr_exchange y_Fr_exchange ∈ wG := wg_t 710 (by decide +kernel) (by decide +kernel)
theorem d_Fr_exchange_0 : decode b_Fr_exchange 0 = .ok (.aload_n 0, 1) := by decide +kernel
theorem d_Fr_exchange_1 : decode b_Fr_exchange 1 = .ok (.iconst 0, 1) := by decide +kernel
theorem d_Fr_exchange_2 : decode b_Fr_exchange 2 = .ok (.invokevirtual 50, 3) := by decide +kernel
theorem d_Fr_exchange_5 : decode b_Fr_exchange 5 = .ok (.istore_n 1, 1) := by decide +kernel
theorem d_Fr_exchange_6 : decode b_Fr_exchange 6 = .ok (.aload_n 0, 1) := by decide +kernel
theorem d_Fr_exchange_7 : decode b_Fr_exchange 7 = .ok (.invokevirtual 53, 3) := by decide +kernel
theorem d_Fr_exchange_10 : decode b_Fr_exchange 10 = .ok (.istore_n 2, 1) := by decide +kernel
theorem d_Fr_exchange_11 : decode b_Fr_exchange 11 = .ok (.aload_n 0, 1) := by decide +kernel
theorem d_Fr_exchange_12 : decode b_Fr_exchange 12 = .ok (.iconst 0, 1) := by decide +kernel
theorem d_Fr_exchange_13 : decode b_Fr_exchange 13 = .ok (.invokevirtual 50, 3) := by decide +kernel
theorem d_Fr_exchange_16 : decode b_Fr_exchange 16 = .ok (.istore_n 3, 1) := by decide +kernel
theorem d_Fr_exchange_17 : decode b_Fr_exchange 17 = .ok (.aload_n 0, 1) := by decide +kernel
theorem d_Fr_exchange_18 : decode b_Fr_exchange 18 = .ok (.invokevirtual 53, 3) := by decide +kernel
theorem d_Fr_exchange_21 : decode b_Fr_exchange 21 = .ok (.istore 4, 2) := by decide +kernel
theorem d_Fr_exchange_23 : decode b_Fr_exchange 23 = .ok (.aload_n 0, 1) := by decide +kernel
theorem d_Fr_exchange_24 : decode b_Fr_exchange 24 = .ok (.iload_n 1, 1) := by decide +kernel
theorem d_Fr_exchange_25 : decode b_Fr_exchange 25 = .ok (.iload_n 2, 1) := by decide +kernel
theorem d_Fr_exchange_26 : decode b_Fr_exchange 26 = .ok (.invokevirtual 46, 3) := by decide +kernel
theorem d_Fr_exchange_29 : decode b_Fr_exchange 29 = .ok (.aload_n 0, 1) := by decide +kernel
theorem d_Fr_exchange_30 : decode b_Fr_exchange 30 = .ok (.iload_n 3, 1) := by decide +kernel
theorem d_Fr_exchange_31 : decode b_Fr_exchange 31 = .ok (.iload 4, 2) := by decide +kernel
theorem d_Fr_exchange_33 : decode b_Fr_exchange 33 = .ok (.invokevirtual 46, 3) := by decide +kernel
theorem d_Fr_exchange_36 : decode b_Fr_exchange 36 = .ok (.return_, 1) := by decide +kernel
def y_Fr_shown : MethodName := ⟨"FrameVerifier$Frame", "shown", "(I)I"⟩
abbrev b_Fr_shown : ByteArray := prog_5_method_11_code
def rm_Fr_shown : Room := { frames := 1, cells := 0, slots := 0, locals := 21 }
abbrev w_Fr_shown : List Cond := Cond.code y_Fr_shown b_Fr_shown 3 (some .int) :: wG
theorem m_Fr_shown : Cond.code y_Fr_shown b_Fr_shown 3 (some .int) ∈ wG := wg_t 430 (by decide +kernel) (by decide +kernel)
theorem q_Fr_shown : y_Fr_shown.cls ≠ "java/lang/invoke/MethodHandle" ∧ y_Fr_shown.cls ≠ "java/lang/invoke/VarHandle" ∧ (parseMethodDescriptor y_Fr_shown.desc).map (fun d => d.parameters.length) = some 1 := by decide +kernel
theorem g_Fr_shown : Cond.initialized y_Fr_shown.cls ∈ wG := wg_t 5 (by decide +kernel) (by decide +kernel)
theorem s_Fr_shown : Cond.instanceMethod y_Fr_shown ∈ wG := wg_t 428 (by decide +kernel) (by decide +kernel)
theorem e_Fr_shown : Cond.selects "FrameVerifier$Frame" y_Fr_shown y_Fr_shown ∈ wG := wg_t 429 (by decide +kernel) (by decide +kernel)
theorem d_Fr_shown_0 : decode b_Fr_shown 0 = .ok (.aload_n 0, 1) := by decide +kernel
theorem d_Fr_shown_1 : decode b_Fr_shown 1 = .ok (.getfield 20, 3) := by decide +kernel
theorem d_Fr_shown_4 : decode b_Fr_shown 4 = .ok (.iload_n 1, 1) := by decide +kernel
theorem d_Fr_shown_5 : decode b_Fr_shown 5 = .ok (.invokestatic 43, 3) := by decide +kernel
theorem d_Fr_shown_8 : decode b_Fr_shown 8 = .ok (.istore_n 2, 1) := by decide +kernel
theorem d_Fr_shown_9 : decode b_Fr_shown 9 = .ok (.iload_n 2, 1) := by decide +kernel
theorem d_Fr_shown_10 : decode b_Fr_shown 10 = .ok (.ifCond .ne (5), 3) := by decide +kernel
theorem d_Fr_shown_13 : decode b_Fr_shown 13 = .ok (.iconst (-1), 1) := by decide +kernel
theorem d_Fr_shown_14 : decode b_Fr_shown 14 = .ok (.ireturn, 1) := by decide +kernel
theorem d_Fr_shown_15 : decode b_Fr_shown 15 = .ok (.iload_n 2, 1) := by decide +kernel
theorem d_Fr_shown_16 : decode b_Fr_shown 16 = .ok (.iconst 2, 1) := by decide +kernel
theorem d_Fr_shown_17 : decode b_Fr_shown 17 = .ok (.if_icmp .ne (16), 3) := by decide +kernel
theorem d_Fr_shown_20 : decode b_Fr_shown 20 = .ok (.aload_n 0, 1) := by decide +kernel
theorem d_Fr_shown_21 : decode b_Fr_shown 21 = .ok (.getfield 23, 3) := by decide +kernel
theorem d_Fr_shown_24 : decode b_Fr_shown 24 = .ok (.iload_n 1, 1) := by decide +kernel
theorem d_Fr_shown_25 : decode b_Fr_shown 25 = .ok (.iaload, 1) := by decide +kernel
theorem d_Fr_shown_26 : decode b_Fr_shown 26 = .ok (.ifCond .eq (7), 3) := by decide +kernel
theorem d_Fr_shown_29 : decode b_Fr_shown 29 = .ok (.iconst 1, 1) := by decide +kernel
theorem d_Fr_shown_30 : decode b_Fr_shown 30 = .ok (.goto (9), 3) := by decide +kernel
theorem d_Fr_shown_33 : decode b_Fr_shown 33 = .ok (.aload_n 0, 1) := by decide +kernel
theorem d_Fr_shown_34 : decode b_Fr_shown 34 = .ok (.getfield 23, 3) := by decide +kernel
theorem d_Fr_shown_37 : decode b_Fr_shown 37 = .ok (.iload_n 1, 1) := by decide +kernel
theorem d_Fr_shown_38 : decode b_Fr_shown 38 = .ok (.iaload, 1) := by decide +kernel
theorem d_Fr_shown_39 : decode b_Fr_shown 39 = .ok (.ireturn, 1) := by decide +kernel
theorem wd_103 : (Jvm.Cond.fieldLink "FrameVerifier$Frame" (9 : Nat) "FrameVerifier$Frame" "owner" "I") ∈ wG := wg_t 103 (by decide +kernel) (by decide +kernel)
theorem wd_105 : (Jvm.Cond.fieldLink "FrameVerifier$Frame" (15 : Nat) "FrameVerifier$Frame" "address" "I") ∈ wG := wg_t 105 (by decide +kernel) (by decide +kernel)
theorem wd_108 : (Jvm.Cond.fieldLink "FrameVerifier$Frame" (20 : Nat) "FrameVerifier$Frame" "types" "I") ∈ wG := wg_t 108 (by decide +kernel) (by decide +kernel)
theorem wd_111 : (Jvm.Cond.fieldLink "FrameVerifier$Frame" (23 : Nat) "FrameVerifier$Frame" "values" "[I") ∈ wG := wg_t 111 (by decide +kernel) (by decide +kernel)
theorem k_Fr_27 {R : Room} {s : State} {args : Array Value} {Ts : List Cond} (hts : ∀ w ∈ Ts, w.before args s = true) (hsub : ∀ w ∈ wG, w ∈ Ts) (hR : rm_Ty_below.frames + 1 ≤ R.frames ∧ 8 + (2 + 11) + rm_Ty_below.locals ≤ R.locals) : CallB R s args "FrameVerifier$Frame" 27 y_Ty_below b_Ty_below 2 (some .int) w_Ty_below rm_Ty_below 0 0 2 ∧ (Cond.static y_Ty_below).before args s = true := ⟨cb_G hts hsub m_Ty_below g_Ty_below (wg_t 692 (by decide +kernel) (by decide +kernel) : Cond.methodLink "FrameVerifier$Frame" 27 y_Ty_below ∈ wG) q_Ty_below rfl rfl hR, hts _ (hsub _ s_Ty_below)⟩
theorem k_Fr_31 {R : Room} {s : State} {args : Array Value} {Ts : List Cond} (hts : ∀ w ∈ Ts, w.before args s = true) (hsub : ∀ w ∈ wG, w ∈ Ts) (hR : rm_Ty_slotBelow.frames + 1 ≤ R.frames ∧ 8 + (2 + 11) + rm_Ty_slotBelow.locals ≤ R.locals) : CallB R s args "FrameVerifier$Frame" 31 y_Ty_slotBelow b_Ty_slotBelow 2 (some .int) w_Ty_slotBelow rm_Ty_slotBelow 0 0 2 ∧ (Cond.static y_Ty_slotBelow).before args s = true := ⟨cb_G hts hsub m_Ty_slotBelow g_Ty_slotBelow (wg_t 545 (by decide +kernel) (by decide +kernel) : Cond.methodLink "FrameVerifier$Frame" 31 y_Ty_slotBelow ∈ wG) q_Ty_slotBelow rfl rfl hR, hts _ (hsub _ s_Ty_slotBelow)⟩
theorem k_Fr_34 {R : Room} {s : State} {args : Array Value} {Ts : List Cond} (hts : ∀ w ∈ Ts, w.before args s = true) (hsub : ∀ w ∈ wG, w ∈ Ts) (hR : rm_Ty_pushed.frames + 1 ≤ R.frames ∧ 8 + (2 + 11) + rm_Ty_pushed.locals ≤ R.locals) : CallB R s args "FrameVerifier$Frame" 34 y_Ty_pushed b_Ty_pushed 2 (some .int) w_Ty_pushed rm_Ty_pushed 0 0 2 ∧ (Cond.static y_Ty_pushed).before args s = true := ⟨cb_G hts hsub m_Ty_pushed g_Ty_pushed (wg_t 662 (by decide +kernel) (by decide +kernel) : Cond.methodLink "FrameVerifier$Frame" 34 y_Ty_pushed ∈ wG) q_Ty_pushed rfl rfl hR, hts _ (hsub _ s_Ty_pushed)⟩
theorem k_Fr_37 {R : Room} {s : State} {args : Array Value} {Ts : List Cond} (hts : ∀ w ∈ Ts, w.before args s = true) (hsub : ∀ w ∈ wG, w ∈ Ts) (hR : rm_Fr_below.frames + 1 ≤ R.frames ∧ 8 + (2 + 11) + rm_Fr_below.locals ≤ R.locals) : CallW R s args "FrameVerifier$Frame" "FrameVerifier$Frame" 37 y_Fr_below b_Fr_below 2 (some .int) w_Fr_below rm_Fr_below 0 0 1 := ⟨cb_G hts hsub m_Fr_below g_Fr_below (wg_t 646 (by decide +kernel) (by decide +kernel) : Cond.methodLink "FrameVerifier$Frame" 37 y_Fr_below ∈ wG) q_Fr_below rfl rfl hR, hts _ (hsub _ s_Fr_below), hts _ (hsub _ e_Fr_below)⟩
theorem k_Fr_40 {R : Room} {s : State} {args : Array Value} {Ts : List Cond} (hts : ∀ w ∈ Ts, w.before args s = true) (hsub : ∀ w ∈ wG, w ∈ Ts) (hR : rm_Ty_dropped.frames + 1 ≤ R.frames ∧ 8 + (4 + 11) + rm_Ty_dropped.locals ≤ R.locals) : CallB R s args "FrameVerifier$Frame" 40 y_Ty_dropped b_Ty_dropped 4 (some .int) w_Ty_dropped rm_Ty_dropped 0 0 2 ∧ (Cond.static y_Ty_dropped).before args s = true := ⟨cb_G hts hsub m_Ty_dropped g_Ty_dropped (wg_t 647 (by decide +kernel) (by decide +kernel) : Cond.methodLink "FrameVerifier$Frame" 40 y_Ty_dropped ∈ wG) q_Ty_dropped rfl rfl hR, hts _ (hsub _ s_Ty_dropped)⟩
theorem k_Fr_43 {R : Room} {s : State} {args : Array Value} {Ts : List Cond} (hts : ∀ w ∈ Ts, w.before args s = true) (hsub : ∀ w ∈ wG, w ∈ Ts) (hR : rm_Ty_at.frames + 1 ≤ R.frames ∧ 8 + (2 + 11) + rm_Ty_at.locals ≤ R.locals) : CallB R s args "FrameVerifier$Frame" 43 y_Ty_at b_Ty_at 2 (some .int) w_Ty_at rm_Ty_at 0 0 2 ∧ (Cond.static y_Ty_at).before args s = true := ⟨cb_G hts hsub m_Ty_at g_Ty_at (wg_t 431 (by decide +kernel) (by decide +kernel) : Cond.methodLink "FrameVerifier$Frame" 43 y_Ty_at ∈ wG) q_Ty_at rfl rfl hR, hts _ (hsub _ s_Ty_at)⟩
theorem k_Fr_46 {R : Room} {s : State} {args : Array Value} {Ts : List Cond} (hts : ∀ w ∈ Ts, w.before args s = true) (hsub : ∀ w ∈ wG, w ∈ Ts) (hR : rm_Fr_push.frames + 1 ≤ R.frames ∧ 8 + (3 + 11) + rm_Fr_push.locals ≤ R.locals) : CallW R s args "FrameVerifier$Frame" "FrameVerifier$Frame" 46 y_Fr_push b_Fr_push 3 none w_Fr_push rm_Fr_push 0 0 2 := ⟨cb_G hts hsub m_Fr_push g_Fr_push (wg_t 700 (by decide +kernel) (by decide +kernel) : Cond.methodLink "FrameVerifier$Frame" 46 y_Fr_push ∈ wG) q_Fr_push rfl rfl hR, hts _ (hsub _ s_Fr_push), hts _ (hsub _ e_Fr_push)⟩
theorem k_Fr_50 {R : Room} {s : State} {args : Array Value} {Ts : List Cond} (hts : ∀ w ∈ Ts, w.before args s = true) (hsub : ∀ w ∈ wG, w ∈ Ts) (hR : rm_Fr_typeBelow.frames + 1 ≤ R.frames ∧ 8 + (2 + 11) + rm_Fr_typeBelow.locals ≤ R.locals) : CallW R s args "FrameVerifier$Frame" "FrameVerifier$Frame" 50 y_Fr_typeBelow b_Fr_typeBelow 2 (some .int) w_Fr_typeBelow rm_Fr_typeBelow 0 0 1 := ⟨cb_G hts hsub m_Fr_typeBelow g_Fr_typeBelow (wg_t 705 (by decide +kernel) (by decide +kernel) : Cond.methodLink "FrameVerifier$Frame" 50 y_Fr_typeBelow ∈ wG) q_Fr_typeBelow rfl rfl hR, hts _ (hsub _ s_Fr_typeBelow), hts _ (hsub _ e_Fr_typeBelow)⟩
theorem k_Fr_53 {R : Room} {s : State} {args : Array Value} {Ts : List Cond} (hts : ∀ w ∈ Ts, w.before args s = true) (hsub : ∀ w ∈ wG, w ∈ Ts) (hR : rm_Fr_pop.frames + 1 ≤ R.frames ∧ 8 + (2 + 11) + rm_Fr_pop.locals ≤ R.locals) : CallW R s args "FrameVerifier$Frame" "FrameVerifier$Frame" 53 y_Fr_pop b_Fr_pop 2 (some .int) w_Fr_pop rm_Fr_pop 0 0 0 := ⟨cb_G hts hsub m_Fr_pop g_Fr_pop (wg_t 706 (by decide +kernel) (by decide +kernel) : Cond.methodLink "FrameVerifier$Frame" 53 y_Fr_pop ∈ wG) q_Fr_pop rfl rfl hR, hts _ (hsub _ s_Fr_pop), hts _ (hsub _ e_Fr_pop)⟩
theorem k_Fr_57 {R : Room} {s : State} {args : Array Value} {Ts : List Cond} (hts : ∀ w ∈ Ts, w.before args s = true) (hsub : ∀ w ∈ wG, w ∈ Ts) (hR : rm_Ty_with.frames + 1 ≤ R.frames ∧ 8 + (4 + 11) + rm_Ty_with.locals ≤ R.locals) : CallB R s args "FrameVerifier$Frame" 57 y_Ty_with b_Ty_with 4 (some .int) w_Ty_with rm_Ty_with 0 0 3 ∧ (Cond.static y_Ty_with).before args s = true := ⟨cb_G hts hsub m_Ty_with g_Ty_with (wg_t 707 (by decide +kernel) (by decide +kernel) : Cond.methodLink "FrameVerifier$Frame" 57 y_Ty_with ∈ wG) q_Ty_with rfl rfl hR, hts _ (hsub _ s_Ty_with)⟩
end
section
/-! contracts of 06.frames; written by wip/whole/make.py -/
def fn_Fr_open (σ : mm_M) (i : Nat) (a0 : Int32) (a1 : Int32) (a2 : Int32) : Option (mm_M) :=
    (nm (mw σ (19 + 2 * i) 0 a0) (fun σ1 =>
    (nm (mw σ1 (19 + 2 * i) 1 a1) (fun σ2 =>
    (nm (mw σ2 (19 + 2 * i) 2 a2) (fun σ3 =>
    (some σ3)))))))
set_option maxRecDepth 100000 in
set_option maxHeartbeats 40000000 in
theorem c_Fr_open (l : Launch) (D : va_G) (ca : Nat → ClassId) (ax : Nat → Nat → Nat) (b : Nat) (σ : mm_M) (i : Nat) (a0 : Int32) (a1 : Int32) (a2 : Int32) (hi : i < 8) {σ' : mm_M} (hf : fn_Fr_open σ i a0 a1 a2 = some σ') : Met l y_Fr_open w_Fr_open rm_Fr_open (pc_w D cls b N_C (ce_C ca b) (kC D ca ax b) [.ref (b + (19 + 2 * i)), .int a0, .int a1, .int a2] σ) (qc_v D cls b N_C (ce_C ca b) σ') 0 0 (mm_A b N_C) := by
  refine vv_go (cc := b_Fr_open) (maxL := 4) (ret := none) (fin := σ') (k := fn_Fr_open σ i a0 a1 a2) (by decide) rfl (by simp [Value.category]) (Nat.le_of_ble_eq_true rfl) hf ?_
  intro p e s m below meth c hlocks hret S hKK
  unfold fn_Fr_open
  refine v_aload_n S d_Fr_open_0 rfl rfl ?_
  refine v_iload_n S d_Fr_open_1 rfl rfl ?_
  refine v_puti S (fun w h => List.mem_cons_of_mem _ (i_Fr w h)) hKK.1 (19 + 2 * i) (fr_lt hi) (ce_fr hi) rfl 0 (by decide) (S.2.2.2.2 _ (List.mem_cons_of_mem _ (wd_103))) (fun _ h => h) t_Fr t_Fr_ok n_Fr rfl (ty := .int) rfl rfl rfl (Nat.le_of_ble_eq_true rfl) (ce_frP hi 0 (by decide)) d_Fr_open_2 ?_
  refine v_sg (fun σ1 eσ1 => ?_)
  refine v_aload_n S d_Fr_open_5 rfl rfl ?_
  refine v_iload_n S d_Fr_open_6 rfl rfl ?_
  refine v_puti S (fun w h => List.mem_cons_of_mem _ (i_Fr w h)) hKK.1 (19 + 2 * i) (fr_lt hi) (ce_fr hi) rfl 1 (by decide) (S.2.2.2.2 _ (List.mem_cons_of_mem _ (wd_105))) (fun _ h => h) t_Fr t_Fr_ok n_Fr rfl (ty := .int) rfl rfl rfl (Nat.le_of_ble_eq_true rfl) (ce_frP hi 1 (by decide)) d_Fr_open_7 ?_
  refine v_sg (fun σ2 eσ2 => ?_)
  refine v_aload_n S d_Fr_open_10 rfl rfl ?_
  refine v_iload_n S d_Fr_open_11 rfl rfl ?_
  refine v_puti S (fun w h => List.mem_cons_of_mem _ (i_Fr w h)) hKK.1 (19 + 2 * i) (fr_lt hi) (ce_fr hi) rfl 2 (by decide) (S.2.2.2.2 _ (List.mem_cons_of_mem _ (wd_108))) (fun _ h => h) t_Fr t_Fr_ok n_Fr rfl (ty := .int) rfl rfl rfl (Nat.le_of_ble_eq_true rfl) (ce_frP hi 2 (by decide)) d_Fr_open_12 ?_
  refine v_sg (fun σ3 eσ3 => ?_)
  exact v_vret S hret hlocks d_Fr_open_15
def fn_Fr_setParameter (σ : mm_M) (i : Nat) (a0 : Int32) (a1 : Int32) : Option (mm_M) :=
    (if (a0 < 0 ∨ 12 ≤ a0.toNatClampNeg) then none else (nm (mw σ (20 + 2 * i) a0.toNatClampNeg a1) (fun σ2 =>
    (some σ2))))
set_option maxRecDepth 100000 in
set_option maxHeartbeats 40000000 in
theorem c_Fr_setParameter (l : Launch) (D : va_G) (ca : Nat → ClassId) (ax : Nat → Nat → Nat) (b : Nat) (σ : mm_M) (i : Nat) (a0 : Int32) (a1 : Int32) (hi : i < 8) {σ' : mm_M} (hf : fn_Fr_setParameter σ i a0 a1 = some σ') : Met l y_Fr_setParameter w_Fr_setParameter rm_Fr_setParameter (pc_w D cls b N_C (ce_C ca b) (kC D ca ax b) [.ref (b + (19 + 2 * i)), .int a0, .int a1] σ) (qc_v D cls b N_C (ce_C ca b) σ') 0 0 (mm_A b N_C) := by
  refine vv_go (cc := b_Fr_setParameter) (maxL := 3) (ret := none) (fin := σ') (k := fn_Fr_setParameter σ i a0 a1) (by decide) rfl (by simp [Value.category]) (Nat.le_of_ble_eq_true rfl) hf ?_
  intro p e s m below meth c hlocks hret S hKK
  unfold fn_Fr_setParameter
  refine v_aload_n S d_Fr_setParameter_0 rfl rfl ?_
  refine v_get S (fun w h => List.mem_cons_of_mem _ (i_Fr w h)) hKK.1 (19 + 2 * i) (fr_lt hi) (ce_fr hi) rfl 3 (by decide) (S.2.2.2.2 _ (List.mem_cons_of_mem _ (wd_111))) (fun _ h => h) rfl d_Fr_setParameter_1 ?_
  refine v_iload_n S d_Fr_setParameter_4 rfl rfl ?_
  refine v_iload_n S d_Fr_setParameter_5 rfl rfl ?_
  refine v_iast1 S hKK.1 (20 + 2 * i) 0 (vl_lt hi) (ce_vlA hi) rfl d_Fr_setParameter_6 (fun h1 => ?_)
  refine v_sg (fun σ2 eσ2 => ?_)
  exact v_vret S hret hlocks d_Fr_setParameter_7
def fn_Fr_typeBelow (σ : mm_M) (i : Nat) (a0 : Int32) : Option (Int32 × mm_M) :=
    (bd (fn_Ty_below σ (σ (19 + 2 * i) 2) a0) (fun r2 σ1 =>
    (some (r2, σ1))))
set_option maxRecDepth 100000 in
set_option maxHeartbeats 40000000 in
theorem c_Fr_typeBelow (l : Launch) (D : va_G) (ca : Nat → ClassId) (ax : Nat → Nat → Nat) (b : Nat) (σ : mm_M) (i : Nat) (a0 : Int32) (hi : i < 8) {r : Int32} {σ' : mm_M} (hf : fn_Fr_typeBelow σ i a0 = some (r, σ')) : Met l y_Fr_typeBelow w_Fr_typeBelow rm_Fr_typeBelow (pc_w D cls b N_C (ce_C ca b) (kC D ca ax b) [.ref (b + (19 + 2 * i)), .int a0] σ) (qc_i D cls b N_C (ce_C ca b) r σ') 0 0 (mm_A b N_C) := by
  refine vv_go (cc := b_Fr_typeBelow) (maxL := 2) (ret := (some .int)) (fin := (r, σ')) (k := fn_Fr_typeBelow σ i a0) (by decide) rfl (by simp [Value.category]) (Nat.le_of_ble_eq_true rfl) hf ?_
  intro p e s m below meth c hlocks hret S hKK
  unfold fn_Fr_typeBelow
  refine v_aload_n S d_Fr_typeBelow_0 rfl rfl ?_
  refine v_get S (fun w h => List.mem_cons_of_mem _ (i_Fr w h)) hKK.1 (19 + 2 * i) (fr_lt hi) (ce_fr hi) rfl 2 (by decide) (S.2.2.2.2 _ (List.mem_cons_of_mem _ (wd_108))) (fun _ h => h) rfl d_Fr_typeBelow_1 ?_
  refine v_iload_n S d_Fr_typeBelow_4 rfl rfl ?_
  refine v_ci (rest := []) (fun _ _ hg H locs ls hsz hP hS => run_S (As := [.int (σ (19 + 2 * i) 2), .int a0]) (rest := []) S kC_ok hKK (c_Ty_below l D ca ax b σ (σ (19 + 2 * i) 2) a0 hg) (k_Fr_27 S.2.2.2.2 (fun _ => List.mem_cons_of_mem _) ⟨Nat.le_of_ble_eq_true rfl, Nat.le_of_ble_eq_true rfl⟩) rfl rfl (Nat.zero_le _) d_Fr_typeBelow_5 hsz hP hS) (fun r2 σ1 _ => ?_)
  exact v_iret S hret hlocks d_Fr_typeBelow_8
def fn_Fr_below (σ : mm_M) (i : Nat) (a0 : Int32) : Option (Int32 × mm_M) :=
    (bd (fn_Ty_slotBelow σ (σ (19 + 2 * i) 2) a0) (fun r2 σ1 =>
    (if (r2 < 0 ∨ 12 ≤ r2.toNatClampNeg) then none else
    (some ((σ1 (20 + 2 * i) r2.toNatClampNeg), σ1)))))
set_option maxRecDepth 100000 in
set_option maxHeartbeats 40000000 in
theorem c_Fr_below (l : Launch) (D : va_G) (ca : Nat → ClassId) (ax : Nat → Nat → Nat) (b : Nat) (σ : mm_M) (i : Nat) (a0 : Int32) (hi : i < 8) {r : Int32} {σ' : mm_M} (hf : fn_Fr_below σ i a0 = some (r, σ')) : Met l y_Fr_below w_Fr_below rm_Fr_below (pc_w D cls b N_C (ce_C ca b) (kC D ca ax b) [.ref (b + (19 + 2 * i)), .int a0] σ) (qc_i D cls b N_C (ce_C ca b) r σ') 0 0 (mm_A b N_C) := by
  refine vv_go (cc := b_Fr_below) (maxL := 2) (ret := (some .int)) (fin := (r, σ')) (k := fn_Fr_below σ i a0) (by decide) rfl (by simp [Value.category]) (Nat.le_of_ble_eq_true rfl) hf ?_
  intro p e s m below meth c hlocks hret S hKK
  unfold fn_Fr_below
  refine v_aload_n S d_Fr_below_0 rfl rfl ?_
  refine v_get S (fun w h => List.mem_cons_of_mem _ (i_Fr w h)) hKK.1 (19 + 2 * i) (fr_lt hi) (ce_fr hi) rfl 3 (by decide) (S.2.2.2.2 _ (List.mem_cons_of_mem _ (wd_111))) (fun _ h => h) rfl d_Fr_below_1 ?_
  refine v_aload_n S d_Fr_below_4 rfl rfl ?_
  refine v_get S (fun w h => List.mem_cons_of_mem _ (i_Fr w h)) hKK.1 (19 + 2 * i) (fr_lt hi) (ce_fr hi) rfl 2 (by decide) (S.2.2.2.2 _ (List.mem_cons_of_mem _ (wd_108))) (fun _ h => h) rfl d_Fr_below_5 ?_
  refine v_iload_n S d_Fr_below_8 rfl rfl ?_
  refine v_ci (rest := [.ref (b + (20 + 2 * i))]) (fun _ _ hg H locs ls hsz hP hS => run_S (As := [.int (σ (19 + 2 * i) 2), .int a0]) (rest := [.ref (b + (20 + 2 * i))]) S kC_ok hKK (c_Ty_slotBelow l D ca ax b σ (σ (19 + 2 * i) 2) a0 hg) (k_Fr_31 S.2.2.2.2 (fun _ => List.mem_cons_of_mem _) ⟨Nat.le_of_ble_eq_true rfl, Nat.le_of_ble_eq_true rfl⟩) rfl rfl (by simp [Value.category]) d_Fr_below_9 hsz hP hS) (fun r2 σ1 _ => ?_)
  refine v_iald S hKK.1 (20 + 2 * i) 0 (vl_lt hi) (ce_vl hi) rfl d_Fr_below_12 (fun h3 => ?_)
  exact v_iret S hret hlocks d_Fr_below_13
def fn_Fr_push (σ : mm_M) (i : Nat) (a0 : Int32) (a1 : Int32) : Option (mm_M) :=
    (bd (fn_Ty_pushed σ (σ (19 + 2 * i) 2) a0) (fun r2 σ1 =>
    (nm (mw σ1 (19 + 2 * i) 2 r2) (fun σ3 =>
    (bd (fn_Ty_slotBelow σ3 (σ3 (19 + 2 * i) 2) (0 : Int32)) (fun r5 σ4 =>
    (if (r5 < 0 ∨ 12 ≤ r5.toNatClampNeg) then none else (nm (mw σ4 (20 + 2 * i) r5.toNatClampNeg a1) (fun σ7 =>
    (some σ7))))))))))
set_option maxRecDepth 100000 in
set_option maxHeartbeats 40000000 in
theorem c_Fr_push (l : Launch) (D : va_G) (ca : Nat → ClassId) (ax : Nat → Nat → Nat) (b : Nat) (σ : mm_M) (i : Nat) (a0 : Int32) (a1 : Int32) (hi : i < 8) {σ' : mm_M} (hf : fn_Fr_push σ i a0 a1 = some σ') : Met l y_Fr_push w_Fr_push rm_Fr_push (pc_w D cls b N_C (ce_C ca b) (kC D ca ax b) [.ref (b + (19 + 2 * i)), .int a0, .int a1] σ) (qc_v D cls b N_C (ce_C ca b) σ') 0 0 (mm_A b N_C) := by
  refine vv_go (cc := b_Fr_push) (maxL := 3) (ret := none) (fin := σ') (k := fn_Fr_push σ i a0 a1) (by decide) rfl (by simp [Value.category]) (Nat.le_of_ble_eq_true rfl) hf ?_
  intro p e s m below meth c hlocks hret S hKK
  unfold fn_Fr_push
  refine v_aload_n S d_Fr_push_0 rfl rfl ?_
  refine v_aload_n S d_Fr_push_1 rfl rfl ?_
  refine v_get S (fun w h => List.mem_cons_of_mem _ (i_Fr w h)) hKK.1 (19 + 2 * i) (fr_lt hi) (ce_fr hi) rfl 2 (by decide) (S.2.2.2.2 _ (List.mem_cons_of_mem _ (wd_108))) (fun _ h => h) rfl d_Fr_push_2 ?_
  refine v_iload_n S d_Fr_push_5 rfl rfl ?_
  refine v_ci (rest := [.ref (b + (19 + 2 * i))]) (fun _ _ hg H locs ls hsz hP hS => run_S (As := [.int (σ (19 + 2 * i) 2), .int a0]) (rest := [.ref (b + (19 + 2 * i))]) S kC_ok hKK (c_Ty_pushed l D ca ax b σ (σ (19 + 2 * i) 2) a0 hg) (k_Fr_34 S.2.2.2.2 (fun _ => List.mem_cons_of_mem _) ⟨Nat.le_of_ble_eq_true rfl, Nat.le_of_ble_eq_true rfl⟩) rfl rfl (by simp [Value.category]) d_Fr_push_6 hsz hP hS) (fun r2 σ1 _ => ?_)
  refine v_puti S (fun w h => List.mem_cons_of_mem _ (i_Fr w h)) hKK.1 (19 + 2 * i) (fr_lt hi) (ce_fr hi) rfl 2 (by decide) (S.2.2.2.2 _ (List.mem_cons_of_mem _ (wd_108))) (fun _ h => h) t_Fr t_Fr_ok n_Fr rfl (ty := .int) rfl rfl rfl (Nat.le_of_ble_eq_true rfl) (ce_frP hi 2 (by decide)) d_Fr_push_9 ?_
  refine v_sg (fun σ3 eσ3 => ?_)
  refine v_aload_n S d_Fr_push_12 rfl rfl ?_
  refine v_get S (fun w h => List.mem_cons_of_mem _ (i_Fr w h)) hKK.1 (19 + 2 * i) (fr_lt hi) (ce_fr hi) rfl 3 (by decide) (S.2.2.2.2 _ (List.mem_cons_of_mem _ (wd_111))) (fun _ h => h) rfl d_Fr_push_13 ?_
  refine v_aload_n S d_Fr_push_16 rfl rfl ?_
  refine v_get S (fun w h => List.mem_cons_of_mem _ (i_Fr w h)) hKK.1 (19 + 2 * i) (fr_lt hi) (ce_fr hi) rfl 2 (by decide) (S.2.2.2.2 _ (List.mem_cons_of_mem _ (wd_108))) (fun _ h => h) rfl d_Fr_push_17 ?_
  refine v_iconst S d_Fr_push_20 (v := (0 : Int32)) (by decide) ?_
  refine v_ci (rest := [.ref (b + (20 + 2 * i))]) (fun _ _ hg H locs ls hsz hP hS => run_S (As := [.int (σ3 (19 + 2 * i) 2), .int (0 : Int32)]) (rest := [.ref (b + (20 + 2 * i))]) S kC_ok hKK (c_Ty_slotBelow l D ca ax b σ3 (σ3 (19 + 2 * i) 2) (0 : Int32) hg) (k_Fr_31 S.2.2.2.2 (fun _ => List.mem_cons_of_mem _) ⟨Nat.le_of_ble_eq_true rfl, Nat.le_of_ble_eq_true rfl⟩) rfl rfl (by simp [Value.category]) d_Fr_push_21 hsz hP hS) (fun r5 σ4 _ => ?_)
  refine v_iload_n S d_Fr_push_24 rfl rfl ?_
  refine v_iast1 S hKK.1 (20 + 2 * i) 0 (vl_lt hi) (ce_vlA hi) rfl d_Fr_push_25 (fun h6 => ?_)
  refine v_sg (fun σ7 eσ7 => ?_)
  exact v_vret S hret hlocks d_Fr_push_26
def fn_Fr_pop (σ : mm_M) (i : Nat) : Option (Int32 × mm_M) :=
    (bd (fn_Fr_below σ i (0 : Int32)) (fun r2 σ1 =>
    (bd (fn_Ty_dropped σ1 (σ1 (19 + 2 * i) 2) (1 : Int32)) (fun r4 σ3 =>
    (nm (mw σ3 (19 + 2 * i) 2 r4) (fun σ5 =>
    (some (r2, σ5))))))))
set_option maxRecDepth 100000 in
set_option maxHeartbeats 40000000 in
theorem c_Fr_pop (l : Launch) (D : va_G) (ca : Nat → ClassId) (ax : Nat → Nat → Nat) (b : Nat) (σ : mm_M) (i : Nat) (hi : i < 8) {r : Int32} {σ' : mm_M} (hf : fn_Fr_pop σ i = some (r, σ')) : Met l y_Fr_pop w_Fr_pop rm_Fr_pop (pc_w D cls b N_C (ce_C ca b) (kC D ca ax b) [.ref (b + (19 + 2 * i))] σ) (qc_i D cls b N_C (ce_C ca b) r σ') 0 0 (mm_A b N_C) := by
  refine vv_go (cc := b_Fr_pop) (maxL := 2) (ret := (some .int)) (fin := (r, σ')) (k := fn_Fr_pop σ i) (by decide) rfl (by simp [Value.category]) (Nat.le_of_ble_eq_true rfl) hf ?_
  intro p e s m below meth c hlocks hret S hKK
  unfold fn_Fr_pop
  refine v_aload_n S d_Fr_pop_0 rfl rfl ?_
  refine v_iconst S d_Fr_pop_1 (v := (0 : Int32)) (by decide) ?_
  refine v_ci (rest := []) (fun _ _ hg H locs ls hsz hP hS => run_V (As := [.int (0 : Int32)]) (rest := []) S kC_ok hKK (c_Fr_below l D ca ax b σ i (0 : Int32) hi hg) (k_Fr_37 S.2.2.2.2 (fun _ => List.mem_cons_of_mem _) ⟨Nat.le_of_ble_eq_true rfl, Nat.le_of_ble_eq_true rfl⟩) (rc_w hKK.1 hP (19 + 2 * i) (fr_lt hi) (ce_fr hi) rfl) rfl rfl (Nat.zero_le _) d_Fr_pop_2 hsz hP hS) (fun r2 σ1 _ => ?_)
  refine v_istore_nP S d_Fr_pop_5 rfl (by decide) (L2 := [some (.ref (b + (19 + 2 * i))), some (.int r2)]) rfl ?_
  refine v_aload_n S d_Fr_pop_6 rfl rfl ?_
  refine v_aload_n S d_Fr_pop_7 rfl rfl ?_
  refine v_get S (fun w h => List.mem_cons_of_mem _ (i_Fr w h)) hKK.1 (19 + 2 * i) (fr_lt hi) (ce_fr hi) rfl 2 (by decide) (S.2.2.2.2 _ (List.mem_cons_of_mem _ (wd_108))) (fun _ h => h) rfl d_Fr_pop_8 ?_
  refine v_iconst S d_Fr_pop_11 (v := (1 : Int32)) (by decide) ?_
  refine v_ci (rest := [.ref (b + (19 + 2 * i))]) (fun _ _ hg H locs ls hsz hP hS => run_S (As := [.int (σ1 (19 + 2 * i) 2), .int (1 : Int32)]) (rest := [.ref (b + (19 + 2 * i))]) S kC_ok hKK (c_Ty_dropped l D ca ax b σ1 (σ1 (19 + 2 * i) 2) (1 : Int32) hg) (k_Fr_40 S.2.2.2.2 (fun _ => List.mem_cons_of_mem _) ⟨Nat.le_of_ble_eq_true rfl, Nat.le_of_ble_eq_true rfl⟩) rfl rfl (by simp [Value.category]) d_Fr_pop_12 hsz hP hS) (fun r4 σ3 _ => ?_)
  refine v_puti S (fun w h => List.mem_cons_of_mem _ (i_Fr w h)) hKK.1 (19 + 2 * i) (fr_lt hi) (ce_fr hi) rfl 2 (by decide) (S.2.2.2.2 _ (List.mem_cons_of_mem _ (wd_108))) (fun _ h => h) t_Fr t_Fr_ok n_Fr rfl (ty := .int) rfl rfl rfl (Nat.le_of_ble_eq_true rfl) (ce_frP hi 2 (by decide)) d_Fr_pop_15 ?_
  refine v_sg (fun σ5 eσ5 => ?_)
  refine v_iload_n S d_Fr_pop_18 rfl rfl ?_
  exact v_iret S hret hlocks d_Fr_pop_19
def fn_Fr_load (σ : mm_M) (i : Nat) (a0 : Int32) : Option (mm_M) :=
    (bd (fn_Ty_at σ (σ (19 + 2 * i) 2) a0) (fun r2 σ1 =>
    (if (a0 < 0 ∨ 12 ≤ a0.toNatClampNeg) then none else
    (bv (fn_Fr_push σ1 i r2 (σ1 (20 + 2 * i) a0.toNatClampNeg)) (fun σ4 =>
    (some σ4))))))
set_option maxRecDepth 100000 in
set_option maxHeartbeats 40000000 in
theorem c_Fr_load (l : Launch) (D : va_G) (ca : Nat → ClassId) (ax : Nat → Nat → Nat) (b : Nat) (σ : mm_M) (i : Nat) (a0 : Int32) (hi : i < 8) {σ' : mm_M} (hf : fn_Fr_load σ i a0 = some σ') : Met l y_Fr_load w_Fr_load rm_Fr_load (pc_w D cls b N_C (ce_C ca b) (kC D ca ax b) [.ref (b + (19 + 2 * i)), .int a0] σ) (qc_v D cls b N_C (ce_C ca b) σ') 0 0 (mm_A b N_C) := by
  refine vv_go (cc := b_Fr_load) (maxL := 2) (ret := none) (fin := σ') (k := fn_Fr_load σ i a0) (by decide) rfl (by simp [Value.category]) (Nat.le_of_ble_eq_true rfl) hf ?_
  intro p e s m below meth c hlocks hret S hKK
  unfold fn_Fr_load
  refine v_aload_n S d_Fr_load_0 rfl rfl ?_
  refine v_aload_n S d_Fr_load_1 rfl rfl ?_
  refine v_get S (fun w h => List.mem_cons_of_mem _ (i_Fr w h)) hKK.1 (19 + 2 * i) (fr_lt hi) (ce_fr hi) rfl 2 (by decide) (S.2.2.2.2 _ (List.mem_cons_of_mem _ (wd_108))) (fun _ h => h) rfl d_Fr_load_2 ?_
  refine v_iload_n S d_Fr_load_5 rfl rfl ?_
  refine v_ci (rest := [.ref (b + (19 + 2 * i))]) (fun _ _ hg H locs ls hsz hP hS => run_S (As := [.int (σ (19 + 2 * i) 2), .int a0]) (rest := [.ref (b + (19 + 2 * i))]) S kC_ok hKK (c_Ty_at l D ca ax b σ (σ (19 + 2 * i) 2) a0 hg) (k_Fr_43 S.2.2.2.2 (fun _ => List.mem_cons_of_mem _) ⟨Nat.le_of_ble_eq_true rfl, Nat.le_of_ble_eq_true rfl⟩) rfl rfl (by simp [Value.category]) d_Fr_load_6 hsz hP hS) (fun r2 σ1 _ => ?_)
  refine v_aload_n S d_Fr_load_9 rfl rfl ?_
  refine v_get S (fun w h => List.mem_cons_of_mem _ (i_Fr w h)) hKK.1 (19 + 2 * i) (fr_lt hi) (ce_fr hi) rfl 3 (by decide) (S.2.2.2.2 _ (List.mem_cons_of_mem _ (wd_111))) (fun _ h => h) rfl d_Fr_load_10 ?_
  refine v_iload_n S d_Fr_load_13 rfl rfl ?_
  refine v_iald S hKK.1 (20 + 2 * i) 0 (vl_lt hi) (ce_vl hi) rfl d_Fr_load_14 (fun h3 => ?_)
  refine v_cv (rest := []) (fun _ hg H locs ls hsz hP hS => run_V (As := [.int r2, .int (σ1 (20 + 2 * i) a0.toNatClampNeg)]) (rest := []) S kC_ok hKK (c_Fr_push l D ca ax b σ1 i r2 (σ1 (20 + 2 * i) a0.toNatClampNeg) hi hg) (k_Fr_46 S.2.2.2.2 (fun _ => List.mem_cons_of_mem _) ⟨Nat.le_of_ble_eq_true rfl, Nat.le_of_ble_eq_true rfl⟩) (rc_w hKK.1 hP (19 + 2 * i) (fr_lt hi) (ce_fr hi) rfl) rfl rfl (Nat.zero_le _) d_Fr_load_15 hsz hP hS) (fun σ4 _ => ?_)
  exact v_vret S hret hlocks d_Fr_load_18
def fn_Fr_store (σ : mm_M) (i : Nat) (a0 : Int32) : Option (mm_M) :=
    (bd (fn_Fr_typeBelow σ i (0 : Int32)) (fun r2 σ1 =>
    (bd (fn_Fr_pop σ1 i) (fun r4 σ3 =>
    (if (a0 < 0 ∨ 12 ≤ a0.toNatClampNeg) then none else (nm (mw σ3 (20 + 2 * i) a0.toNatClampNeg r4) (fun σ6 =>
    (bd (fn_Ty_with σ6 (σ6 (19 + 2 * i) 2) a0 r2) (fun r8 σ7 =>
    (nm (mw σ7 (19 + 2 * i) 2 r8) (fun σ9 =>
    (some σ9))))))))))))
set_option maxRecDepth 100000 in
set_option maxHeartbeats 40000000 in
theorem c_Fr_store (l : Launch) (D : va_G) (ca : Nat → ClassId) (ax : Nat → Nat → Nat) (b : Nat) (σ : mm_M) (i : Nat) (a0 : Int32) (hi : i < 8) {σ' : mm_M} (hf : fn_Fr_store σ i a0 = some σ') : Met l y_Fr_store w_Fr_store rm_Fr_store (pc_w D cls b N_C (ce_C ca b) (kC D ca ax b) [.ref (b + (19 + 2 * i)), .int a0] σ) (qc_v D cls b N_C (ce_C ca b) σ') 0 0 (mm_A b N_C) := by
  refine vv_go (cc := b_Fr_store) (maxL := 3) (ret := none) (fin := σ') (k := fn_Fr_store σ i a0) (by decide) rfl (by simp [Value.category]) (Nat.le_of_ble_eq_true rfl) hf ?_
  intro p e s m below meth c hlocks hret S hKK
  unfold fn_Fr_store
  refine v_aload_n S d_Fr_store_0 rfl rfl ?_
  refine v_iconst S d_Fr_store_1 (v := (0 : Int32)) (by decide) ?_
  refine v_ci (rest := []) (fun _ _ hg H locs ls hsz hP hS => run_V (As := [.int (0 : Int32)]) (rest := []) S kC_ok hKK (c_Fr_typeBelow l D ca ax b σ i (0 : Int32) hi hg) (k_Fr_50 S.2.2.2.2 (fun _ => List.mem_cons_of_mem _) ⟨Nat.le_of_ble_eq_true rfl, Nat.le_of_ble_eq_true rfl⟩) (rc_w hKK.1 hP (19 + 2 * i) (fr_lt hi) (ce_fr hi) rfl) rfl rfl (Nat.zero_le _) d_Fr_store_2 hsz hP hS) (fun r2 σ1 _ => ?_)
  refine v_istore_nP S d_Fr_store_5 rfl (by decide) (L2 := [some (.ref (b + (19 + 2 * i))), some (.int a0), some (.int r2)]) rfl ?_
  refine v_aload_n S d_Fr_store_6 rfl rfl ?_
  refine v_get S (fun w h => List.mem_cons_of_mem _ (i_Fr w h)) hKK.1 (19 + 2 * i) (fr_lt hi) (ce_fr hi) rfl 3 (by decide) (S.2.2.2.2 _ (List.mem_cons_of_mem _ (wd_111))) (fun _ h => h) rfl d_Fr_store_7 ?_
  refine v_iload_n S d_Fr_store_10 rfl rfl ?_
  refine v_aload_n S d_Fr_store_11 rfl rfl ?_
  refine v_ci (rest := [.int a0, .ref (b + (20 + 2 * i))]) (fun _ _ hg H locs ls hsz hP hS => run_V (As := []) (rest := [.int a0, .ref (b + (20 + 2 * i))]) S kC_ok hKK (c_Fr_pop l D ca ax b σ1 i hi hg) (k_Fr_53 S.2.2.2.2 (fun _ => List.mem_cons_of_mem _) ⟨Nat.le_of_ble_eq_true rfl, Nat.le_of_ble_eq_true rfl⟩) (rc_w hKK.1 hP (19 + 2 * i) (fr_lt hi) (ce_fr hi) rfl) rfl rfl (by simp [Value.category]) d_Fr_store_12 hsz hP hS) (fun r4 σ3 _ => ?_)
  refine v_iast1 S hKK.1 (20 + 2 * i) 0 (vl_lt hi) (ce_vlA hi) rfl d_Fr_store_15 (fun h5 => ?_)
  refine v_sg (fun σ6 eσ6 => ?_)
  refine v_aload_n S d_Fr_store_16 rfl rfl ?_
  refine v_aload_n S d_Fr_store_17 rfl rfl ?_
  refine v_get S (fun w h => List.mem_cons_of_mem _ (i_Fr w h)) hKK.1 (19 + 2 * i) (fr_lt hi) (ce_fr hi) rfl 2 (by decide) (S.2.2.2.2 _ (List.mem_cons_of_mem _ (wd_108))) (fun _ h => h) rfl d_Fr_store_18 ?_
  refine v_iload_n S d_Fr_store_21 rfl rfl ?_
  refine v_iload_n S d_Fr_store_22 rfl rfl ?_
  refine v_ci (rest := [.ref (b + (19 + 2 * i))]) (fun _ _ hg H locs ls hsz hP hS => run_S (As := [.int (σ6 (19 + 2 * i) 2), .int a0, .int r2]) (rest := [.ref (b + (19 + 2 * i))]) S kC_ok hKK (c_Ty_with l D ca ax b σ6 (σ6 (19 + 2 * i) 2) a0 r2 hg) (k_Fr_57 S.2.2.2.2 (fun _ => List.mem_cons_of_mem _) ⟨Nat.le_of_ble_eq_true rfl, Nat.le_of_ble_eq_true rfl⟩) rfl rfl (by simp [Value.category]) d_Fr_store_23 hsz hP hS) (fun r8 σ7 _ => ?_)
  refine v_puti S (fun w h => List.mem_cons_of_mem _ (i_Fr w h)) hKK.1 (19 + 2 * i) (fr_lt hi) (ce_fr hi) rfl 2 (by decide) (S.2.2.2.2 _ (List.mem_cons_of_mem _ (wd_108))) (fun _ h => h) t_Fr t_Fr_ok n_Fr rfl (ty := .int) rfl rfl rfl (Nat.le_of_ble_eq_true rfl) (ce_frP hi 2 (by decide)) d_Fr_store_26 ?_
  refine v_sg (fun σ9 eσ9 => ?_)
  exact v_vret S hret hlocks d_Fr_store_29
def fn_Fr_exchange (σ : mm_M) (i : Nat) : Option (mm_M) :=
    (bd (fn_Fr_typeBelow σ i (0 : Int32)) (fun r2 σ1 =>
    (bd (fn_Fr_pop σ1 i) (fun r4 σ3 =>
    (bd (fn_Fr_typeBelow σ3 i (0 : Int32)) (fun r6 σ5 =>
    (bd (fn_Fr_pop σ5 i) (fun r8 σ7 =>
    (bv (fn_Fr_push σ7 i r2 r4) (fun σ9 =>
    (bv (fn_Fr_push σ9 i r6 r8) (fun σ10 =>
    (some σ10)))))))))))))
set_option maxRecDepth 100000 in
set_option maxHeartbeats 40000000 in
theorem c_Fr_exchange (l : Launch) (D : va_G) (ca : Nat → ClassId) (ax : Nat → Nat → Nat) (b : Nat) (σ : mm_M) (i : Nat) (hi : i < 8) {σ' : mm_M} (hf : fn_Fr_exchange σ i = some σ') : Met l y_Fr_exchange w_Fr_exchange rm_Fr_exchange (pc_w D cls b N_C (ce_C ca b) (kC D ca ax b) [.ref (b + (19 + 2 * i))] σ) (qc_v D cls b N_C (ce_C ca b) σ') 0 0 (mm_A b N_C) := by
  refine vv_go (cc := b_Fr_exchange) (maxL := 5) (ret := none) (fin := σ') (k := fn_Fr_exchange σ i) (by decide) rfl (by simp [Value.category]) (Nat.le_of_ble_eq_true rfl) hf ?_
  intro p e s m below meth c hlocks hret S hKK
  unfold fn_Fr_exchange
  refine v_aload_n S d_Fr_exchange_0 rfl rfl ?_
  refine v_iconst S d_Fr_exchange_1 (v := (0 : Int32)) (by decide) ?_
  refine v_ci (rest := []) (fun _ _ hg H locs ls hsz hP hS => run_V (As := [.int (0 : Int32)]) (rest := []) S kC_ok hKK (c_Fr_typeBelow l D ca ax b σ i (0 : Int32) hi hg) (k_Fr_50 S.2.2.2.2 (fun _ => List.mem_cons_of_mem _) ⟨Nat.le_of_ble_eq_true rfl, Nat.le_of_ble_eq_true rfl⟩) (rc_w hKK.1 hP (19 + 2 * i) (fr_lt hi) (ce_fr hi) rfl) rfl rfl (Nat.zero_le _) d_Fr_exchange_2 hsz hP hS) (fun r2 σ1 _ => ?_)
  refine v_istore_nP S d_Fr_exchange_5 rfl (by decide) (L2 := [some (.ref (b + (19 + 2 * i))), some (.int r2)]) rfl ?_
  refine v_aload_n S d_Fr_exchange_6 rfl rfl ?_
  refine v_ci (rest := []) (fun _ _ hg H locs ls hsz hP hS => run_V (As := []) (rest := []) S kC_ok hKK (c_Fr_pop l D ca ax b σ1 i hi hg) (k_Fr_53 S.2.2.2.2 (fun _ => List.mem_cons_of_mem _) ⟨Nat.le_of_ble_eq_true rfl, Nat.le_of_ble_eq_true rfl⟩) (rc_w hKK.1 hP (19 + 2 * i) (fr_lt hi) (ce_fr hi) rfl) rfl rfl (Nat.zero_le _) d_Fr_exchange_7 hsz hP hS) (fun r4 σ3 _ => ?_)
  refine v_istore_nP S d_Fr_exchange_10 rfl (by decide) (L2 := [some (.ref (b + (19 + 2 * i))), some (.int r2), some (.int r4)]) rfl ?_
  refine v_aload_n S d_Fr_exchange_11 rfl rfl ?_
  refine v_iconst S d_Fr_exchange_12 (v := (0 : Int32)) (by decide) ?_
  refine v_ci (rest := []) (fun _ _ hg H locs ls hsz hP hS => run_V (As := [.int (0 : Int32)]) (rest := []) S kC_ok hKK (c_Fr_typeBelow l D ca ax b σ3 i (0 : Int32) hi hg) (k_Fr_50 S.2.2.2.2 (fun _ => List.mem_cons_of_mem _) ⟨Nat.le_of_ble_eq_true rfl, Nat.le_of_ble_eq_true rfl⟩) (rc_w hKK.1 hP (19 + 2 * i) (fr_lt hi) (ce_fr hi) rfl) rfl rfl (Nat.zero_le _) d_Fr_exchange_13 hsz hP hS) (fun r6 σ5 _ => ?_)
  refine v_istore_nP S d_Fr_exchange_16 rfl (by decide) (L2 := [some (.ref (b + (19 + 2 * i))), some (.int r2), some (.int r4), some (.int r6)]) rfl ?_
  refine v_aload_n S d_Fr_exchange_17 rfl rfl ?_
  refine v_ci (rest := []) (fun _ _ hg H locs ls hsz hP hS => run_V (As := []) (rest := []) S kC_ok hKK (c_Fr_pop l D ca ax b σ5 i hi hg) (k_Fr_53 S.2.2.2.2 (fun _ => List.mem_cons_of_mem _) ⟨Nat.le_of_ble_eq_true rfl, Nat.le_of_ble_eq_true rfl⟩) (rc_w hKK.1 hP (19 + 2 * i) (fr_lt hi) (ce_fr hi) rfl) rfl rfl (Nat.zero_le _) d_Fr_exchange_18 hsz hP hS) (fun r8 σ7 _ => ?_)
  refine v_istoreP S d_Fr_exchange_21 (by decide) (L2 := [some (.ref (b + (19 + 2 * i))), some (.int r2), some (.int r4), some (.int r6), some (.int r8)]) rfl ?_
  refine v_aload_n S d_Fr_exchange_23 rfl rfl ?_
  refine v_iload_n S d_Fr_exchange_24 rfl rfl ?_
  refine v_iload_n S d_Fr_exchange_25 rfl rfl ?_
  refine v_cv (rest := []) (fun _ hg H locs ls hsz hP hS => run_V (As := [.int r2, .int r4]) (rest := []) S kC_ok hKK (c_Fr_push l D ca ax b σ7 i r2 r4 hi hg) (k_Fr_46 S.2.2.2.2 (fun _ => List.mem_cons_of_mem _) ⟨Nat.le_of_ble_eq_true rfl, Nat.le_of_ble_eq_true rfl⟩) (rc_w hKK.1 hP (19 + 2 * i) (fr_lt hi) (ce_fr hi) rfl) rfl rfl (Nat.zero_le _) d_Fr_exchange_26 hsz hP hS) (fun σ9 _ => ?_)
  refine v_aload_n S d_Fr_exchange_29 rfl rfl ?_
  refine v_iload_n S d_Fr_exchange_30 rfl rfl ?_
  refine v_iload S d_Fr_exchange_31 rfl ?_
  refine v_cv (rest := []) (fun _ hg H locs ls hsz hP hS => run_V (As := [.int r6, .int r8]) (rest := []) S kC_ok hKK (c_Fr_push l D ca ax b σ9 i r6 r8 hi hg) (k_Fr_46 S.2.2.2.2 (fun _ => List.mem_cons_of_mem _) ⟨Nat.le_of_ble_eq_true rfl, Nat.le_of_ble_eq_true rfl⟩) (rc_w hKK.1 hP (19 + 2 * i) (fr_lt hi) (ce_fr hi) rfl) rfl rfl (Nat.zero_le _) d_Fr_exchange_33 hsz hP hS) (fun σ10 _ => ?_)
  exact v_vret S hret hlocks d_Fr_exchange_36
def fn_Fr_shown (σ : mm_M) (i : Nat) (a0 : Int32) : Option (Int32 × mm_M) :=
    (bd (fn_Ty_at σ (σ (19 + 2 * i) 2) a0) (fun r2 σ1 =>
    (if r2 = 0 then
    (some ((-1 : Int32), σ1))
    else
    (if r2 = (2 : Int32) then
    (if (a0 < 0 ∨ 12 ≤ a0.toNatClampNeg) then none else
    (if (σ1 (20 + 2 * i) a0.toNatClampNeg) = 0 then
    (if (a0 < 0 ∨ 12 ≤ a0.toNatClampNeg) then none else
    (some ((σ1 (20 + 2 * i) a0.toNatClampNeg), σ1)))
    else
    (some ((1 : Int32), σ1))))
    else
    (if (a0 < 0 ∨ 12 ≤ a0.toNatClampNeg) then none else
    (some ((σ1 (20 + 2 * i) a0.toNatClampNeg), σ1)))))))
set_option maxRecDepth 100000 in
set_option maxHeartbeats 40000000 in
theorem c_Fr_shown (l : Launch) (D : va_G) (ca : Nat → ClassId) (ax : Nat → Nat → Nat) (b : Nat) (σ : mm_M) (i : Nat) (a0 : Int32) (hi : i < 8) {r : Int32} {σ' : mm_M} (hf : fn_Fr_shown σ i a0 = some (r, σ')) : Met l y_Fr_shown w_Fr_shown rm_Fr_shown (pc_w D cls b N_C (ce_C ca b) (kC D ca ax b) [.ref (b + (19 + 2 * i)), .int a0] σ) (qc_i D cls b N_C (ce_C ca b) r σ') 0 0 (mm_A b N_C) := by
  refine vv_go (cc := b_Fr_shown) (maxL := 3) (ret := (some .int)) (fin := (r, σ')) (k := fn_Fr_shown σ i a0) (by decide) rfl (by simp [Value.category]) (Nat.le_of_ble_eq_true rfl) hf ?_
  intro p e s m below meth c hlocks hret S hKK
  unfold fn_Fr_shown
  refine v_aload_n S d_Fr_shown_0 rfl rfl ?_
  refine v_get S (fun w h => List.mem_cons_of_mem _ (i_Fr w h)) hKK.1 (19 + 2 * i) (fr_lt hi) (ce_fr hi) rfl 2 (by decide) (S.2.2.2.2 _ (List.mem_cons_of_mem _ (wd_108))) (fun _ h => h) rfl d_Fr_shown_1 ?_
  refine v_iload_n S d_Fr_shown_4 rfl rfl ?_
  refine v_ci (rest := []) (fun _ _ hg H locs ls hsz hP hS => run_S (As := [.int (σ (19 + 2 * i) 2), .int a0]) (rest := []) S kC_ok hKK (c_Ty_at l D ca ax b σ (σ (19 + 2 * i) 2) a0 hg) (k_Fr_43 S.2.2.2.2 (fun _ => List.mem_cons_of_mem _) ⟨Nat.le_of_ble_eq_true rfl, Nat.le_of_ble_eq_true rfl⟩) rfl rfl (Nat.zero_le _) d_Fr_shown_5 hsz hP hS) (fun r2 σ1 _ => ?_)
  refine v_istore_nP S d_Fr_shown_8 rfl (by decide) (L2 := [some (.ref (b + (19 + 2 * i))), some (.int a0), some (.int r2)]) rfl ?_
  refine v_iload_n S d_Fr_shown_9 rfl rfl ?_
  refine v_if_ne S d_Fr_shown_10 (tgt := 15) (by decide) (fun h3 => ?_) (fun h3 => ?_)
  · refine v_iload_n S d_Fr_shown_15 rfl rfl ?_
    refine v_iconst S d_Fr_shown_16 (v := (2 : Int32)) (by decide) ?_
    refine v_icmp_ne S d_Fr_shown_17 (tgt := 33) (by decide) (fun h4 => ?_) (fun h4 => ?_)
    · refine v_aload_n S d_Fr_shown_33 rfl rfl ?_
      refine v_get S (fun w h => List.mem_cons_of_mem _ (i_Fr w h)) hKK.1 (19 + 2 * i) (fr_lt hi) (ce_fr hi) rfl 3 (by decide) (S.2.2.2.2 _ (List.mem_cons_of_mem _ (wd_111))) (fun _ h => h) rfl d_Fr_shown_34 ?_
      refine v_iload_n S d_Fr_shown_37 rfl rfl ?_
      refine v_iald S hKK.1 (20 + 2 * i) 0 (vl_lt hi) (ce_vl hi) rfl d_Fr_shown_38 (fun h5 => ?_)
      exact v_iret S hret hlocks d_Fr_shown_39
    · refine v_aload_n S d_Fr_shown_20 rfl rfl ?_
      refine v_get S (fun w h => List.mem_cons_of_mem _ (i_Fr w h)) hKK.1 (19 + 2 * i) (fr_lt hi) (ce_fr hi) rfl 3 (by decide) (S.2.2.2.2 _ (List.mem_cons_of_mem _ (wd_111))) (fun _ h => h) rfl d_Fr_shown_21 ?_
      refine v_iload_n S d_Fr_shown_24 rfl rfl ?_
      refine v_iald S hKK.1 (20 + 2 * i) 0 (vl_lt hi) (ce_vl hi) rfl d_Fr_shown_25 (fun h6 => ?_)
      refine v_if_eq S d_Fr_shown_26 (tgt := 33) (by decide) (fun h7 => ?_) (fun h7 => ?_)
      · refine v_aload_n S d_Fr_shown_33 rfl rfl ?_
        refine v_get S (fun w h => List.mem_cons_of_mem _ (i_Fr w h)) hKK.1 (19 + 2 * i) (fr_lt hi) (ce_fr hi) rfl 3 (by decide) (S.2.2.2.2 _ (List.mem_cons_of_mem _ (wd_111))) (fun _ h => h) rfl d_Fr_shown_34 ?_
        refine v_iload_n S d_Fr_shown_37 rfl rfl ?_
        refine v_iald S hKK.1 (20 + 2 * i) 0 (vl_lt hi) (ce_vl hi) rfl d_Fr_shown_38 (fun h8 => ?_)
        exact v_iret S hret hlocks d_Fr_shown_39
      · refine v_iconst S d_Fr_shown_29 (v := (1 : Int32)) (by decide) ?_
        refine v_goto S d_Fr_shown_30 (tgt := 39) (by decide) ?_
        exact v_iret S hret hlocks d_Fr_shown_39
  · refine v_iconst S d_Fr_shown_13 (v := (-1 : Int32)) (by decide) ?_
    exact v_iret S hret hlocks d_Fr_shown_14
end
section
/-! names of 20.model -/
def y_Mo_thrown : MethodName := ⟨"FrameVerifierModel", "thrown", "()I"⟩
abbrev b_Mo_thrown : ByteArray := prog_11_method_2_code
def rm_Mo_thrown : Room := { frames := 0, cells := 0, slots := 0, locals := 0 }
abbrev w_Mo_thrown : List Cond := Cond.code y_Mo_thrown b_Mo_thrown 1 (some .int) :: wG
theorem m_Mo_thrown : Cond.code y_Mo_thrown b_Mo_thrown 1 (some .int) ∈ wG := wg_t 826 (by decide +kernel) (by decide +kernel)
theorem q_Mo_thrown : y_Mo_thrown.cls ≠ "java/lang/invoke/MethodHandle" ∧ y_Mo_thrown.cls ≠ "java/lang/invoke/VarHandle" ∧ (parseMethodDescriptor y_Mo_thrown.desc).map (fun d => d.parameters.length) = some 0 := by decide +kernel
theorem g_Mo_thrown : Cond.initialized y_Mo_thrown.cls ∈ wG := wg_t 6 (by decide +kernel) (by decide +kernel)
theorem s_Mo_thrown : Cond.instanceMethod y_Mo_thrown ∈ wG := wg_t 824 (by decide +kernel) (by decide +kernel)
theorem e_Mo_thrown : Cond.selects "FrameVerifierModel" y_Mo_thrown y_Mo_thrown ∈ wG := wg_t 825 (by decide +kernel) (by decide +kernel)
theorem d_Mo_thrown_0 : decode b_Mo_thrown 0 = .ok (.aload_n 0, 1) := by decide +kernel
theorem d_Mo_thrown_1 : decode b_Mo_thrown 1 = .ok (.getfield 59, 3) := by decide +kernel
theorem d_Mo_thrown_4 : decode b_Mo_thrown 4 = .ok (.ireturn, 1) := by decide +kernel
def y_Mo_add : MethodName := ⟨"FrameVerifierModel", "add", "(II)I"⟩
abbrev b_Mo_add : ByteArray := prog_11_method_3_code
def rm_Mo_add : Room := { frames := 0, cells := 0, slots := 0, locals := 0 }
abbrev w_Mo_add : List Cond := Cond.code y_Mo_add b_Mo_add 3 (some .int) :: wG
theorem m_Mo_add : Cond.code y_Mo_add b_Mo_add 3 (some .int) ∈ wG := wg_t 830 (by decide +kernel) (by decide +kernel)
theorem q_Mo_add : y_Mo_add.cls ≠ "java/lang/invoke/MethodHandle" ∧ y_Mo_add.cls ≠ "java/lang/invoke/VarHandle" ∧ (parseMethodDescriptor y_Mo_add.desc).map (fun d => d.parameters.length) = some 2 := by decide +kernel
theorem g_Mo_add : Cond.initialized y_Mo_add.cls ∈ wG := wg_t 6 (by decide +kernel) (by decide +kernel)
theorem s_Mo_add : Cond.instanceMethod y_Mo_add ∈ wG := wg_t 828 (by decide +kernel) (by decide +kernel)
theorem e_Mo_add : Cond.selects "FrameVerifierModel" y_Mo_add y_Mo_add ∈ wG := wg_t 829 (by decide +kernel) (by decide +kernel)
theorem d_Mo_add_0 : decode b_Mo_add 0 = .ok (.aload_n 0, 1) := by decide +kernel
theorem d_Mo_add_1 : decode b_Mo_add 1 = .ok (.aload_n 0, 1) := by decide +kernel
theorem d_Mo_add_2 : decode b_Mo_add 2 = .ok (.getfield 63, 3) := by decide +kernel
theorem d_Mo_add_5 : decode b_Mo_add 5 = .ok (.bipush (100), 2) := by decide +kernel
theorem d_Mo_add_7 : decode b_Mo_add 7 = .ok (.if_icmp .ne (7), 3) := by decide +kernel
theorem d_Mo_add_10 : decode b_Mo_add 10 = .ok (.iconst 1, 1) := by decide +kernel
theorem d_Mo_add_11 : decode b_Mo_add 11 = .ok (.goto (4), 3) := by decide +kernel
theorem d_Mo_add_14 : decode b_Mo_add 14 = .ok (.iconst 0, 1) := by decide +kernel
theorem d_Mo_add_15 : decode b_Mo_add 15 = .ok (.putfield 59, 3) := by decide +kernel
theorem d_Mo_add_18 : decode b_Mo_add 18 = .ok (.aload_n 0, 1) := by decide +kernel
theorem d_Mo_add_19 : decode b_Mo_add 19 = .ok (.getfield 59, 3) := by decide +kernel
theorem d_Mo_add_22 : decode b_Mo_add 22 = .ok (.ifCond .eq (5), 3) := by decide +kernel
theorem d_Mo_add_25 : decode b_Mo_add 25 = .ok (.iconst 0, 1) := by decide +kernel
theorem d_Mo_add_26 : decode b_Mo_add 26 = .ok (.ireturn, 1) := by decide +kernel
theorem d_Mo_add_27 : decode b_Mo_add 27 = .ok (.aload_n 0, 1) := by decide +kernel
theorem d_Mo_add_28 : decode b_Mo_add 28 = .ok (.getfield 7, 3) := by decide +kernel
theorem d_Mo_add_31 : decode b_Mo_add 31 = .ok (.aload_n 0, 1) := by decide +kernel
theorem d_Mo_add_32 : decode b_Mo_add 32 = .ok (.getfield 63, 3) := by decide +kernel
theorem d_Mo_add_35 : decode b_Mo_add 35 = .ok (.iload_n 1, 1) := by decide +kernel
theorem d_Mo_add_36 : decode b_Mo_add 36 = .ok (.iastore, 1) := by decide +kernel
theorem d_Mo_add_37 : decode b_Mo_add 37 = .ok (.aload_n 0, 1) := by decide +kernel
theorem d_Mo_add_38 : decode b_Mo_add 38 = .ok (.getfield 13, 3) := by decide +kernel
theorem d_Mo_add_41 : decode b_Mo_add 41 = .ok (.aload_n 0, 1) := by decide +kernel
theorem d_Mo_add_42 : decode b_Mo_add 42 = .ok (.getfield 63, 3) := by decide +kernel
theorem d_Mo_add_45 : decode b_Mo_add 45 = .ok (.iload_n 2, 1) := by decide +kernel
theorem d_Mo_add_46 : decode b_Mo_add 46 = .ok (.iastore, 1) := by decide +kernel
theorem d_Mo_add_47 : decode b_Mo_add 47 = .ok (.aload_n 0, 1) := by decide +kernel
theorem d_Mo_add_48 : decode b_Mo_add 48 = .ok (.dup, 1) := by decide +kernel
theorem d_Mo_add_49 : decode b_Mo_add 49 = .ok (.getfield 63, 3) := by decide +kernel
theorem d_Mo_add_52 : decode b_Mo_add 52 = .ok (.iconst 1, 1) := by decide +kernel
theorem d_Mo_add_53 : decode b_Mo_add 53 = .ok (.iadd, 1) := by decide +kernel
theorem d_Mo_add_54 : decode b_Mo_add 54 = .ok (.putfield 63, 3) := by decide +kernel
theorem d_Mo_add_57 : decode b_Mo_add 57 = .ok (.aload_n 0, 1) := by decide +kernel
theorem d_Mo_add_58 : decode b_Mo_add 58 = .ok (.iconst 0, 1) := by decide +kernel
theorem d_Mo_add_59 : decode b_Mo_add 59 = .ok (.putfield 66, 3) := by decide +kernel
theorem d_Mo_add_62 : decode b_Mo_add 62 = .ok (.aload_n 0, 1) := by decide +kernel
theorem d_Mo_add_63 : decode b_Mo_add 63 = .ok (.getfield 63, 3) := by decide +kernel
theorem d_Mo_add_66 : decode b_Mo_add 66 = .ok (.iconst 1, 1) := by decide +kernel
theorem d_Mo_add_67 : decode b_Mo_add 67 = .ok (.isub, 1) := by decide +kernel
theorem d_Mo_add_68 : decode b_Mo_add 68 = .ok (.ireturn, 1) := by decide +kernel
def y_Mo_routine : MethodName := ⟨"FrameVerifierModel", "routine", "(IIII)Z"⟩
abbrev b_Mo_routine : ByteArray := prog_11_method_4_code
def rm_Mo_routine : Room := { frames := 0, cells := 0, slots := 0, locals := 0 }
abbrev w_Mo_routine : List Cond := Cond.code y_Mo_routine b_Mo_routine 5 (some .boolean) :: wG
theorem m_Mo_routine : Cond.code y_Mo_routine b_Mo_routine 5 (some .boolean) ∈ wG := wg_t 834 (by decide +kernel) (by decide +kernel)
theorem q_Mo_routine : y_Mo_routine.cls ≠ "java/lang/invoke/MethodHandle" ∧ y_Mo_routine.cls ≠ "java/lang/invoke/VarHandle" ∧ (parseMethodDescriptor y_Mo_routine.desc).map (fun d => d.parameters.length) = some 4 := by decide +kernel
theorem g_Mo_routine : Cond.initialized y_Mo_routine.cls ∈ wG := wg_t 6 (by decide +kernel) (by decide +kernel)
theorem s_Mo_routine : Cond.instanceMethod y_Mo_routine ∈ wG := wg_t 832 (by decide +kernel) (by decide +kernel)
theorem e_Mo_routine : Cond.selects "FrameVerifierModel" y_Mo_routine y_Mo_routine ∈ wG := wg_t 833 (by decide +kernel) (by decide +kernel)
theorem d_Mo_routine_0 : decode b_Mo_routine 0 = .ok (.aload_n 0, 1) := by decide +kernel
theorem d_Mo_routine_1 : decode b_Mo_routine 1 = .ok (.iconst 0, 1) := by decide +kernel
theorem d_Mo_routine_2 : decode b_Mo_routine 2 = .ok (.putfield 59, 3) := by decide +kernel
theorem d_Mo_routine_5 : decode b_Mo_routine 5 = .ok (.iload_n 1, 1) := by decide +kernel
theorem d_Mo_routine_6 : decode b_Mo_routine 6 = .ok (.ifCond .lt (29), 3) := by decide +kernel
theorem d_Mo_routine_9 : decode b_Mo_routine 9 = .ok (.iload_n 1, 1) := by decide +kernel
theorem d_Mo_routine_10 : decode b_Mo_routine 10 = .ok (.iconst 3, 1) := by decide +kernel
theorem d_Mo_routine_11 : decode b_Mo_routine 11 = .ok (.if_icmp .gt (24), 3) := by decide +kernel
theorem d_Mo_routine_14 : decode b_Mo_routine 14 = .ok (.iload_n 3, 1) := by decide +kernel
theorem d_Mo_routine_15 : decode b_Mo_routine 15 = .ok (.ifCond .lt (20), 3) := by decide +kernel
theorem d_Mo_routine_18 : decode b_Mo_routine 18 = .ok (.iload_n 3, 1) := by decide +kernel
theorem d_Mo_routine_19 : decode b_Mo_routine 19 = .ok (.iconst 3, 1) := by decide +kernel
theorem d_Mo_routine_20 : decode b_Mo_routine 20 = .ok (.if_icmp .gt (15), 3) := by decide +kernel
theorem d_Mo_routine_23 : decode b_Mo_routine 23 = .ok (.iload 4, 2) := by decide +kernel
theorem d_Mo_routine_25 : decode b_Mo_routine 25 = .ok (.ifCond .lt (10), 3) := by decide +kernel
theorem d_Mo_routine_28 : decode b_Mo_routine 28 = .ok (.iload 4, 2) := by decide +kernel
theorem d_Mo_routine_30 : decode b_Mo_routine 30 = .ok (.bipush (15), 2) := by decide +kernel
theorem d_Mo_routine_32 : decode b_Mo_routine 32 = .ok (.if_icmp .le (5), 3) := by decide +kernel
theorem d_Mo_routine_35 : decode b_Mo_routine 35 = .ok (.iconst 0, 1) := by decide +kernel
theorem d_Mo_routine_36 : decode b_Mo_routine 36 = .ok (.ireturn, 1) := by decide +kernel
theorem d_Mo_routine_37 : decode b_Mo_routine 37 = .ok (.aload_n 0, 1) := by decide +kernel
theorem d_Mo_routine_38 : decode b_Mo_routine 38 = .ok (.getfield 16, 3) := by decide +kernel
theorem d_Mo_routine_41 : decode b_Mo_routine 41 = .ok (.iload_n 1, 1) := by decide +kernel
theorem d_Mo_routine_42 : decode b_Mo_routine 42 = .ok (.iconst 1, 1) := by decide +kernel
theorem d_Mo_routine_43 : decode b_Mo_routine 43 = .ok (.bastore, 1) := by decide +kernel
theorem d_Mo_routine_44 : decode b_Mo_routine 44 = .ok (.aload_n 0, 1) := by decide +kernel
theorem d_Mo_routine_45 : decode b_Mo_routine 45 = .ok (.getfield 20, 3) := by decide +kernel
theorem d_Mo_routine_48 : decode b_Mo_routine 48 = .ok (.iload_n 1, 1) := by decide +kernel
theorem d_Mo_routine_49 : decode b_Mo_routine 49 = .ok (.iload_n 2, 1) := by decide +kernel
theorem d_Mo_routine_50 : decode b_Mo_routine 50 = .ok (.iastore, 1) := by decide +kernel
theorem d_Mo_routine_51 : decode b_Mo_routine 51 = .ok (.aload_n 0, 1) := by decide +kernel
theorem d_Mo_routine_52 : decode b_Mo_routine 52 = .ok (.getfield 23, 3) := by decide +kernel
theorem d_Mo_routine_55 : decode b_Mo_routine 55 = .ok (.iload_n 1, 1) := by decide +kernel
theorem d_Mo_routine_56 : decode b_Mo_routine 56 = .ok (.iload_n 3, 1) := by decide +kernel
theorem d_Mo_routine_57 : decode b_Mo_routine 57 = .ok (.iastore, 1) := by decide +kernel
theorem d_Mo_routine_58 : decode b_Mo_routine 58 = .ok (.aload_n 0, 1) := by decide +kernel
theorem d_Mo_routine_59 : decode b_Mo_routine 59 = .ok (.getfield 26, 3) := by decide +kernel
theorem d_Mo_routine_62 : decode b_Mo_routine 62 = .ok (.iload_n 1, 1) := by decide +kernel
theorem d_Mo_routine_63 : decode b_Mo_routine 63 = .ok (.iload 4, 2) := by decide +kernel
theorem d_Mo_routine_65 : decode b_Mo_routine 65 = .ok (.iastore, 1) := by decide +kernel
theorem d_Mo_routine_66 : decode b_Mo_routine 66 = .ok (.aload_n 0, 1) := by decide +kernel
theorem d_Mo_routine_67 : decode b_Mo_routine 67 = .ok (.iconst 0, 1) := by decide +kernel
theorem d_Mo_routine_68 : decode b_Mo_routine 68 = .ok (.putfield 66, 3) := by decide +kernel
theorem d_Mo_routine_71 : decode b_Mo_routine 71 = .ok (.iconst 1, 1) := by decide +kernel
theorem d_Mo_routine_72 : decode b_Mo_routine 72 = .ok (.ireturn, 1) := by decide +kernel
def y_Mo_kindOf : MethodName := ⟨"FrameVerifierModel", "kindOf", "(II)I"⟩
abbrev b_Mo_kindOf : ByteArray := prog_11_method_5_code
def rm_Mo_kindOf : Room := { frames := 0, cells := 0, slots := 0, locals := 0 }
abbrev w_Mo_kindOf : List Cond := Cond.code y_Mo_kindOf b_Mo_kindOf 3 (some .int) :: wG
theorem m_Mo_kindOf : Cond.code y_Mo_kindOf b_Mo_kindOf 3 (some .int) ∈ wG := wg_t 850 (by decide +kernel) (by decide +kernel)
theorem q_Mo_kindOf : y_Mo_kindOf.cls ≠ "java/lang/invoke/MethodHandle" ∧ y_Mo_kindOf.cls ≠ "java/lang/invoke/VarHandle" ∧ (parseMethodDescriptor y_Mo_kindOf.desc).map (fun d => d.parameters.length) = some 2 := by decide +kernel
theorem g_Mo_kindOf : Cond.initialized y_Mo_kindOf.cls ∈ wG := wg_t 6 (by decide +kernel) (by decide +kernel)
theorem s_Mo_kindOf : Cond.instanceMethod y_Mo_kindOf ∈ wG := wg_t 849 (by decide +kernel) (by decide +kernel)
theorem e_Mo_kindOf : Cond.selects "FrameVerifierModel" y_Mo_kindOf y_Mo_kindOf ∈ wG := wg_s (q := (y_Mo_kindOf, 27)) 23 (by decide +kernel) (by decide +kernel)
theorem d_Mo_kindOf_0 : decode b_Mo_kindOf 0 = .ok (.aload_n 0, 1) := by decide +kernel
theorem d_Mo_kindOf_1 : decode b_Mo_kindOf 1 = .ok (.getfield 26, 3) := by decide +kernel
theorem d_Mo_kindOf_4 : decode b_Mo_kindOf 4 = .ok (.iload_n 1, 1) := by decide +kernel
theorem d_Mo_kindOf_5 : decode b_Mo_kindOf 5 = .ok (.iaload, 1) := by decide +kernel
theorem d_Mo_kindOf_6 : decode b_Mo_kindOf 6 = .ok (.iload_n 2, 1) := by decide +kernel
theorem d_Mo_kindOf_7 : decode b_Mo_kindOf 7 = .ok (.ishr, 1) := by decide +kernel
theorem d_Mo_kindOf_8 : decode b_Mo_kindOf 8 = .ok (.iconst 1, 1) := by decide +kernel
theorem d_Mo_kindOf_9 : decode b_Mo_kindOf 9 = .ok (.iand, 1) := by decide +kernel
theorem d_Mo_kindOf_10 : decode b_Mo_kindOf 10 = .ok (.iconst 1, 1) := by decide +kernel
theorem d_Mo_kindOf_11 : decode b_Mo_kindOf 11 = .ok (.if_icmp .ne (7), 3) := by decide +kernel
theorem d_Mo_kindOf_14 : decode b_Mo_kindOf 14 = .ok (.iconst 2, 1) := by decide +kernel
theorem d_Mo_kindOf_15 : decode b_Mo_kindOf 15 = .ok (.goto (4), 3) := by decide +kernel
theorem d_Mo_kindOf_18 : decode b_Mo_kindOf 18 = .ok (.iconst 1, 1) := by decide +kernel
theorem d_Mo_kindOf_19 : decode b_Mo_kindOf 19 = .ok (.ireturn, 1) := by decide +kernel
def y_Mo_isAddress : MethodName := ⟨"FrameVerifierModel", "isAddress", "(I)Z"⟩
abbrev b_Mo_isAddress : ByteArray := prog_11_method_6_code
def rm_Mo_isAddress : Room := { frames := 0, cells := 0, slots := 0, locals := 0 }
abbrev w_Mo_isAddress : List Cond := Cond.code y_Mo_isAddress b_Mo_isAddress 2 (some .boolean) :: wG
theorem m_Mo_isAddress : Cond.code y_Mo_isAddress b_Mo_isAddress 2 (some .boolean) ∈ wG := wg_t 846 (by decide +kernel) (by decide +kernel)
theorem q_Mo_isAddress : y_Mo_isAddress.cls ≠ "java/lang/invoke/MethodHandle" ∧ y_Mo_isAddress.cls ≠ "java/lang/invoke/VarHandle" ∧ (parseMethodDescriptor y_Mo_isAddress.desc).map (fun d => d.parameters.length) = some 1 := by decide +kernel
theorem g_Mo_isAddress : Cond.initialized y_Mo_isAddress.cls ∈ wG := wg_t 6 (by decide +kernel) (by decide +kernel)
theorem s_Mo_isAddress : Cond.instanceMethod y_Mo_isAddress ∈ wG := wg_t 845 (by decide +kernel) (by decide +kernel)
theorem e_Mo_isAddress : Cond.selects "FrameVerifierModel" y_Mo_isAddress y_Mo_isAddress ∈ wG := wg_s (q := (y_Mo_isAddress, 27)) 22 (by decide +kernel) (by decide +kernel)
theorem d_Mo_isAddress_0 : decode b_Mo_isAddress 0 = .ok (.iload_n 1, 1) := by decide +kernel
theorem d_Mo_isAddress_1 : decode b_Mo_isAddress 1 = .ok (.ifCond .lt (15), 3) := by decide +kernel
theorem d_Mo_isAddress_4 : decode b_Mo_isAddress 4 = .ok (.iload_n 1, 1) := by decide +kernel
theorem d_Mo_isAddress_5 : decode b_Mo_isAddress 5 = .ok (.aload_n 0, 1) := by decide +kernel
theorem d_Mo_isAddress_6 : decode b_Mo_isAddress 6 = .ok (.getfield 63, 3) := by decide +kernel
theorem d_Mo_isAddress_9 : decode b_Mo_isAddress 9 = .ok (.if_icmp .ge (7), 3) := by decide +kernel
theorem d_Mo_isAddress_12 : decode b_Mo_isAddress 12 = .ok (.iconst 1, 1) := by decide +kernel
theorem d_Mo_isAddress_13 : decode b_Mo_isAddress 13 = .ok (.goto (4), 3) := by decide +kernel
theorem d_Mo_isAddress_16 : decode b_Mo_isAddress 16 = .ok (.iconst 0, 1) := by decide +kernel
theorem d_Mo_isAddress_17 : decode b_Mo_isAddress 17 = .ok (.ireturn, 1) := by decide +kernel
def y_Mo_take : MethodName := ⟨"FrameVerifierModel", "take", "(I)I"⟩
abbrev b_Mo_take : ByteArray := prog_11_method_7_code
def rm_Mo_take : Room := { frames := 0, cells := 0, slots := 0, locals := 0 }
abbrev w_Mo_take : List Cond := Cond.code y_Mo_take b_Mo_take 2 (some .int) :: wG
theorem m_Mo_take : Cond.code y_Mo_take b_Mo_take 2 (some .int) ∈ wG := wg_t 866 (by decide +kernel) (by decide +kernel)
theorem q_Mo_take : y_Mo_take.cls ≠ "java/lang/invoke/MethodHandle" ∧ y_Mo_take.cls ≠ "java/lang/invoke/VarHandle" ∧ (parseMethodDescriptor y_Mo_take.desc).map (fun d => d.parameters.length) = some 1 := by decide +kernel
theorem g_Mo_take : Cond.initialized y_Mo_take.cls ∈ wG := wg_t 6 (by decide +kernel) (by decide +kernel)
theorem s_Mo_take : Cond.instanceMethod y_Mo_take ∈ wG := wg_t 865 (by decide +kernel) (by decide +kernel)
theorem e_Mo_take : Cond.selects "FrameVerifierModel" y_Mo_take y_Mo_take ∈ wG := wg_s (q := (y_Mo_take, 27)) 27 (by decide +kernel) (by decide +kernel)
theorem d_Mo_take_0 : decode b_Mo_take 0 = .ok (.aload_n 0, 1) := by decide +kernel
theorem d_Mo_take_1 : decode b_Mo_take 1 = .ok (.getfield 70, 3) := by decide +kernel
theorem d_Mo_take_4 : decode b_Mo_take 4 = .ok (.ifCond .ne (10), 3) := by decide +kernel
theorem d_Mo_take_7 : decode b_Mo_take 7 = .ok (.aload_n 0, 1) := by decide +kernel
theorem d_Mo_take_8 : decode b_Mo_take 8 = .ok (.iconst 1, 1) := by decide +kernel
theorem d_Mo_take_9 : decode b_Mo_take 9 = .ok (.putfield 73, 3) := by decide +kernel
theorem d_Mo_take_12 : decode b_Mo_take 12 = .ok (.iconst 3, 1) := by decide +kernel
theorem d_Mo_take_13 : decode b_Mo_take 13 = .ok (.ireturn, 1) := by decide +kernel
theorem d_Mo_take_14 : decode b_Mo_take 14 = .ok (.aload_n 0, 1) := by decide +kernel
theorem d_Mo_take_15 : decode b_Mo_take 15 = .ok (.dup, 1) := by decide +kernel
theorem d_Mo_take_16 : decode b_Mo_take 16 = .ok (.getfield 70, 3) := by decide +kernel
theorem d_Mo_take_19 : decode b_Mo_take 19 = .ok (.iconst 1, 1) := by decide +kernel
theorem d_Mo_take_20 : decode b_Mo_take 20 = .ok (.isub, 1) := by decide +kernel
theorem d_Mo_take_21 : decode b_Mo_take 21 = .ok (.putfield 70, 3) := by decide +kernel
theorem d_Mo_take_24 : decode b_Mo_take 24 = .ok (.aload_n 0, 1) := by decide +kernel
theorem d_Mo_take_25 : decode b_Mo_take 25 = .ok (.aload_n 0, 1) := by decide +kernel
theorem d_Mo_take_26 : decode b_Mo_take 26 = .ok (.getfield 73, 3) := by decide +kernel
theorem d_Mo_take_29 : decode b_Mo_take 29 = .ok (.ifCond .ne (24), 3) := by decide +kernel
theorem d_Mo_take_32 : decode b_Mo_take 32 = .ok (.iload_n 1, 1) := by decide +kernel
theorem d_Mo_take_33 : decode b_Mo_take 33 = .ok (.iconst 3, 1) := by decide +kernel
theorem d_Mo_take_34 : decode b_Mo_take 34 = .ok (.if_icmp .eq (23), 3) := by decide +kernel
theorem d_Mo_take_37 : decode b_Mo_take 37 = .ok (.aload_n 0, 1) := by decide +kernel
theorem d_Mo_take_38 : decode b_Mo_take 38 = .ok (.getfield 38, 3) := by decide +kernel
theorem d_Mo_take_41 : decode b_Mo_take 41 = .ok (.bipush (6), 2) := by decide +kernel
theorem d_Mo_take_43 : decode b_Mo_take 43 = .ok (.aload_n 0, 1) := by decide +kernel
theorem d_Mo_take_44 : decode b_Mo_take 44 = .ok (.getfield 70, 3) := by decide +kernel
theorem d_Mo_take_47 : decode b_Mo_take 47 = .ok (.iadd, 1) := by decide +kernel
theorem d_Mo_take_48 : decode b_Mo_take 48 = .ok (.iaload, 1) := by decide +kernel
theorem d_Mo_take_49 : decode b_Mo_take 49 = .ok (.iload_n 1, 1) := by decide +kernel
theorem d_Mo_take_50 : decode b_Mo_take 50 = .ok (.if_icmp .eq (7), 3) := by decide +kernel
theorem d_Mo_take_53 : decode b_Mo_take 53 = .ok (.iconst 1, 1) := by decide +kernel
theorem d_Mo_take_54 : decode b_Mo_take 54 = .ok (.goto (4), 3) := by decide +kernel
theorem d_Mo_take_57 : decode b_Mo_take 57 = .ok (.iconst 0, 1) := by decide +kernel
theorem d_Mo_take_58 : decode b_Mo_take 58 = .ok (.putfield 73, 3) := by decide +kernel
theorem d_Mo_take_61 : decode b_Mo_take 61 = .ok (.aload_n 0, 1) := by decide +kernel
theorem d_Mo_take_62 : decode b_Mo_take 62 = .ok (.getfield 38, 3) := by decide +kernel
theorem d_Mo_take_65 : decode b_Mo_take 65 = .ok (.bipush (6), 2) := by decide +kernel
theorem d_Mo_take_67 : decode b_Mo_take 67 = .ok (.aload_n 0, 1) := by decide +kernel
theorem d_Mo_take_68 : decode b_Mo_take 68 = .ok (.getfield 70, 3) := by decide +kernel
theorem d_Mo_take_71 : decode b_Mo_take 71 = .ok (.iadd, 1) := by decide +kernel
theorem d_Mo_take_72 : decode b_Mo_take 72 = .ok (.iaload, 1) := by decide +kernel
theorem d_Mo_take_73 : decode b_Mo_take 73 = .ok (.ireturn, 1) := by decide +kernel
def y_Mo_give : MethodName := ⟨"FrameVerifierModel", "give", "(I)V"⟩
abbrev b_Mo_give : ByteArray := prog_11_method_8_code
def rm_Mo_give : Room := { frames := 0, cells := 0, slots := 0, locals := 0 }
abbrev w_Mo_give : List Cond := Cond.code y_Mo_give b_Mo_give 2 none :: wG
theorem m_Mo_give : Cond.code y_Mo_give b_Mo_give 2 none ∈ wG := wg_t 870 (by decide +kernel) (by decide +kernel)
theorem q_Mo_give : y_Mo_give.cls ≠ "java/lang/invoke/MethodHandle" ∧ y_Mo_give.cls ≠ "java/lang/invoke/VarHandle" ∧ (parseMethodDescriptor y_Mo_give.desc).map (fun d => d.parameters.length) = some 1 := by decide +kernel
theorem g_Mo_give : Cond.initialized y_Mo_give.cls ∈ wG := wg_t 6 (by decide +kernel) (by decide +kernel)
theorem s_Mo_give : Cond.instanceMethod y_Mo_give ∈ wG := wg_t 869 (by decide +kernel) (by decide +kernel)
theorem e_Mo_give : Cond.selects "FrameVerifierModel" y_Mo_give y_Mo_give ∈ wG := wg_s (q := (y_Mo_give, 27)) 28 (by decide +kernel) (by decide +kernel)
theorem d_Mo_give_0 : decode b_Mo_give 0 = .ok (.aload_n 0, 1) := by decide +kernel
theorem d_Mo_give_1 : decode b_Mo_give 1 = .ok (.getfield 70, 3) := by decide +kernel
theorem d_Mo_give_4 : decode b_Mo_give 4 = .ok (.bipush (6), 2) := by decide +kernel
theorem d_Mo_give_6 : decode b_Mo_give 6 = .ok (.if_icmp .ne (9), 3) := by decide +kernel
theorem d_Mo_give_9 : decode b_Mo_give 9 = .ok (.aload_n 0, 1) := by decide +kernel
theorem d_Mo_give_10 : decode b_Mo_give 10 = .ok (.iconst 1, 1) := by decide +kernel
theorem d_Mo_give_11 : decode b_Mo_give 11 = .ok (.putfield 73, 3) := by decide +kernel
theorem d_Mo_give_14 : decode b_Mo_give 14 = .ok (.return_, 1) := by decide +kernel
theorem d_Mo_give_15 : decode b_Mo_give 15 = .ok (.aload_n 0, 1) := by decide +kernel
theorem d_Mo_give_16 : decode b_Mo_give 16 = .ok (.getfield 38, 3) := by decide +kernel
theorem d_Mo_give_19 : decode b_Mo_give 19 = .ok (.bipush (6), 2) := by decide +kernel
theorem d_Mo_give_21 : decode b_Mo_give 21 = .ok (.aload_n 0, 1) := by decide +kernel
theorem d_Mo_give_22 : decode b_Mo_give 22 = .ok (.getfield 70, 3) := by decide +kernel
theorem d_Mo_give_25 : decode b_Mo_give 25 = .ok (.iadd, 1) := by decide +kernel
theorem d_Mo_give_26 : decode b_Mo_give 26 = .ok (.iload_n 1, 1) := by decide +kernel
theorem d_Mo_give_27 : decode b_Mo_give 27 = .ok (.iastore, 1) := by decide +kernel
theorem d_Mo_give_28 : decode b_Mo_give 28 = .ok (.aload_n 0, 1) := by decide +kernel
theorem d_Mo_give_29 : decode b_Mo_give 29 = .ok (.dup, 1) := by decide +kernel
theorem d_Mo_give_30 : decode b_Mo_give 30 = .ok (.getfield 70, 3) := by decide +kernel
theorem d_Mo_give_33 : decode b_Mo_give 33 = .ok (.iconst 1, 1) := by decide +kernel
theorem d_Mo_give_34 : decode b_Mo_give 34 = .ok (.iadd, 1) := by decide +kernel
theorem d_Mo_give_35 : decode b_Mo_give 35 = .ok (.putfield 70, 3) := by decide +kernel
theorem d_Mo_give_38 : decode b_Mo_give 38 = .ok (.return_, 1) := by decide +kernel
def y_Mo_goTo : MethodName := ⟨"FrameVerifierModel", "goTo", "(I)V"⟩
abbrev b_Mo_goTo : ByteArray := prog_11_method_9_code
def rm_Mo_goTo : Room := { frames := 1, cells := 0, slots := 0, locals := 21 }
abbrev w_Mo_goTo : List Cond := Cond.code y_Mo_goTo b_Mo_goTo 2 none :: wG
theorem m_Mo_goTo : Cond.code y_Mo_goTo b_Mo_goTo 2 none ∈ wG := wg_t 882 (by decide +kernel) (by decide +kernel)
theorem q_Mo_goTo : y_Mo_goTo.cls ≠ "java/lang/invoke/MethodHandle" ∧ y_Mo_goTo.cls ≠ "java/lang/invoke/VarHandle" ∧ (parseMethodDescriptor y_Mo_goTo.desc).map (fun d => d.parameters.length) = some 1 := by decide +kernel
theorem g_Mo_goTo : Cond.initialized y_Mo_goTo.cls ∈ wG := wg_t 6 (by decide +kernel) (by decide +kernel)
theorem s_Mo_goTo : Cond.instanceMethod y_Mo_goTo ∈ wG := wg_t 881 (by decide +kernel) (by decide +kernel)
theorem e_Mo_goTo : Cond.selects "FrameVerifierModel" y_Mo_goTo y_Mo_goTo ∈ wG := wg_s (q := (y_Mo_goTo, 27)) 31 (by decide +kernel) (by decide +kernel)
theorem d_Mo_goTo_0 : decode b_Mo_goTo 0 = .ok (.aload_n 0, 1) := by decide +kernel
theorem d_Mo_goTo_1 : decode b_Mo_goTo 1 = .ok (.aload_n 0, 1) := by decide +kernel
theorem d_Mo_goTo_2 : decode b_Mo_goTo 2 = .ok (.getfield 73, 3) := by decide +kernel
theorem d_Mo_goTo_5 : decode b_Mo_goTo 5 = .ok (.ifCond .ne (11), 3) := by decide +kernel
theorem d_Mo_goTo_8 : decode b_Mo_goTo 8 = .ok (.aload_n 0, 1) := by decide +kernel
theorem d_Mo_goTo_9 : decode b_Mo_goTo 9 = .ok (.iload_n 1, 1) := by decide +kernel
theorem d_Mo_goTo_10 : decode b_Mo_goTo 10 = .ok (.invokevirtual 76, 3) := by decide +kernel
theorem d_Mo_goTo_13 : decode b_Mo_goTo 13 = .ok (.ifCond .ne (7), 3) := by decide +kernel
theorem d_Mo_goTo_16 : decode b_Mo_goTo 16 = .ok (.iconst 1, 1) := by decide +kernel
theorem d_Mo_goTo_17 : decode b_Mo_goTo 17 = .ok (.goto (4), 3) := by decide +kernel
theorem d_Mo_goTo_20 : decode b_Mo_goTo 20 = .ok (.iconst 0, 1) := by decide +kernel
theorem d_Mo_goTo_21 : decode b_Mo_goTo 21 = .ok (.putfield 73, 3) := by decide +kernel
theorem d_Mo_goTo_24 : decode b_Mo_goTo 24 = .ok (.aload_n 0, 1) := by decide +kernel
theorem d_Mo_goTo_25 : decode b_Mo_goTo 25 = .ok (.iload_n 1, 1) := by decide +kernel
theorem d_Mo_goTo_26 : decode b_Mo_goTo 26 = .ok (.putfield 80, 3) := by decide +kernel
theorem d_Mo_goTo_29 : decode b_Mo_goTo 29 = .ok (.return_, 1) := by decide +kernel
def y_Mo_tryLocal : MethodName := ⟨"FrameVerifierModel", "tryLocal", "(II)V"⟩
abbrev b_Mo_tryLocal : ByteArray := prog_11_method_11_code
def rm_Mo_tryLocal : Room := { frames := 1, cells := 0, slots := 0, locals := 21 }
abbrev w_Mo_tryLocal : List Cond := Cond.code y_Mo_tryLocal b_Mo_tryLocal 3 none :: wG
theorem m_Mo_tryLocal : Cond.code y_Mo_tryLocal b_Mo_tryLocal 3 none ∈ wG := wg_t 874 (by decide +kernel) (by decide +kernel)
theorem q_Mo_tryLocal : y_Mo_tryLocal.cls ≠ "java/lang/invoke/MethodHandle" ∧ y_Mo_tryLocal.cls ≠ "java/lang/invoke/VarHandle" ∧ (parseMethodDescriptor y_Mo_tryLocal.desc).map (fun d => d.parameters.length) = some 2 := by decide +kernel
theorem g_Mo_tryLocal : Cond.initialized y_Mo_tryLocal.cls ∈ wG := wg_t 6 (by decide +kernel) (by decide +kernel)
theorem s_Mo_tryLocal : Cond.instanceMethod y_Mo_tryLocal ∈ wG := wg_t 873 (by decide +kernel) (by decide +kernel)
theorem e_Mo_tryLocal : Cond.selects "FrameVerifierModel" y_Mo_tryLocal y_Mo_tryLocal ∈ wG := wg_s (q := (y_Mo_tryLocal, 27)) 29 (by decide +kernel) (by decide +kernel)
theorem d_Mo_tryLocal_0 : decode b_Mo_tryLocal 0 = .ok (.iload_n 2, 1) := by decide +kernel
theorem d_Mo_tryLocal_1 : decode b_Mo_tryLocal 1 = .ok (.ifCond .lt (8), 3) := by decide +kernel
theorem d_Mo_tryLocal_4 : decode b_Mo_tryLocal 4 = .ok (.iload_n 2, 1) := by decide +kernel
theorem d_Mo_tryLocal_5 : decode b_Mo_tryLocal 5 = .ok (.iconst 5, 1) := by decide +kernel
theorem d_Mo_tryLocal_6 : decode b_Mo_tryLocal 6 = .ok (.if_icmp .le (11), 3) := by decide +kernel
theorem d_Mo_tryLocal_9 : decode b_Mo_tryLocal 9 = .ok (.aload_n 0, 1) := by decide +kernel
theorem d_Mo_tryLocal_10 : decode b_Mo_tryLocal 10 = .ok (.iconst 1, 1) := by decide +kernel
theorem d_Mo_tryLocal_11 : decode b_Mo_tryLocal 11 = .ok (.putfield 73, 3) := by decide +kernel
theorem d_Mo_tryLocal_14 : decode b_Mo_tryLocal 14 = .ok (.goto (62), 3) := by decide +kernel
theorem d_Mo_tryLocal_17 : decode b_Mo_tryLocal 17 = .ok (.iload_n 1, 1) := by decide +kernel
theorem d_Mo_tryLocal_18 : decode b_Mo_tryLocal 18 = .ok (.bipush (6), 2) := by decide +kernel
theorem d_Mo_tryLocal_20 : decode b_Mo_tryLocal 20 = .ok (.if_icmp .ne (17), 3) := by decide +kernel
theorem d_Mo_tryLocal_23 : decode b_Mo_tryLocal 23 = .ok (.aload_n 0, 1) := by decide +kernel
theorem d_Mo_tryLocal_24 : decode b_Mo_tryLocal 24 = .ok (.getfield 38, 3) := by decide +kernel
theorem d_Mo_tryLocal_27 : decode b_Mo_tryLocal 27 = .ok (.iload_n 2, 1) := by decide +kernel
theorem d_Mo_tryLocal_28 : decode b_Mo_tryLocal 28 = .ok (.aload_n 0, 1) := by decide +kernel
theorem d_Mo_tryLocal_29 : decode b_Mo_tryLocal 29 = .ok (.iconst 3, 1) := by decide +kernel
theorem d_Mo_tryLocal_30 : decode b_Mo_tryLocal 30 = .ok (.invokevirtual 86, 3) := by decide +kernel
theorem d_Mo_tryLocal_33 : decode b_Mo_tryLocal 33 = .ok (.iastore, 1) := by decide +kernel
theorem d_Mo_tryLocal_34 : decode b_Mo_tryLocal 34 = .ok (.goto (42), 3) := by decide +kernel
theorem d_Mo_tryLocal_37 : decode b_Mo_tryLocal 37 = .ok (.aload_n 0, 1) := by decide +kernel
theorem d_Mo_tryLocal_38 : decode b_Mo_tryLocal 38 = .ok (.aload_n 0, 1) := by decide +kernel
theorem d_Mo_tryLocal_39 : decode b_Mo_tryLocal 39 = .ok (.getfield 38, 3) := by decide +kernel
theorem d_Mo_tryLocal_42 : decode b_Mo_tryLocal 42 = .ok (.iload_n 2, 1) := by decide +kernel
theorem d_Mo_tryLocal_43 : decode b_Mo_tryLocal 43 = .ok (.iaload, 1) := by decide +kernel
theorem d_Mo_tryLocal_44 : decode b_Mo_tryLocal 44 = .ok (.iconst 1, 1) := by decide +kernel
theorem d_Mo_tryLocal_45 : decode b_Mo_tryLocal 45 = .ok (.if_icmp .eq (17), 3) := by decide +kernel
theorem d_Mo_tryLocal_48 : decode b_Mo_tryLocal 48 = .ok (.aload_n 0, 1) := by decide +kernel
theorem d_Mo_tryLocal_49 : decode b_Mo_tryLocal 49 = .ok (.getfield 38, 3) := by decide +kernel
theorem d_Mo_tryLocal_52 : decode b_Mo_tryLocal 52 = .ok (.iload_n 2, 1) := by decide +kernel
theorem d_Mo_tryLocal_53 : decode b_Mo_tryLocal 53 = .ok (.iaload, 1) := by decide +kernel
theorem d_Mo_tryLocal_54 : decode b_Mo_tryLocal 54 = .ok (.iconst 2, 1) := by decide +kernel
theorem d_Mo_tryLocal_55 : decode b_Mo_tryLocal 55 = .ok (.if_icmp .eq (7), 3) := by decide +kernel
theorem d_Mo_tryLocal_58 : decode b_Mo_tryLocal 58 = .ok (.iconst 1, 1) := by decide +kernel
theorem d_Mo_tryLocal_59 : decode b_Mo_tryLocal 59 = .ok (.goto (4), 3) := by decide +kernel
theorem d_Mo_tryLocal_62 : decode b_Mo_tryLocal 62 = .ok (.iconst 0, 1) := by decide +kernel
theorem d_Mo_tryLocal_63 : decode b_Mo_tryLocal 63 = .ok (.putfield 73, 3) := by decide +kernel
theorem d_Mo_tryLocal_66 : decode b_Mo_tryLocal 66 = .ok (.aload_n 0, 1) := by decide +kernel
theorem d_Mo_tryLocal_67 : decode b_Mo_tryLocal 67 = .ok (.aload_n 0, 1) := by decide +kernel
theorem d_Mo_tryLocal_68 : decode b_Mo_tryLocal 68 = .ok (.getfield 38, 3) := by decide +kernel
theorem d_Mo_tryLocal_71 : decode b_Mo_tryLocal 71 = .ok (.iload_n 2, 1) := by decide +kernel
theorem d_Mo_tryLocal_72 : decode b_Mo_tryLocal 72 = .ok (.iaload, 1) := by decide +kernel
theorem d_Mo_tryLocal_73 : decode b_Mo_tryLocal 73 = .ok (.invokevirtual 90, 3) := by decide +kernel
theorem d_Mo_tryLocal_76 : decode b_Mo_tryLocal 76 = .ok (.return_, 1) := by decide +kernel
def y_Mo_tryGo : MethodName := ⟨"FrameVerifierModel", "tryGo", "(II)V"⟩
abbrev b_Mo_tryGo : ByteArray := prog_11_method_12_code
def rm_Mo_tryGo : Room := { frames := 2, cells := 0, slots := 0, locals := 42 }
abbrev w_Mo_tryGo : List Cond := Cond.code y_Mo_tryGo b_Mo_tryGo 4 none :: wG
theorem m_Mo_tryGo : Cond.code y_Mo_tryGo b_Mo_tryGo 4 none ∈ wG := wg_t 878 (by decide +kernel) (by decide +kernel)
theorem q_Mo_tryGo : y_Mo_tryGo.cls ≠ "java/lang/invoke/MethodHandle" ∧ y_Mo_tryGo.cls ≠ "java/lang/invoke/VarHandle" ∧ (parseMethodDescriptor y_Mo_tryGo.desc).map (fun d => d.parameters.length) = some 2 := by decide +kernel
theorem g_Mo_tryGo : Cond.initialized y_Mo_tryGo.cls ∈ wG := wg_t 6 (by decide +kernel) (by decide +kernel)
theorem s_Mo_tryGo : Cond.instanceMethod y_Mo_tryGo ∈ wG := wg_t 877 (by decide +kernel) (by decide +kernel)
theorem e_Mo_tryGo : Cond.selects "FrameVerifierModel" y_Mo_tryGo y_Mo_tryGo ∈ wG := wg_s (q := (y_Mo_tryGo, 27)) 30 (by decide +kernel) (by decide +kernel)
theorem d_Mo_tryGo_0 : decode b_Mo_tryGo 0 = .ok (.iload_n 1, 1) := by decide +kernel
theorem d_Mo_tryGo_1 : decode b_Mo_tryGo 1 = .ok (.bipush (9), 2) := by decide +kernel
theorem d_Mo_tryGo_3 : decode b_Mo_tryGo 3 = .ok (.if_icmp .ne (11), 3) := by decide +kernel
theorem d_Mo_tryGo_6 : decode b_Mo_tryGo 6 = .ok (.aload_n 0, 1) := by decide +kernel
theorem d_Mo_tryGo_7 : decode b_Mo_tryGo 7 = .ok (.iconst 2, 1) := by decide +kernel
theorem d_Mo_tryGo_8 : decode b_Mo_tryGo 8 = .ok (.invokevirtual 90, 3) := by decide +kernel
theorem d_Mo_tryGo_11 : decode b_Mo_tryGo 11 = .ok (.goto (54), 3) := by decide +kernel
theorem d_Mo_tryGo_14 : decode b_Mo_tryGo 14 = .ok (.iload_n 1, 1) := by decide +kernel
theorem d_Mo_tryGo_15 : decode b_Mo_tryGo 15 = .ok (.bipush (11), 2) := by decide +kernel
theorem d_Mo_tryGo_17 : decode b_Mo_tryGo 17 = .ok (.if_icmp .ne (17), 3) := by decide +kernel
theorem d_Mo_tryGo_20 : decode b_Mo_tryGo 20 = .ok (.aload_n 0, 1) := by decide +kernel
theorem d_Mo_tryGo_21 : decode b_Mo_tryGo 21 = .ok (.iconst 1, 1) := by decide +kernel
theorem d_Mo_tryGo_22 : decode b_Mo_tryGo 22 = .ok (.invokevirtual 86, 3) := by decide +kernel
theorem d_Mo_tryGo_25 : decode b_Mo_tryGo 25 = .ok (.istore_n 3, 1) := by decide +kernel
theorem d_Mo_tryGo_26 : decode b_Mo_tryGo 26 = .ok (.aload_n 0, 1) := by decide +kernel
theorem d_Mo_tryGo_27 : decode b_Mo_tryGo 27 = .ok (.iconst 2, 1) := by decide +kernel
theorem d_Mo_tryGo_28 : decode b_Mo_tryGo 28 = .ok (.invokevirtual 90, 3) := by decide +kernel
theorem d_Mo_tryGo_31 : decode b_Mo_tryGo 31 = .ok (.goto (34), 3) := by decide +kernel
theorem d_Mo_tryGo_34 : decode b_Mo_tryGo 34 = .ok (.iload_n 1, 1) := by decide +kernel
theorem d_Mo_tryGo_35 : decode b_Mo_tryGo 35 = .ok (.bipush (7), 2) := by decide +kernel
theorem d_Mo_tryGo_37 : decode b_Mo_tryGo 37 = .ok (.if_icmp .ne (7), 3) := by decide +kernel
theorem d_Mo_tryGo_40 : decode b_Mo_tryGo 40 = .ok (.iconst 3, 1) := by decide +kernel
theorem d_Mo_tryGo_41 : decode b_Mo_tryGo 41 = .ok (.goto (18), 3) := by decide +kernel
theorem d_Mo_tryGo_44 : decode b_Mo_tryGo 44 = .ok (.aload_n 0, 1) := by decide +kernel
theorem d_Mo_tryGo_45 : decode b_Mo_tryGo 45 = .ok (.iload_n 1, 1) := by decide +kernel
theorem d_Mo_tryGo_46 : decode b_Mo_tryGo 46 = .ok (.bipush (8), 2) := by decide +kernel
theorem d_Mo_tryGo_48 : decode b_Mo_tryGo 48 = .ok (.if_icmp .ne (7), 3) := by decide +kernel
theorem d_Mo_tryGo_51 : decode b_Mo_tryGo 51 = .ok (.iconst 1, 1) := by decide +kernel
theorem d_Mo_tryGo_52 : decode b_Mo_tryGo 52 = .ok (.goto (4), 3) := by decide +kernel
theorem d_Mo_tryGo_55 : decode b_Mo_tryGo 55 = .ok (.iconst 2, 1) := by decide +kernel
theorem d_Mo_tryGo_56 : decode b_Mo_tryGo 56 = .ok (.invokevirtual 86, 3) := by decide +kernel
theorem d_Mo_tryGo_59 : decode b_Mo_tryGo 59 = .ok (.istore_n 3, 1) := by decide +kernel
theorem d_Mo_tryGo_60 : decode b_Mo_tryGo 60 = .ok (.aload_n 0, 1) := by decide +kernel
theorem d_Mo_tryGo_61 : decode b_Mo_tryGo 61 = .ok (.iload_n 2, 1) := by decide +kernel
theorem d_Mo_tryGo_62 : decode b_Mo_tryGo 62 = .ok (.invokevirtual 114, 3) := by decide +kernel
theorem d_Mo_tryGo_65 : decode b_Mo_tryGo 65 = .ok (.return_, 1) := by decide +kernel
def y_Mo_tryArray : MethodName := ⟨"FrameVerifierModel", "tryArray", "(I)V"⟩
abbrev b_Mo_tryArray : ByteArray := prog_11_method_13_code
def rm_Mo_tryArray : Room := { frames := 1, cells := 0, slots := 0, locals := 21 }
abbrev w_Mo_tryArray : List Cond := Cond.code y_Mo_tryArray b_Mo_tryArray 5 none :: wG
theorem m_Mo_tryArray : Cond.code y_Mo_tryArray b_Mo_tryArray 5 none ∈ wG := wg_t 886 (by decide +kernel) (by decide +kernel)
theorem q_Mo_tryArray : y_Mo_tryArray.cls ≠ "java/lang/invoke/MethodHandle" ∧ y_Mo_tryArray.cls ≠ "java/lang/invoke/VarHandle" ∧ (parseMethodDescriptor y_Mo_tryArray.desc).map (fun d => d.parameters.length) = some 1 := by decide +kernel
theorem g_Mo_tryArray : Cond.initialized y_Mo_tryArray.cls ∈ wG := wg_t 6 (by decide +kernel) (by decide +kernel)
theorem s_Mo_tryArray : Cond.instanceMethod y_Mo_tryArray ∈ wG := wg_t 885 (by decide +kernel) (by decide +kernel)
theorem e_Mo_tryArray : Cond.selects "FrameVerifierModel" y_Mo_tryArray y_Mo_tryArray ∈ wG := wg_s (q := (y_Mo_tryArray, 27)) 32 (by decide +kernel) (by decide +kernel)
theorem d_Mo_tryArray_0 : decode b_Mo_tryArray 0 = .ok (.iload_n 1, 1) := by decide +kernel
theorem d_Mo_tryArray_1 : decode b_Mo_tryArray 1 = .ok (.bipush (13), 2) := by decide +kernel
theorem d_Mo_tryArray_3 : decode b_Mo_tryArray 3 = .ok (.if_icmp .ne (11), 3) := by decide +kernel
theorem d_Mo_tryArray_6 : decode b_Mo_tryArray 6 = .ok (.aload_n 0, 1) := by decide +kernel
theorem d_Mo_tryArray_7 : decode b_Mo_tryArray 7 = .ok (.iconst 1, 1) := by decide +kernel
theorem d_Mo_tryArray_8 : decode b_Mo_tryArray 8 = .ok (.invokevirtual 86, 3) := by decide +kernel
theorem d_Mo_tryArray_11 : decode b_Mo_tryArray 11 = .ok (.goto (4), 3) := by decide +kernel
theorem d_Mo_tryArray_14 : decode b_Mo_tryArray 14 = .ok (.iconst 1, 1) := by decide +kernel
theorem d_Mo_tryArray_15 : decode b_Mo_tryArray 15 = .ok (.istore_n 2, 1) := by decide +kernel
theorem d_Mo_tryArray_16 : decode b_Mo_tryArray 16 = .ok (.iload_n 1, 1) := by decide +kernel
theorem d_Mo_tryArray_17 : decode b_Mo_tryArray 17 = .ok (.bipush (14), 2) := by decide +kernel
theorem d_Mo_tryArray_19 : decode b_Mo_tryArray 19 = .ok (.if_icmp .ne (7), 3) := by decide +kernel
theorem d_Mo_tryArray_22 : decode b_Mo_tryArray 22 = .ok (.iconst 1, 1) := by decide +kernel
theorem d_Mo_tryArray_23 : decode b_Mo_tryArray 23 = .ok (.goto (8), 3) := by decide +kernel
theorem d_Mo_tryArray_26 : decode b_Mo_tryArray 26 = .ok (.aload_n 0, 1) := by decide +kernel
theorem d_Mo_tryArray_27 : decode b_Mo_tryArray 27 = .ok (.iconst 1, 1) := by decide +kernel
theorem d_Mo_tryArray_28 : decode b_Mo_tryArray 28 = .ok (.invokevirtual 86, 3) := by decide +kernel
theorem d_Mo_tryArray_31 : decode b_Mo_tryArray 31 = .ok (.istore_n 3, 1) := by decide +kernel
theorem d_Mo_tryArray_32 : decode b_Mo_tryArray 32 = .ok (.aload_n 0, 1) := by decide +kernel
theorem d_Mo_tryArray_33 : decode b_Mo_tryArray 33 = .ok (.iconst 2, 1) := by decide +kernel
theorem d_Mo_tryArray_34 : decode b_Mo_tryArray 34 = .ok (.invokevirtual 86, 3) := by decide +kernel
theorem d_Mo_tryArray_37 : decode b_Mo_tryArray 37 = .ok (.istore 4, 2) := by decide +kernel
theorem d_Mo_tryArray_39 : decode b_Mo_tryArray 39 = .ok (.iload_n 1, 1) := by decide +kernel
theorem d_Mo_tryArray_40 : decode b_Mo_tryArray 40 = .ok (.bipush (13), 2) := by decide +kernel
theorem d_Mo_tryArray_42 : decode b_Mo_tryArray 42 = .ok (.if_icmp .eq (8), 3) := by decide +kernel
theorem d_Mo_tryArray_45 : decode b_Mo_tryArray 45 = .ok (.aload_n 0, 1) := by decide +kernel
theorem d_Mo_tryArray_46 : decode b_Mo_tryArray 46 = .ok (.iconst 1, 1) := by decide +kernel
theorem d_Mo_tryArray_47 : decode b_Mo_tryArray 47 = .ok (.invokevirtual 90, 3) := by decide +kernel
theorem d_Mo_tryArray_50 : decode b_Mo_tryArray 50 = .ok (.return_, 1) := by decide +kernel
def y_Mo_tryPlaces : MethodName := ⟨"FrameVerifierModel", "tryPlaces", "(I)V"⟩
abbrev b_Mo_tryPlaces : ByteArray := prog_11_method_14_code
def rm_Mo_tryPlaces : Room := { frames := 1, cells := 0, slots := 0, locals := 21 }
abbrev w_Mo_tryPlaces : List Cond := Cond.code y_Mo_tryPlaces b_Mo_tryPlaces 4 none :: wG
theorem m_Mo_tryPlaces : Cond.code y_Mo_tryPlaces b_Mo_tryPlaces 4 none ∈ wG := wg_t 890 (by decide +kernel) (by decide +kernel)
theorem q_Mo_tryPlaces : y_Mo_tryPlaces.cls ≠ "java/lang/invoke/MethodHandle" ∧ y_Mo_tryPlaces.cls ≠ "java/lang/invoke/VarHandle" ∧ (parseMethodDescriptor y_Mo_tryPlaces.desc).map (fun d => d.parameters.length) = some 1 := by decide +kernel
theorem g_Mo_tryPlaces : Cond.initialized y_Mo_tryPlaces.cls ∈ wG := wg_t 6 (by decide +kernel) (by decide +kernel)
theorem s_Mo_tryPlaces : Cond.instanceMethod y_Mo_tryPlaces ∈ wG := wg_t 889 (by decide +kernel) (by decide +kernel)
theorem e_Mo_tryPlaces : Cond.selects "FrameVerifierModel" y_Mo_tryPlaces y_Mo_tryPlaces ∈ wG := wg_s (q := (y_Mo_tryPlaces, 27)) 33 (by decide +kernel) (by decide +kernel)
theorem d_Mo_tryPlaces_0 : decode b_Mo_tryPlaces 0 = .ok (.aload_n 0, 1) := by decide +kernel
theorem d_Mo_tryPlaces_1 : decode b_Mo_tryPlaces 1 = .ok (.iconst 3, 1) := by decide +kernel
theorem d_Mo_tryPlaces_2 : decode b_Mo_tryPlaces 2 = .ok (.invokevirtual 86, 3) := by decide +kernel
theorem d_Mo_tryPlaces_5 : decode b_Mo_tryPlaces 5 = .ok (.istore_n 2, 1) := by decide +kernel
theorem d_Mo_tryPlaces_6 : decode b_Mo_tryPlaces 6 = .ok (.iload_n 1, 1) := by decide +kernel
theorem d_Mo_tryPlaces_7 : decode b_Mo_tryPlaces 7 = .ok (.bipush (15), 2) := by decide +kernel
theorem d_Mo_tryPlaces_9 : decode b_Mo_tryPlaces 9 = .ok (.if_icmp .ne (16), 3) := by decide +kernel
theorem d_Mo_tryPlaces_12 : decode b_Mo_tryPlaces 12 = .ok (.aload_n 0, 1) := by decide +kernel
theorem d_Mo_tryPlaces_13 : decode b_Mo_tryPlaces 13 = .ok (.iload_n 2, 1) := by decide +kernel
theorem d_Mo_tryPlaces_14 : decode b_Mo_tryPlaces 14 = .ok (.invokevirtual 90, 3) := by decide +kernel
theorem d_Mo_tryPlaces_17 : decode b_Mo_tryPlaces 17 = .ok (.aload_n 0, 1) := by decide +kernel
theorem d_Mo_tryPlaces_18 : decode b_Mo_tryPlaces 18 = .ok (.iload_n 2, 1) := by decide +kernel
theorem d_Mo_tryPlaces_19 : decode b_Mo_tryPlaces 19 = .ok (.invokevirtual 90, 3) := by decide +kernel
theorem d_Mo_tryPlaces_22 : decode b_Mo_tryPlaces 22 = .ok (.goto (25), 3) := by decide +kernel
theorem d_Mo_tryPlaces_25 : decode b_Mo_tryPlaces 25 = .ok (.iload_n 1, 1) := by decide +kernel
theorem d_Mo_tryPlaces_26 : decode b_Mo_tryPlaces 26 = .ok (.bipush (16), 2) := by decide +kernel
theorem d_Mo_tryPlaces_28 : decode b_Mo_tryPlaces 28 = .ok (.if_icmp .ne (19), 3) := by decide +kernel
theorem d_Mo_tryPlaces_31 : decode b_Mo_tryPlaces 31 = .ok (.aload_n 0, 1) := by decide +kernel
theorem d_Mo_tryPlaces_32 : decode b_Mo_tryPlaces 32 = .ok (.iconst 3, 1) := by decide +kernel
theorem d_Mo_tryPlaces_33 : decode b_Mo_tryPlaces 33 = .ok (.invokevirtual 86, 3) := by decide +kernel
theorem d_Mo_tryPlaces_36 : decode b_Mo_tryPlaces 36 = .ok (.istore_n 3, 1) := by decide +kernel
theorem d_Mo_tryPlaces_37 : decode b_Mo_tryPlaces 37 = .ok (.aload_n 0, 1) := by decide +kernel
theorem d_Mo_tryPlaces_38 : decode b_Mo_tryPlaces 38 = .ok (.iload_n 2, 1) := by decide +kernel
theorem d_Mo_tryPlaces_39 : decode b_Mo_tryPlaces 39 = .ok (.invokevirtual 90, 3) := by decide +kernel
theorem d_Mo_tryPlaces_42 : decode b_Mo_tryPlaces 42 = .ok (.aload_n 0, 1) := by decide +kernel
theorem d_Mo_tryPlaces_43 : decode b_Mo_tryPlaces 43 = .ok (.iload_n 3, 1) := by decide +kernel
theorem d_Mo_tryPlaces_44 : decode b_Mo_tryPlaces 44 = .ok (.invokevirtual 90, 3) := by decide +kernel
theorem d_Mo_tryPlaces_47 : decode b_Mo_tryPlaces 47 = .ok (.return_, 1) := by decide +kernel
def y_Mo_tryCall : MethodName := ⟨"FrameVerifierModel", "tryCall", "(I)V"⟩
abbrev b_Mo_tryCall : ByteArray := prog_11_method_15_code
def rm_Mo_tryCall : Room := { frames := 1, cells := 0, slots := 0, locals := 22 }
abbrev w_Mo_tryCall : List Cond := Cond.code y_Mo_tryCall b_Mo_tryCall 4 none :: wG
theorem m_Mo_tryCall : Cond.code y_Mo_tryCall b_Mo_tryCall 4 none ∈ wG := wg_t 894 (by decide +kernel) (by decide +kernel)
theorem q_Mo_tryCall : y_Mo_tryCall.cls ≠ "java/lang/invoke/MethodHandle" ∧ y_Mo_tryCall.cls ≠ "java/lang/invoke/VarHandle" ∧ (parseMethodDescriptor y_Mo_tryCall.desc).map (fun d => d.parameters.length) = some 1 := by decide +kernel
theorem g_Mo_tryCall : Cond.initialized y_Mo_tryCall.cls ∈ wG := wg_t 6 (by decide +kernel) (by decide +kernel)
theorem s_Mo_tryCall : Cond.instanceMethod y_Mo_tryCall ∈ wG := wg_t 893 (by decide +kernel) (by decide +kernel)
theorem e_Mo_tryCall : Cond.selects "FrameVerifierModel" y_Mo_tryCall y_Mo_tryCall ∈ wG := wg_s (q := (y_Mo_tryCall, 27)) 34 (by decide +kernel) (by decide +kernel)
theorem d_Mo_tryCall_0 : decode b_Mo_tryCall 0 = .ok (.iload_n 1, 1) := by decide +kernel
theorem d_Mo_tryCall_1 : decode b_Mo_tryCall 1 = .ok (.ifCond .lt (17), 3) := by decide +kernel
theorem d_Mo_tryCall_4 : decode b_Mo_tryCall 4 = .ok (.iload_n 1, 1) := by decide +kernel
theorem d_Mo_tryCall_5 : decode b_Mo_tryCall 5 = .ok (.iconst 3, 1) := by decide +kernel
theorem d_Mo_tryCall_6 : decode b_Mo_tryCall 6 = .ok (.if_icmp .gt (12), 3) := by decide +kernel
theorem d_Mo_tryCall_9 : decode b_Mo_tryCall 9 = .ok (.aload_n 0, 1) := by decide +kernel
theorem d_Mo_tryCall_10 : decode b_Mo_tryCall 10 = .ok (.getfield 16, 3) := by decide +kernel
theorem d_Mo_tryCall_13 : decode b_Mo_tryCall 13 = .ok (.iload_n 1, 1) := by decide +kernel
theorem d_Mo_tryCall_14 : decode b_Mo_tryCall 14 = .ok (.baload, 1) := by decide +kernel
theorem d_Mo_tryCall_15 : decode b_Mo_tryCall 15 = .ok (.ifCond .ne (9), 3) := by decide +kernel
theorem d_Mo_tryCall_18 : decode b_Mo_tryCall 18 = .ok (.aload_n 0, 1) := by decide +kernel
theorem d_Mo_tryCall_19 : decode b_Mo_tryCall 19 = .ok (.iconst 1, 1) := by decide +kernel
theorem d_Mo_tryCall_20 : decode b_Mo_tryCall 20 = .ok (.putfield 73, 3) := by decide +kernel
theorem d_Mo_tryCall_23 : decode b_Mo_tryCall 23 = .ok (.return_, 1) := by decide +kernel
theorem d_Mo_tryCall_24 : decode b_Mo_tryCall 24 = .ok (.aload_n 0, 1) := by decide +kernel
theorem d_Mo_tryCall_25 : decode b_Mo_tryCall 25 = .ok (.getfield 23, 3) := by decide +kernel
theorem d_Mo_tryCall_28 : decode b_Mo_tryCall 28 = .ok (.iload_n 1, 1) := by decide +kernel
theorem d_Mo_tryCall_29 : decode b_Mo_tryCall 29 = .ok (.iaload, 1) := by decide +kernel
theorem d_Mo_tryCall_30 : decode b_Mo_tryCall 30 = .ok (.iconst 1, 1) := by decide +kernel
theorem d_Mo_tryCall_31 : decode b_Mo_tryCall 31 = .ok (.isub, 1) := by decide +kernel
theorem d_Mo_tryCall_32 : decode b_Mo_tryCall 32 = .ok (.istore_n 2, 1) := by decide +kernel
theorem d_Mo_tryCall_33 : decode b_Mo_tryCall 33 = .ok (.iload_n 2, 1) := by decide +kernel
theorem d_Mo_tryCall_34 : decode b_Mo_tryCall 34 = .ok (.ifCond .lt (20), 3) := by decide +kernel
theorem d_Mo_tryCall_37 : decode b_Mo_tryCall 37 = .ok (.aload_n 0, 1) := by decide +kernel
theorem d_Mo_tryCall_38 : decode b_Mo_tryCall 38 = .ok (.aload_n 0, 1) := by decide +kernel
theorem d_Mo_tryCall_39 : decode b_Mo_tryCall 39 = .ok (.iload_n 1, 1) := by decide +kernel
theorem d_Mo_tryCall_40 : decode b_Mo_tryCall 40 = .ok (.iload_n 2, 1) := by decide +kernel
theorem d_Mo_tryCall_41 : decode b_Mo_tryCall 41 = .ok (.invokevirtual 110, 3) := by decide +kernel
theorem d_Mo_tryCall_44 : decode b_Mo_tryCall 44 = .ok (.invokevirtual 86, 3) := by decide +kernel
theorem d_Mo_tryCall_47 : decode b_Mo_tryCall 47 = .ok (.istore_n 3, 1) := by decide +kernel
theorem d_Mo_tryCall_48 : decode b_Mo_tryCall 48 = .ok (.iinc 2 (-1), 3) := by decide +kernel
theorem d_Mo_tryCall_51 : decode b_Mo_tryCall 51 = .ok (.goto (-18), 3) := by decide +kernel
theorem d_Mo_tryCall_54 : decode b_Mo_tryCall 54 = .ok (.aload_n 0, 1) := by decide +kernel
theorem d_Mo_tryCall_55 : decode b_Mo_tryCall 55 = .ok (.aload_n 0, 1) := by decide +kernel
theorem d_Mo_tryCall_56 : decode b_Mo_tryCall 56 = .ok (.iload_n 1, 1) := by decide +kernel
theorem d_Mo_tryCall_57 : decode b_Mo_tryCall 57 = .ok (.iconst 3, 1) := by decide +kernel
theorem d_Mo_tryCall_58 : decode b_Mo_tryCall 58 = .ok (.invokevirtual 110, 3) := by decide +kernel
theorem d_Mo_tryCall_61 : decode b_Mo_tryCall 61 = .ok (.invokevirtual 90, 3) := by decide +kernel
theorem d_Mo_tryCall_64 : decode b_Mo_tryCall 64 = .ok (.return_, 1) := by decide +kernel
def y_Mo_tryOut : MethodName := ⟨"FrameVerifierModel", "tryOut", "(II)V"⟩
abbrev b_Mo_tryOut : ByteArray := prog_11_method_10_code
def rm_Mo_tryOut : Room := { frames := 3, cells := 0, slots := 0, locals := 65 }
abbrev w_Mo_tryOut : List Cond := Cond.code y_Mo_tryOut b_Mo_tryOut 7 none :: wG
theorem m_Mo_tryOut : Cond.code y_Mo_tryOut b_Mo_tryOut 7 none ∈ wG := wg_t 862 (by decide +kernel) (by decide +kernel)
theorem q_Mo_tryOut : y_Mo_tryOut.cls ≠ "java/lang/invoke/MethodHandle" ∧ y_Mo_tryOut.cls ≠ "java/lang/invoke/VarHandle" ∧ (parseMethodDescriptor y_Mo_tryOut.desc).map (fun d => d.parameters.length) = some 2 := by decide +kernel
theorem g_Mo_tryOut : Cond.initialized y_Mo_tryOut.cls ∈ wG := wg_t 6 (by decide +kernel) (by decide +kernel)
theorem s_Mo_tryOut : Cond.instanceMethod y_Mo_tryOut ∈ wG := wg_t 861 (by decide +kernel) (by decide +kernel)
theorem e_Mo_tryOut : Cond.selects "FrameVerifierModel" y_Mo_tryOut y_Mo_tryOut ∈ wG := wg_s (q := (y_Mo_tryOut, 27)) 26 (by decide +kernel) (by decide +kernel)
theorem d_Mo_tryOut_0 : decode b_Mo_tryOut 0 = .ok (.aload_n 0, 1) := by decide +kernel
theorem d_Mo_tryOut_1 : decode b_Mo_tryOut 1 = .ok (.getfield 7, 3) := by decide +kernel
theorem d_Mo_tryOut_4 : decode b_Mo_tryOut 4 = .ok (.iload_n 2, 1) := by decide +kernel
theorem d_Mo_tryOut_5 : decode b_Mo_tryOut 5 = .ok (.iaload, 1) := by decide +kernel
theorem d_Mo_tryOut_6 : decode b_Mo_tryOut 6 = .ok (.istore_n 3, 1) := by decide +kernel
theorem d_Mo_tryOut_7 : decode b_Mo_tryOut 7 = .ok (.aload_n 0, 1) := by decide +kernel
theorem d_Mo_tryOut_8 : decode b_Mo_tryOut 8 = .ok (.getfield 13, 3) := by decide +kernel
theorem d_Mo_tryOut_11 : decode b_Mo_tryOut 11 = .ok (.iload_n 2, 1) := by decide +kernel
theorem d_Mo_tryOut_12 : decode b_Mo_tryOut 12 = .ok (.iaload, 1) := by decide +kernel
theorem d_Mo_tryOut_13 : decode b_Mo_tryOut 13 = .ok (.istore 4, 2) := by decide +kernel
theorem d_Mo_tryOut_15 : decode b_Mo_tryOut 15 = .ok (.aload_n 0, 1) := by decide +kernel
theorem d_Mo_tryOut_16 : decode b_Mo_tryOut 16 = .ok (.iconst 0, 1) := by decide +kernel
theorem d_Mo_tryOut_17 : decode b_Mo_tryOut 17 = .ok (.putfield 73, 3) := by decide +kernel
theorem d_Mo_tryOut_20 : decode b_Mo_tryOut 20 = .ok (.aload_n 0, 1) := by decide +kernel
theorem d_Mo_tryOut_21 : decode b_Mo_tryOut 21 = .ok (.iload_n 3, 1) := by decide +kernel
theorem d_Mo_tryOut_22 : decode b_Mo_tryOut 22 = .ok (.bipush (7), 2) := by decide +kernel
theorem d_Mo_tryOut_24 : decode b_Mo_tryOut 24 = .ok (.if_icmp .eq (13), 3) := by decide +kernel
theorem d_Mo_tryOut_27 : decode b_Mo_tryOut 27 = .ok (.iload_n 3, 1) := by decide +kernel
theorem d_Mo_tryOut_28 : decode b_Mo_tryOut 28 = .ok (.bipush (19), 2) := by decide +kernel
theorem d_Mo_tryOut_30 : decode b_Mo_tryOut 30 = .ok (.if_icmp .eq (7), 3) := by decide +kernel
theorem d_Mo_tryOut_33 : decode b_Mo_tryOut 33 = .ok (.iconst 1, 1) := by decide +kernel
theorem d_Mo_tryOut_34 : decode b_Mo_tryOut 34 = .ok (.goto (4), 3) := by decide +kernel
theorem d_Mo_tryOut_37 : decode b_Mo_tryOut 37 = .ok (.iconst 0, 1) := by decide +kernel
theorem d_Mo_tryOut_38 : decode b_Mo_tryOut 38 = .ok (.putfield 83, 3) := by decide +kernel
theorem d_Mo_tryOut_41 : decode b_Mo_tryOut 41 = .ok (.aload_n 0, 1) := by decide +kernel
theorem d_Mo_tryOut_42 : decode b_Mo_tryOut 42 = .ok (.iconst (-1), 1) := by decide +kernel
theorem d_Mo_tryOut_43 : decode b_Mo_tryOut 43 = .ok (.putfield 80, 3) := by decide +kernel
theorem d_Mo_tryOut_46 : decode b_Mo_tryOut 46 = .ok (.iload_n 3, 1) := by decide +kernel
theorem d_Mo_tryOut_47 : decode b_Mo_tryOut 47 = .ok (.iconst 1, 1) := by decide +kernel
theorem d_Mo_tryOut_48 : decode b_Mo_tryOut 48 = .ok (.if_icmp .lt (30), 3) := by decide +kernel
theorem d_Mo_tryOut_51 : decode b_Mo_tryOut 51 = .ok (.iload_n 3, 1) := by decide +kernel
theorem d_Mo_tryOut_52 : decode b_Mo_tryOut 52 = .ok (.iconst 4, 1) := by decide +kernel
theorem d_Mo_tryOut_53 : decode b_Mo_tryOut 53 = .ok (.if_icmp .gt (25), 3) := by decide +kernel
theorem d_Mo_tryOut_56 : decode b_Mo_tryOut 56 = .ok (.aload_n 0, 1) := by decide +kernel
theorem d_Mo_tryOut_57 : decode b_Mo_tryOut 57 = .ok (.iconst 1, 1) := by decide +kernel
theorem d_Mo_tryOut_58 : decode b_Mo_tryOut 58 = .ok (.invokevirtual 86, 3) := by decide +kernel
theorem d_Mo_tryOut_61 : decode b_Mo_tryOut 61 = .ok (.istore 5, 2) := by decide +kernel
theorem d_Mo_tryOut_63 : decode b_Mo_tryOut 63 = .ok (.aload_n 0, 1) := by decide +kernel
theorem d_Mo_tryOut_64 : decode b_Mo_tryOut 64 = .ok (.iconst 1, 1) := by decide +kernel
theorem d_Mo_tryOut_65 : decode b_Mo_tryOut 65 = .ok (.invokevirtual 86, 3) := by decide +kernel
theorem d_Mo_tryOut_68 : decode b_Mo_tryOut 68 = .ok (.istore 6, 2) := by decide +kernel
theorem d_Mo_tryOut_70 : decode b_Mo_tryOut 70 = .ok (.aload_n 0, 1) := by decide +kernel
theorem d_Mo_tryOut_71 : decode b_Mo_tryOut 71 = .ok (.iconst 1, 1) := by decide +kernel
theorem d_Mo_tryOut_72 : decode b_Mo_tryOut 72 = .ok (.invokevirtual 90, 3) := by decide +kernel
theorem d_Mo_tryOut_75 : decode b_Mo_tryOut 75 = .ok (.goto (139), 3) := by decide +kernel
theorem d_Mo_tryOut_78 : decode b_Mo_tryOut 78 = .ok (.iload_n 3, 1) := by decide +kernel
theorem d_Mo_tryOut_79 : decode b_Mo_tryOut 79 = .ok (.ifCond .ne (11), 3) := by decide +kernel
theorem d_Mo_tryOut_82 : decode b_Mo_tryOut 82 = .ok (.aload_n 0, 1) := by decide +kernel
theorem d_Mo_tryOut_83 : decode b_Mo_tryOut 83 = .ok (.iconst 1, 1) := by decide +kernel
theorem d_Mo_tryOut_84 : decode b_Mo_tryOut 84 = .ok (.invokevirtual 90, 3) := by decide +kernel
theorem d_Mo_tryOut_87 : decode b_Mo_tryOut 87 = .ok (.goto (127), 3) := by decide +kernel
theorem d_Mo_tryOut_90 : decode b_Mo_tryOut 90 = .ok (.iload_n 3, 1) := by decide +kernel
theorem d_Mo_tryOut_91 : decode b_Mo_tryOut 91 = .ok (.iconst 5, 1) := by decide +kernel
theorem d_Mo_tryOut_92 : decode b_Mo_tryOut 92 = .ok (.if_icmp .eq (9), 3) := by decide +kernel
theorem d_Mo_tryOut_95 : decode b_Mo_tryOut 95 = .ok (.iload_n 3, 1) := by decide +kernel
theorem d_Mo_tryOut_96 : decode b_Mo_tryOut 96 = .ok (.bipush (6), 2) := by decide +kernel
theorem d_Mo_tryOut_98 : decode b_Mo_tryOut 98 = .ok (.if_icmp .ne (13), 3) := by decide +kernel
theorem d_Mo_tryOut_101 : decode b_Mo_tryOut 101 = .ok (.aload_n 0, 1) := by decide +kernel
theorem d_Mo_tryOut_102 : decode b_Mo_tryOut 102 = .ok (.iload_n 3, 1) := by decide +kernel
theorem d_Mo_tryOut_103 : decode b_Mo_tryOut 103 = .ok (.iload 4, 2) := by decide +kernel
theorem d_Mo_tryOut_105 : decode b_Mo_tryOut 105 = .ok (.invokevirtual 94, 3) := by decide +kernel
theorem d_Mo_tryOut_108 : decode b_Mo_tryOut 108 = .ok (.goto (106), 3) := by decide +kernel
theorem d_Mo_tryOut_111 : decode b_Mo_tryOut 111 = .ok (.iload_n 3, 1) := by decide +kernel
theorem d_Mo_tryOut_112 : decode b_Mo_tryOut 112 = .ok (.bipush (7), 2) := by decide +kernel
theorem d_Mo_tryOut_114 : decode b_Mo_tryOut 114 = .ok (.if_icmp .lt (19), 3) := by decide +kernel
theorem d_Mo_tryOut_117 : decode b_Mo_tryOut 117 = .ok (.iload_n 3, 1) := by decide +kernel
theorem d_Mo_tryOut_118 : decode b_Mo_tryOut 118 = .ok (.bipush (11), 2) := by decide +kernel
theorem d_Mo_tryOut_120 : decode b_Mo_tryOut 120 = .ok (.if_icmp .gt (13), 3) := by decide +kernel
theorem d_Mo_tryOut_123 : decode b_Mo_tryOut 123 = .ok (.aload_n 0, 1) := by decide +kernel
theorem d_Mo_tryOut_124 : decode b_Mo_tryOut 124 = .ok (.iload_n 3, 1) := by decide +kernel
theorem d_Mo_tryOut_125 : decode b_Mo_tryOut 125 = .ok (.iload 4, 2) := by decide +kernel
theorem d_Mo_tryOut_127 : decode b_Mo_tryOut 127 = .ok (.invokevirtual 98, 3) := by decide +kernel
theorem d_Mo_tryOut_130 : decode b_Mo_tryOut 130 = .ok (.goto (84), 3) := by decide +kernel
theorem d_Mo_tryOut_133 : decode b_Mo_tryOut 133 = .ok (.iload_n 3, 1) := by decide +kernel
theorem d_Mo_tryOut_134 : decode b_Mo_tryOut 134 = .ok (.bipush (12), 2) := by decide +kernel
theorem d_Mo_tryOut_136 : decode b_Mo_tryOut 136 = .ok (.if_icmp .lt (17), 3) := by decide +kernel
theorem d_Mo_tryOut_139 : decode b_Mo_tryOut 139 = .ok (.iload_n 3, 1) := by decide +kernel
theorem d_Mo_tryOut_140 : decode b_Mo_tryOut 140 = .ok (.bipush (14), 2) := by decide +kernel
theorem d_Mo_tryOut_142 : decode b_Mo_tryOut 142 = .ok (.if_icmp .gt (11), 3) := by decide +kernel
theorem d_Mo_tryOut_145 : decode b_Mo_tryOut 145 = .ok (.aload_n 0, 1) := by decide +kernel
theorem d_Mo_tryOut_146 : decode b_Mo_tryOut 146 = .ok (.iload_n 3, 1) := by decide +kernel
theorem d_Mo_tryOut_147 : decode b_Mo_tryOut 147 = .ok (.invokevirtual 101, 3) := by decide +kernel
theorem d_Mo_tryOut_150 : decode b_Mo_tryOut 150 = .ok (.goto (64), 3) := by decide +kernel
theorem d_Mo_tryOut_153 : decode b_Mo_tryOut 153 = .ok (.iload_n 3, 1) := by decide +kernel
theorem d_Mo_tryOut_154 : decode b_Mo_tryOut 154 = .ok (.bipush (15), 2) := by decide +kernel
theorem d_Mo_tryOut_156 : decode b_Mo_tryOut 156 = .ok (.if_icmp .lt (17), 3) := by decide +kernel
theorem d_Mo_tryOut_159 : decode b_Mo_tryOut 159 = .ok (.iload_n 3, 1) := by decide +kernel
theorem d_Mo_tryOut_160 : decode b_Mo_tryOut 160 = .ok (.bipush (17), 2) := by decide +kernel
theorem d_Mo_tryOut_162 : decode b_Mo_tryOut 162 = .ok (.if_icmp .gt (11), 3) := by decide +kernel
theorem d_Mo_tryOut_165 : decode b_Mo_tryOut 165 = .ok (.aload_n 0, 1) := by decide +kernel
theorem d_Mo_tryOut_166 : decode b_Mo_tryOut 166 = .ok (.iload_n 3, 1) := by decide +kernel
theorem d_Mo_tryOut_167 : decode b_Mo_tryOut 167 = .ok (.invokevirtual 104, 3) := by decide +kernel
theorem d_Mo_tryOut_170 : decode b_Mo_tryOut 170 = .ok (.goto (44), 3) := by decide +kernel
theorem d_Mo_tryOut_173 : decode b_Mo_tryOut 173 = .ok (.iload_n 3, 1) := by decide +kernel
theorem d_Mo_tryOut_174 : decode b_Mo_tryOut 174 = .ok (.bipush (18), 2) := by decide +kernel
theorem d_Mo_tryOut_176 : decode b_Mo_tryOut 176 = .ok (.if_icmp .ne (12), 3) := by decide +kernel
theorem d_Mo_tryOut_179 : decode b_Mo_tryOut 179 = .ok (.aload_n 0, 1) := by decide +kernel
theorem d_Mo_tryOut_180 : decode b_Mo_tryOut 180 = .ok (.iload 4, 2) := by decide +kernel
theorem d_Mo_tryOut_182 : decode b_Mo_tryOut 182 = .ok (.invokevirtual 107, 3) := by decide +kernel
theorem d_Mo_tryOut_185 : decode b_Mo_tryOut 185 = .ok (.goto (29), 3) := by decide +kernel
theorem d_Mo_tryOut_188 : decode b_Mo_tryOut 188 = .ok (.iload_n 3, 1) := by decide +kernel
theorem d_Mo_tryOut_189 : decode b_Mo_tryOut 189 = .ok (.bipush (19), 2) := by decide +kernel
theorem d_Mo_tryOut_191 : decode b_Mo_tryOut 191 = .ok (.if_icmp .ne (18), 3) := by decide +kernel
theorem d_Mo_tryOut_194 : decode b_Mo_tryOut 194 = .ok (.aload_n 0, 1) := by decide +kernel
theorem d_Mo_tryOut_195 : decode b_Mo_tryOut 195 = .ok (.aload_n 0, 1) := by decide +kernel
theorem d_Mo_tryOut_196 : decode b_Mo_tryOut 196 = .ok (.iload_n 1, 1) := by decide +kernel
theorem d_Mo_tryOut_197 : decode b_Mo_tryOut 197 = .ok (.iconst 3, 1) := by decide +kernel
theorem d_Mo_tryOut_198 : decode b_Mo_tryOut 198 = .ok (.invokevirtual 110, 3) := by decide +kernel
theorem d_Mo_tryOut_201 : decode b_Mo_tryOut 201 = .ok (.invokevirtual 86, 3) := by decide +kernel
theorem d_Mo_tryOut_204 : decode b_Mo_tryOut 204 = .ok (.istore 5, 2) := by decide +kernel
theorem d_Mo_tryOut_206 : decode b_Mo_tryOut 206 = .ok (.goto (8), 3) := by decide +kernel
theorem d_Mo_tryOut_209 : decode b_Mo_tryOut 209 = .ok (.aload_n 0, 1) := by decide +kernel
theorem d_Mo_tryOut_210 : decode b_Mo_tryOut 210 = .ok (.iconst 1, 1) := by decide +kernel
theorem d_Mo_tryOut_211 : decode b_Mo_tryOut 211 = .ok (.putfield 73, 3) := by decide +kernel
theorem d_Mo_tryOut_214 : decode b_Mo_tryOut 214 = .ok (.aload_n 0, 1) := by decide +kernel
theorem d_Mo_tryOut_215 : decode b_Mo_tryOut 215 = .ok (.aload_n 0, 1) := by decide +kernel
theorem d_Mo_tryOut_216 : decode b_Mo_tryOut 216 = .ok (.getfield 73, 3) := by decide +kernel
theorem d_Mo_tryOut_219 : decode b_Mo_tryOut 219 = .ok (.ifCond .ne (20), 3) := by decide +kernel
theorem d_Mo_tryOut_222 : decode b_Mo_tryOut 222 = .ok (.aload_n 0, 1) := by decide +kernel
theorem d_Mo_tryOut_223 : decode b_Mo_tryOut 223 = .ok (.getfield 83, 3) := by decide +kernel
theorem d_Mo_tryOut_226 : decode b_Mo_tryOut 226 = .ok (.ifCond .eq (17), 3) := by decide +kernel
theorem d_Mo_tryOut_229 : decode b_Mo_tryOut 229 = .ok (.aload_n 0, 1) := by decide +kernel
theorem d_Mo_tryOut_230 : decode b_Mo_tryOut 230 = .ok (.iload_n 2, 1) := by decide +kernel
theorem d_Mo_tryOut_231 : decode b_Mo_tryOut 231 = .ok (.iconst 1, 1) := by decide +kernel
theorem d_Mo_tryOut_232 : decode b_Mo_tryOut 232 = .ok (.iadd, 1) := by decide +kernel
theorem d_Mo_tryOut_233 : decode b_Mo_tryOut 233 = .ok (.invokevirtual 76, 3) := by decide +kernel
theorem d_Mo_tryOut_236 : decode b_Mo_tryOut 236 = .ok (.ifCond .ne (7), 3) := by decide +kernel
theorem d_Mo_tryOut_239 : decode b_Mo_tryOut 239 = .ok (.iconst 1, 1) := by decide +kernel
theorem d_Mo_tryOut_240 : decode b_Mo_tryOut 240 = .ok (.goto (4), 3) := by decide +kernel
theorem d_Mo_tryOut_243 : decode b_Mo_tryOut 243 = .ok (.iconst 0, 1) := by decide +kernel
theorem d_Mo_tryOut_244 : decode b_Mo_tryOut 244 = .ok (.putfield 73, 3) := by decide +kernel
theorem d_Mo_tryOut_247 : decode b_Mo_tryOut 247 = .ok (.return_, 1) := by decide +kernel
def y_Mo_meet : MethodName := ⟨"FrameVerifierModel", "meet", "(II)V"⟩
abbrev b_Mo_meet : ByteArray := prog_11_method_16_code
def rm_Mo_meet : Room := { frames := 0, cells := 0, slots := 0, locals := 0 }
abbrev w_Mo_meet : List Cond := Cond.code y_Mo_meet b_Mo_meet 9 none :: wG
theorem m_Mo_meet : Cond.code y_Mo_meet b_Mo_meet 9 none ∈ wG := wg_t 854 (by decide +kernel) (by decide +kernel)
theorem q_Mo_meet : y_Mo_meet.cls ≠ "java/lang/invoke/MethodHandle" ∧ y_Mo_meet.cls ≠ "java/lang/invoke/VarHandle" ∧ (parseMethodDescriptor y_Mo_meet.desc).map (fun d => d.parameters.length) = some 2 := by decide +kernel
theorem g_Mo_meet : Cond.initialized y_Mo_meet.cls ∈ wG := wg_t 6 (by decide +kernel) (by decide +kernel)
theorem s_Mo_meet : Cond.instanceMethod y_Mo_meet ∈ wG := wg_t 853 (by decide +kernel) (by decide +kernel)
theorem e_Mo_meet : Cond.selects "FrameVerifierModel" y_Mo_meet y_Mo_meet ∈ wG := wg_s (q := (y_Mo_meet, 27)) 24 (by decide +kernel) (by decide +kernel)
theorem d_Mo_meet_0 : decode b_Mo_meet 0 = .ok (.bipush (100), 2) := by decide +kernel
theorem d_Mo_meet_2 : decode b_Mo_meet 2 = .ok (.iload_n 1, 1) := by decide +kernel
theorem d_Mo_meet_3 : decode b_Mo_meet 3 = .ok (.imul, 1) := by decide +kernel
theorem d_Mo_meet_4 : decode b_Mo_meet 4 = .ok (.iload_n 2, 1) := by decide +kernel
theorem d_Mo_meet_5 : decode b_Mo_meet 5 = .ok (.iadd, 1) := by decide +kernel
theorem d_Mo_meet_6 : decode b_Mo_meet 6 = .ok (.istore_n 3, 1) := by decide +kernel
theorem d_Mo_meet_7 : decode b_Mo_meet 7 = .ok (.aload_n 0, 1) := by decide +kernel
theorem d_Mo_meet_8 : decode b_Mo_meet 8 = .ok (.getfield 29, 3) := by decide +kernel
theorem d_Mo_meet_11 : decode b_Mo_meet 11 = .ok (.iload_n 3, 1) := by decide +kernel
theorem d_Mo_meet_12 : decode b_Mo_meet 12 = .ok (.iaload, 1) := by decide +kernel
theorem d_Mo_meet_13 : decode b_Mo_meet 13 = .ok (.bipush (-2), 2) := by decide +kernel
theorem d_Mo_meet_15 : decode b_Mo_meet 15 = .ok (.if_icmp .ne (4), 3) := by decide +kernel
theorem d_Mo_meet_18 : decode b_Mo_meet 18 = .ok (.return_, 1) := by decide +kernel
theorem d_Mo_meet_19 : decode b_Mo_meet 19 = .ok (.aload_n 0, 1) := by decide +kernel
theorem d_Mo_meet_20 : decode b_Mo_meet 20 = .ok (.getfield 29, 3) := by decide +kernel
theorem d_Mo_meet_23 : decode b_Mo_meet 23 = .ok (.iload_n 3, 1) := by decide +kernel
theorem d_Mo_meet_24 : decode b_Mo_meet 24 = .ok (.iaload, 1) := by decide +kernel
theorem d_Mo_meet_25 : decode b_Mo_meet 25 = .ok (.aload_n 0, 1) := by decide +kernel
theorem d_Mo_meet_26 : decode b_Mo_meet 26 = .ok (.getfield 70, 3) := by decide +kernel
theorem d_Mo_meet_29 : decode b_Mo_meet 29 = .ok (.if_icmp .eq (7), 3) := by decide +kernel
theorem d_Mo_meet_32 : decode b_Mo_meet 32 = .ok (.iconst 1, 1) := by decide +kernel
theorem d_Mo_meet_33 : decode b_Mo_meet 33 = .ok (.goto (4), 3) := by decide +kernel
theorem d_Mo_meet_36 : decode b_Mo_meet 36 = .ok (.iconst 0, 1) := by decide +kernel
theorem d_Mo_meet_37 : decode b_Mo_meet 37 = .ok (.istore 4, 2) := by decide +kernel
theorem d_Mo_meet_39 : decode b_Mo_meet 39 = .ok (.aload_n 0, 1) := by decide +kernel
theorem d_Mo_meet_40 : decode b_Mo_meet 40 = .ok (.getfield 29, 3) := by decide +kernel
theorem d_Mo_meet_43 : decode b_Mo_meet 43 = .ok (.iload_n 3, 1) := by decide +kernel
theorem d_Mo_meet_44 : decode b_Mo_meet 44 = .ok (.iaload, 1) := by decide +kernel
theorem d_Mo_meet_45 : decode b_Mo_meet 45 = .ok (.iconst (-1), 1) := by decide +kernel
theorem d_Mo_meet_46 : decode b_Mo_meet 46 = .ok (.if_icmp .eq (19), 3) := by decide +kernel
theorem d_Mo_meet_49 : decode b_Mo_meet 49 = .ok (.iload 4, 2) := by decide +kernel
theorem d_Mo_meet_51 : decode b_Mo_meet 51 = .ok (.ifCond .eq (14), 3) := by decide +kernel
theorem d_Mo_meet_54 : decode b_Mo_meet 54 = .ok (.aload_n 0, 1) := by decide +kernel
theorem d_Mo_meet_55 : decode b_Mo_meet 55 = .ok (.getfield 29, 3) := by decide +kernel
theorem d_Mo_meet_58 : decode b_Mo_meet 58 = .ok (.iload_n 3, 1) := by decide +kernel
theorem d_Mo_meet_59 : decode b_Mo_meet 59 = .ok (.bipush (-2), 2) := by decide +kernel
theorem d_Mo_meet_61 : decode b_Mo_meet 61 = .ok (.iastore, 1) := by decide +kernel
theorem d_Mo_meet_62 : decode b_Mo_meet 62 = .ok (.goto (128), 3) := by decide +kernel
theorem d_Mo_meet_65 : decode b_Mo_meet 65 = .ok (.aload_n 0, 1) := by decide +kernel
theorem d_Mo_meet_66 : decode b_Mo_meet 66 = .ok (.getfield 29, 3) := by decide +kernel
theorem d_Mo_meet_69 : decode b_Mo_meet 69 = .ok (.iload_n 3, 1) := by decide +kernel
theorem d_Mo_meet_70 : decode b_Mo_meet 70 = .ok (.iaload, 1) := by decide +kernel
theorem d_Mo_meet_71 : decode b_Mo_meet 71 = .ok (.iconst (-1), 1) := by decide +kernel
theorem d_Mo_meet_72 : decode b_Mo_meet 72 = .ok (.if_icmp .ne (7), 3) := by decide +kernel
theorem d_Mo_meet_75 : decode b_Mo_meet 75 = .ok (.iconst 1, 1) := by decide +kernel
theorem d_Mo_meet_76 : decode b_Mo_meet 76 = .ok (.goto (4), 3) := by decide +kernel
theorem d_Mo_meet_79 : decode b_Mo_meet 79 = .ok (.iconst 0, 1) := by decide +kernel
theorem d_Mo_meet_80 : decode b_Mo_meet 80 = .ok (.istore 5, 2) := by decide +kernel
theorem d_Mo_meet_82 : decode b_Mo_meet 82 = .ok (.aload_n 0, 1) := by decide +kernel
theorem d_Mo_meet_83 : decode b_Mo_meet 83 = .ok (.getfield 29, 3) := by decide +kernel
theorem d_Mo_meet_86 : decode b_Mo_meet 86 = .ok (.iload_n 3, 1) := by decide +kernel
theorem d_Mo_meet_87 : decode b_Mo_meet 87 = .ok (.aload_n 0, 1) := by decide +kernel
theorem d_Mo_meet_88 : decode b_Mo_meet 88 = .ok (.getfield 70, 3) := by decide +kernel
theorem d_Mo_meet_91 : decode b_Mo_meet 91 = .ok (.iastore, 1) := by decide +kernel
theorem d_Mo_meet_92 : decode b_Mo_meet 92 = .ok (.iconst 0, 1) := by decide +kernel
theorem d_Mo_meet_93 : decode b_Mo_meet 93 = .ok (.istore 6, 2) := by decide +kernel
theorem d_Mo_meet_95 : decode b_Mo_meet 95 = .ok (.iload 6, 2) := by decide +kernel
theorem d_Mo_meet_97 : decode b_Mo_meet 97 = .ok (.bipush (6), 2) := by decide +kernel
theorem d_Mo_meet_99 : decode b_Mo_meet 99 = .ok (.aload_n 0, 1) := by decide +kernel
theorem d_Mo_meet_100 : decode b_Mo_meet 100 = .ok (.getfield 70, 3) := by decide +kernel
theorem d_Mo_meet_103 : decode b_Mo_meet 103 = .ok (.iadd, 1) := by decide +kernel
theorem d_Mo_meet_104 : decode b_Mo_meet 104 = .ok (.if_icmp .ge (86), 3) := by decide +kernel
theorem d_Mo_meet_107 : decode b_Mo_meet 107 = .ok (.aload_n 0, 1) := by decide +kernel
theorem d_Mo_meet_108 : decode b_Mo_meet 108 = .ok (.getfield 32, 3) := by decide +kernel
theorem d_Mo_meet_111 : decode b_Mo_meet 111 = .ok (.bipush (12), 2) := by decide +kernel
theorem d_Mo_meet_113 : decode b_Mo_meet 113 = .ok (.iload_n 3, 1) := by decide +kernel
theorem d_Mo_meet_114 : decode b_Mo_meet 114 = .ok (.imul, 1) := by decide +kernel
theorem d_Mo_meet_115 : decode b_Mo_meet 115 = .ok (.iload 6, 2) := by decide +kernel
theorem d_Mo_meet_117 : decode b_Mo_meet 117 = .ok (.iadd, 1) := by decide +kernel
theorem d_Mo_meet_118 : decode b_Mo_meet 118 = .ok (.iaload, 1) := by decide +kernel
theorem d_Mo_meet_119 : decode b_Mo_meet 119 = .ok (.istore 7, 2) := by decide +kernel
theorem d_Mo_meet_121 : decode b_Mo_meet 121 = .ok (.iload 5, 2) := by decide +kernel
theorem d_Mo_meet_123 : decode b_Mo_meet 123 = .ok (.ifCond .ne (15), 3) := by decide +kernel
theorem d_Mo_meet_126 : decode b_Mo_meet 126 = .ok (.iload 7, 2) := by decide +kernel
theorem d_Mo_meet_128 : decode b_Mo_meet 128 = .ok (.aload_n 0, 1) := by decide +kernel
theorem d_Mo_meet_129 : decode b_Mo_meet 129 = .ok (.getfield 38, 3) := by decide +kernel
theorem d_Mo_meet_132 : decode b_Mo_meet 132 = .ok (.iload 6, 2) := by decide +kernel
theorem d_Mo_meet_134 : decode b_Mo_meet 134 = .ok (.iaload, 1) := by decide +kernel
theorem d_Mo_meet_135 : decode b_Mo_meet 135 = .ok (.if_icmp .ne (13), 3) := by decide +kernel
theorem d_Mo_meet_138 : decode b_Mo_meet 138 = .ok (.aload_n 0, 1) := by decide +kernel
theorem d_Mo_meet_139 : decode b_Mo_meet 139 = .ok (.getfield 38, 3) := by decide +kernel
theorem d_Mo_meet_142 : decode b_Mo_meet 142 = .ok (.iload 6, 2) := by decide +kernel
theorem d_Mo_meet_144 : decode b_Mo_meet 144 = .ok (.iaload, 1) := by decide +kernel
theorem d_Mo_meet_145 : decode b_Mo_meet 145 = .ok (.goto (4), 3) := by decide +kernel
theorem d_Mo_meet_148 : decode b_Mo_meet 148 = .ok (.iconst 3, 1) := by decide +kernel
theorem d_Mo_meet_149 : decode b_Mo_meet 149 = .ok (.istore 8, 2) := by decide +kernel
theorem d_Mo_meet_151 : decode b_Mo_meet 151 = .ok (.iload 4, 2) := by decide +kernel
theorem d_Mo_meet_153 : decode b_Mo_meet 153 = .ok (.ifCond .ne (10), 3) := by decide +kernel
theorem d_Mo_meet_156 : decode b_Mo_meet 156 = .ok (.iload 8, 2) := by decide +kernel
theorem d_Mo_meet_158 : decode b_Mo_meet 158 = .ok (.iload 7, 2) := by decide +kernel
theorem d_Mo_meet_160 : decode b_Mo_meet 160 = .ok (.if_icmp .eq (7), 3) := by decide +kernel
theorem d_Mo_meet_163 : decode b_Mo_meet 163 = .ok (.iconst 1, 1) := by decide +kernel
theorem d_Mo_meet_164 : decode b_Mo_meet 164 = .ok (.goto (4), 3) := by decide +kernel
theorem d_Mo_meet_167 : decode b_Mo_meet 167 = .ok (.iconst 0, 1) := by decide +kernel
theorem d_Mo_meet_168 : decode b_Mo_meet 168 = .ok (.istore 4, 2) := by decide +kernel
theorem d_Mo_meet_170 : decode b_Mo_meet 170 = .ok (.aload_n 0, 1) := by decide +kernel
theorem d_Mo_meet_171 : decode b_Mo_meet 171 = .ok (.getfield 32, 3) := by decide +kernel
theorem d_Mo_meet_174 : decode b_Mo_meet 174 = .ok (.bipush (12), 2) := by decide +kernel
theorem d_Mo_meet_176 : decode b_Mo_meet 176 = .ok (.iload_n 3, 1) := by decide +kernel
theorem d_Mo_meet_177 : decode b_Mo_meet 177 = .ok (.imul, 1) := by decide +kernel
theorem d_Mo_meet_178 : decode b_Mo_meet 178 = .ok (.iload 6, 2) := by decide +kernel
theorem d_Mo_meet_180 : decode b_Mo_meet 180 = .ok (.iadd, 1) := by decide +kernel
theorem d_Mo_meet_181 : decode b_Mo_meet 181 = .ok (.iload 8, 2) := by decide +kernel
theorem d_Mo_meet_183 : decode b_Mo_meet 183 = .ok (.iastore, 1) := by decide +kernel
theorem d_Mo_meet_184 : decode b_Mo_meet 184 = .ok (.iinc 6 (1), 3) := by decide +kernel
theorem d_Mo_meet_187 : decode b_Mo_meet 187 = .ok (.goto (-92), 3) := by decide +kernel
theorem d_Mo_meet_190 : decode b_Mo_meet 190 = .ok (.aload_n 0, 1) := by decide +kernel
theorem d_Mo_meet_191 : decode b_Mo_meet 191 = .ok (.getfield 35, 3) := by decide +kernel
theorem d_Mo_meet_194 : decode b_Mo_meet 194 = .ok (.iload_n 3, 1) := by decide +kernel
theorem d_Mo_meet_195 : decode b_Mo_meet 195 = .ok (.aload_n 0, 1) := by decide +kernel
theorem d_Mo_meet_196 : decode b_Mo_meet 196 = .ok (.getfield 35, 3) := by decide +kernel
theorem d_Mo_meet_199 : decode b_Mo_meet 199 = .ok (.iload_n 3, 1) := by decide +kernel
theorem d_Mo_meet_200 : decode b_Mo_meet 200 = .ok (.baload, 1) := by decide +kernel
theorem d_Mo_meet_201 : decode b_Mo_meet 201 = .ok (.ifCond .ne (8), 3) := by decide +kernel
theorem d_Mo_meet_204 : decode b_Mo_meet 204 = .ok (.iload 4, 2) := by decide +kernel
theorem d_Mo_meet_206 : decode b_Mo_meet 206 = .ok (.ifCond .eq (7), 3) := by decide +kernel
theorem d_Mo_meet_209 : decode b_Mo_meet 209 = .ok (.iconst 1, 1) := by decide +kernel
theorem d_Mo_meet_210 : decode b_Mo_meet 210 = .ok (.goto (4), 3) := by decide +kernel
theorem d_Mo_meet_213 : decode b_Mo_meet 213 = .ok (.iconst 0, 1) := by decide +kernel
theorem d_Mo_meet_214 : decode b_Mo_meet 214 = .ok (.bastore, 1) := by decide +kernel
theorem d_Mo_meet_215 : decode b_Mo_meet 215 = .ok (.return_, 1) := by decide +kernel
def y_Mo_fits : MethodName := ⟨"FrameVerifierModel", "fits", "(II)Z"⟩
abbrev b_Mo_fits : ByteArray := prog_11_method_17_code
def rm_Mo_fits : Room := { frames := 4, cells := 0, slots := 0, locals := 91 }
abbrev w_Mo_fits : List Cond := Cond.code y_Mo_fits b_Mo_fits 5 (some .boolean) :: wG
theorem m_Mo_fits : Cond.code y_Mo_fits b_Mo_fits 5 (some .boolean) ∈ wG := wg_t 858 (by decide +kernel) (by decide +kernel)
theorem q_Mo_fits : y_Mo_fits.cls ≠ "java/lang/invoke/MethodHandle" ∧ y_Mo_fits.cls ≠ "java/lang/invoke/VarHandle" ∧ (parseMethodDescriptor y_Mo_fits.desc).map (fun d => d.parameters.length) = some 2 := by decide +kernel
theorem g_Mo_fits : Cond.initialized y_Mo_fits.cls ∈ wG := wg_t 6 (by decide +kernel) (by decide +kernel)
theorem s_Mo_fits : Cond.instanceMethod y_Mo_fits ∈ wG := wg_t 857 (by decide +kernel) (by decide +kernel)
theorem e_Mo_fits : Cond.selects "FrameVerifierModel" y_Mo_fits y_Mo_fits ∈ wG := wg_s (q := (y_Mo_fits, 27)) 25 (by decide +kernel) (by decide +kernel)
theorem d_Mo_fits_0 : decode b_Mo_fits 0 = .ok (.bipush (100), 2) := by decide +kernel
theorem d_Mo_fits_2 : decode b_Mo_fits 2 = .ok (.iload_n 1, 1) := by decide +kernel
theorem d_Mo_fits_3 : decode b_Mo_fits 3 = .ok (.imul, 1) := by decide +kernel
theorem d_Mo_fits_4 : decode b_Mo_fits 4 = .ok (.iload_n 2, 1) := by decide +kernel
theorem d_Mo_fits_5 : decode b_Mo_fits 5 = .ok (.iadd, 1) := by decide +kernel
theorem d_Mo_fits_6 : decode b_Mo_fits 6 = .ok (.istore_n 3, 1) := by decide +kernel
theorem d_Mo_fits_7 : decode b_Mo_fits 7 = .ok (.aload_n 0, 1) := by decide +kernel
theorem d_Mo_fits_8 : decode b_Mo_fits 8 = .ok (.getfield 29, 3) := by decide +kernel
theorem d_Mo_fits_11 : decode b_Mo_fits 11 = .ok (.iload_n 3, 1) := by decide +kernel
theorem d_Mo_fits_12 : decode b_Mo_fits 12 = .ok (.iaload, 1) := by decide +kernel
theorem d_Mo_fits_13 : decode b_Mo_fits 13 = .ok (.ifCond .ge (5), 3) := by decide +kernel
theorem d_Mo_fits_16 : decode b_Mo_fits 16 = .ok (.iconst 0, 1) := by decide +kernel
theorem d_Mo_fits_17 : decode b_Mo_fits 17 = .ok (.ireturn, 1) := by decide +kernel
theorem d_Mo_fits_18 : decode b_Mo_fits 18 = .ok (.aload_n 0, 1) := by decide +kernel
theorem d_Mo_fits_19 : decode b_Mo_fits 19 = .ok (.aload_n 0, 1) := by decide +kernel
theorem d_Mo_fits_20 : decode b_Mo_fits 20 = .ok (.getfield 29, 3) := by decide +kernel
theorem d_Mo_fits_23 : decode b_Mo_fits 23 = .ok (.iload_n 3, 1) := by decide +kernel
theorem d_Mo_fits_24 : decode b_Mo_fits 24 = .ok (.iaload, 1) := by decide +kernel
theorem d_Mo_fits_25 : decode b_Mo_fits 25 = .ok (.putfield 70, 3) := by decide +kernel
theorem d_Mo_fits_28 : decode b_Mo_fits 28 = .ok (.iconst 0, 1) := by decide +kernel
theorem d_Mo_fits_29 : decode b_Mo_fits 29 = .ok (.istore 4, 2) := by decide +kernel
theorem d_Mo_fits_31 : decode b_Mo_fits 31 = .ok (.iload 4, 2) := by decide +kernel
theorem d_Mo_fits_33 : decode b_Mo_fits 33 = .ok (.bipush (12), 2) := by decide +kernel
theorem d_Mo_fits_35 : decode b_Mo_fits 35 = .ok (.if_icmp .ge (28), 3) := by decide +kernel
theorem d_Mo_fits_38 : decode b_Mo_fits 38 = .ok (.aload_n 0, 1) := by decide +kernel
theorem d_Mo_fits_39 : decode b_Mo_fits 39 = .ok (.getfield 38, 3) := by decide +kernel
theorem d_Mo_fits_42 : decode b_Mo_fits 42 = .ok (.iload 4, 2) := by decide +kernel
theorem d_Mo_fits_44 : decode b_Mo_fits 44 = .ok (.aload_n 0, 1) := by decide +kernel
theorem d_Mo_fits_45 : decode b_Mo_fits 45 = .ok (.getfield 32, 3) := by decide +kernel
theorem d_Mo_fits_48 : decode b_Mo_fits 48 = .ok (.bipush (12), 2) := by decide +kernel
theorem d_Mo_fits_50 : decode b_Mo_fits 50 = .ok (.iload_n 3, 1) := by decide +kernel
theorem d_Mo_fits_51 : decode b_Mo_fits 51 = .ok (.imul, 1) := by decide +kernel
theorem d_Mo_fits_52 : decode b_Mo_fits 52 = .ok (.iload 4, 2) := by decide +kernel
theorem d_Mo_fits_54 : decode b_Mo_fits 54 = .ok (.iadd, 1) := by decide +kernel
theorem d_Mo_fits_55 : decode b_Mo_fits 55 = .ok (.iaload, 1) := by decide +kernel
theorem d_Mo_fits_56 : decode b_Mo_fits 56 = .ok (.iastore, 1) := by decide +kernel
theorem d_Mo_fits_57 : decode b_Mo_fits 57 = .ok (.iinc 4 (1), 3) := by decide +kernel
theorem d_Mo_fits_60 : decode b_Mo_fits 60 = .ok (.goto (-29), 3) := by decide +kernel
theorem d_Mo_fits_63 : decode b_Mo_fits 63 = .ok (.aload_n 0, 1) := by decide +kernel
theorem d_Mo_fits_64 : decode b_Mo_fits 64 = .ok (.iload_n 1, 1) := by decide +kernel
theorem d_Mo_fits_65 : decode b_Mo_fits 65 = .ok (.iload_n 2, 1) := by decide +kernel
theorem d_Mo_fits_66 : decode b_Mo_fits 66 = .ok (.invokevirtual 117, 3) := by decide +kernel
theorem d_Mo_fits_69 : decode b_Mo_fits 69 = .ok (.aload_n 0, 1) := by decide +kernel
theorem d_Mo_fits_70 : decode b_Mo_fits 70 = .ok (.getfield 73, 3) := by decide +kernel
theorem d_Mo_fits_73 : decode b_Mo_fits 73 = .ok (.ifCond .ne (7), 3) := by decide +kernel
theorem d_Mo_fits_76 : decode b_Mo_fits 76 = .ok (.iconst 1, 1) := by decide +kernel
theorem d_Mo_fits_77 : decode b_Mo_fits 77 = .ok (.goto (4), 3) := by decide +kernel
theorem d_Mo_fits_80 : decode b_Mo_fits 80 = .ok (.iconst 0, 1) := by decide +kernel
theorem d_Mo_fits_81 : decode b_Mo_fits 81 = .ok (.ireturn, 1) := by decide +kernel
def y_Mo_work : MethodName := ⟨"FrameVerifierModel", "work", "(I)I"⟩
abbrev b_Mo_work : ByteArray := prog_11_method_18_code
def rm_Mo_work : Room := { frames := 5, cells := 0, slots := 0, locals := 115 }
abbrev w_Mo_work : List Cond := Cond.code y_Mo_work b_Mo_work 4 (some .int) :: wG
theorem m_Mo_work : Cond.code y_Mo_work b_Mo_work 4 (some .int) ∈ wG := wg_t 842 (by decide +kernel) (by decide +kernel)
theorem q_Mo_work : y_Mo_work.cls ≠ "java/lang/invoke/MethodHandle" ∧ y_Mo_work.cls ≠ "java/lang/invoke/VarHandle" ∧ (parseMethodDescriptor y_Mo_work.desc).map (fun d => d.parameters.length) = some 1 := by decide +kernel
theorem g_Mo_work : Cond.initialized y_Mo_work.cls ∈ wG := wg_t 6 (by decide +kernel) (by decide +kernel)
theorem s_Mo_work : Cond.instanceMethod y_Mo_work ∈ wG := wg_t 841 (by decide +kernel) (by decide +kernel)
theorem e_Mo_work : Cond.selects "FrameVerifierModel" y_Mo_work y_Mo_work ∈ wG := wg_s (q := (y_Mo_work, 27)) 21 (by decide +kernel) (by decide +kernel)
theorem d_Mo_work_0 : decode b_Mo_work 0 = .ok (.bipush (100), 2) := by decide +kernel
theorem d_Mo_work_2 : decode b_Mo_work 2 = .ok (.iload_n 1, 1) := by decide +kernel
theorem d_Mo_work_3 : decode b_Mo_work 3 = .ok (.imul, 1) := by decide +kernel
theorem d_Mo_work_4 : decode b_Mo_work 4 = .ok (.istore_n 2, 1) := by decide +kernel
theorem d_Mo_work_5 : decode b_Mo_work 5 = .ok (.iload_n 2, 1) := by decide +kernel
theorem d_Mo_work_6 : decode b_Mo_work 6 = .ok (.bipush (100), 2) := by decide +kernel
theorem d_Mo_work_8 : decode b_Mo_work 8 = .ok (.iload_n 1, 1) := by decide +kernel
theorem d_Mo_work_9 : decode b_Mo_work 9 = .ok (.imul, 1) := by decide +kernel
theorem d_Mo_work_10 : decode b_Mo_work 10 = .ok (.bipush (100), 2) := by decide +kernel
theorem d_Mo_work_12 : decode b_Mo_work 12 = .ok (.iadd, 1) := by decide +kernel
theorem d_Mo_work_13 : decode b_Mo_work 13 = .ok (.if_icmp .ge (23), 3) := by decide +kernel
theorem d_Mo_work_16 : decode b_Mo_work 16 = .ok (.aload_n 0, 1) := by decide +kernel
theorem d_Mo_work_17 : decode b_Mo_work 17 = .ok (.getfield 29, 3) := by decide +kernel
theorem d_Mo_work_20 : decode b_Mo_work 20 = .ok (.iload_n 2, 1) := by decide +kernel
theorem d_Mo_work_21 : decode b_Mo_work 21 = .ok (.iconst (-1), 1) := by decide +kernel
theorem d_Mo_work_22 : decode b_Mo_work 22 = .ok (.iastore, 1) := by decide +kernel
theorem d_Mo_work_23 : decode b_Mo_work 23 = .ok (.aload_n 0, 1) := by decide +kernel
theorem d_Mo_work_24 : decode b_Mo_work 24 = .ok (.getfield 35, 3) := by decide +kernel
theorem d_Mo_work_27 : decode b_Mo_work 27 = .ok (.iload_n 2, 1) := by decide +kernel
theorem d_Mo_work_28 : decode b_Mo_work 28 = .ok (.iconst 0, 1) := by decide +kernel
theorem d_Mo_work_29 : decode b_Mo_work 29 = .ok (.bastore, 1) := by decide +kernel
theorem d_Mo_work_30 : decode b_Mo_work 30 = .ok (.iinc 2 (1), 3) := by decide +kernel
theorem d_Mo_work_33 : decode b_Mo_work 33 = .ok (.goto (-28), 3) := by decide +kernel
theorem d_Mo_work_36 : decode b_Mo_work 36 = .ok (.aload_n 0, 1) := by decide +kernel
theorem d_Mo_work_37 : decode b_Mo_work 37 = .ok (.getfield 16, 3) := by decide +kernel
theorem d_Mo_work_40 : decode b_Mo_work 40 = .ok (.iload_n 1, 1) := by decide +kernel
theorem d_Mo_work_41 : decode b_Mo_work 41 = .ok (.baload, 1) := by decide +kernel
theorem d_Mo_work_42 : decode b_Mo_work 42 = .ok (.ifCond .ne (5), 3) := by decide +kernel
theorem d_Mo_work_45 : decode b_Mo_work 45 = .ok (.iconst (-1), 1) := by decide +kernel
theorem d_Mo_work_46 : decode b_Mo_work 46 = .ok (.ireturn, 1) := by decide +kernel
theorem d_Mo_work_47 : decode b_Mo_work 47 = .ok (.aload_n 0, 1) := by decide +kernel
theorem d_Mo_work_48 : decode b_Mo_work 48 = .ok (.aload_n 0, 1) := by decide +kernel
theorem d_Mo_work_49 : decode b_Mo_work 49 = .ok (.getfield 20, 3) := by decide +kernel
theorem d_Mo_work_52 : decode b_Mo_work 52 = .ok (.iload_n 1, 1) := by decide +kernel
theorem d_Mo_work_53 : decode b_Mo_work 53 = .ok (.iaload, 1) := by decide +kernel
theorem d_Mo_work_54 : decode b_Mo_work 54 = .ok (.invokevirtual 76, 3) := by decide +kernel
theorem d_Mo_work_57 : decode b_Mo_work 57 = .ok (.ifCond .ne (7), 3) := by decide +kernel
theorem d_Mo_work_60 : decode b_Mo_work 60 = .ok (.sipush (999), 3) := by decide +kernel
theorem d_Mo_work_63 : decode b_Mo_work 63 = .ok (.ireturn, 1) := by decide +kernel
theorem d_Mo_work_64 : decode b_Mo_work 64 = .ok (.aload_n 0, 1) := by decide +kernel
theorem d_Mo_work_65 : decode b_Mo_work 65 = .ok (.iconst 0, 1) := by decide +kernel
theorem d_Mo_work_66 : decode b_Mo_work 66 = .ok (.putfield 70, 3) := by decide +kernel
theorem d_Mo_work_69 : decode b_Mo_work 69 = .ok (.iconst 0, 1) := by decide +kernel
theorem d_Mo_work_70 : decode b_Mo_work 70 = .ok (.istore_n 2, 1) := by decide +kernel
theorem d_Mo_work_71 : decode b_Mo_work 71 = .ok (.iload_n 2, 1) := by decide +kernel
theorem d_Mo_work_72 : decode b_Mo_work 72 = .ok (.bipush (6), 2) := by decide +kernel
theorem d_Mo_work_74 : decode b_Mo_work 74 = .ok (.if_icmp .ge (35), 3) := by decide +kernel
theorem d_Mo_work_77 : decode b_Mo_work 77 = .ok (.aload_n 0, 1) := by decide +kernel
theorem d_Mo_work_78 : decode b_Mo_work 78 = .ok (.getfield 38, 3) := by decide +kernel
theorem d_Mo_work_81 : decode b_Mo_work 81 = .ok (.iload_n 2, 1) := by decide +kernel
theorem d_Mo_work_82 : decode b_Mo_work 82 = .ok (.iload_n 2, 1) := by decide +kernel
theorem d_Mo_work_83 : decode b_Mo_work 83 = .ok (.aload_n 0, 1) := by decide +kernel
theorem d_Mo_work_84 : decode b_Mo_work 84 = .ok (.getfield 23, 3) := by decide +kernel
theorem d_Mo_work_87 : decode b_Mo_work 87 = .ok (.iload_n 1, 1) := by decide +kernel
theorem d_Mo_work_88 : decode b_Mo_work 88 = .ok (.iaload, 1) := by decide +kernel
theorem d_Mo_work_89 : decode b_Mo_work 89 = .ok (.if_icmp .ge (12), 3) := by decide +kernel
theorem d_Mo_work_92 : decode b_Mo_work 92 = .ok (.aload_n 0, 1) := by decide +kernel
theorem d_Mo_work_93 : decode b_Mo_work 93 = .ok (.iload_n 1, 1) := by decide +kernel
theorem d_Mo_work_94 : decode b_Mo_work 94 = .ok (.iload_n 2, 1) := by decide +kernel
theorem d_Mo_work_95 : decode b_Mo_work 95 = .ok (.invokevirtual 110, 3) := by decide +kernel
theorem d_Mo_work_98 : decode b_Mo_work 98 = .ok (.goto (4), 3) := by decide +kernel
theorem d_Mo_work_101 : decode b_Mo_work 101 = .ok (.iconst 0, 1) := by decide +kernel
theorem d_Mo_work_102 : decode b_Mo_work 102 = .ok (.iastore, 1) := by decide +kernel
theorem d_Mo_work_103 : decode b_Mo_work 103 = .ok (.iinc 2 (1), 3) := by decide +kernel
theorem d_Mo_work_106 : decode b_Mo_work 106 = .ok (.goto (-35), 3) := by decide +kernel
theorem d_Mo_work_109 : decode b_Mo_work 109 = .ok (.aload_n 0, 1) := by decide +kernel
theorem d_Mo_work_110 : decode b_Mo_work 110 = .ok (.iload_n 1, 1) := by decide +kernel
theorem d_Mo_work_111 : decode b_Mo_work 111 = .ok (.aload_n 0, 1) := by decide +kernel
theorem d_Mo_work_112 : decode b_Mo_work 112 = .ok (.getfield 20, 3) := by decide +kernel
theorem d_Mo_work_115 : decode b_Mo_work 115 = .ok (.iload_n 1, 1) := by decide +kernel
theorem d_Mo_work_116 : decode b_Mo_work 116 = .ok (.iaload, 1) := by decide +kernel
theorem d_Mo_work_117 : decode b_Mo_work 117 = .ok (.invokevirtual 120, 3) := by decide +kernel
theorem d_Mo_work_120 : decode b_Mo_work 120 = .ok (.iconst 0, 1) := by decide +kernel
theorem d_Mo_work_121 : decode b_Mo_work 121 = .ok (.istore_n 2, 1) := by decide +kernel
theorem d_Mo_work_122 : decode b_Mo_work 122 = .ok (.iload_n 2, 1) := by decide +kernel
theorem d_Mo_work_123 : decode b_Mo_work 123 = .ok (.aload_n 0, 1) := by decide +kernel
end
section
/-! names of 20.model -/
theorem d_Mo_work_124 : decode b_Mo_work 124 = .ok (.getfield 63, 3) := by decide +kernel
theorem d_Mo_work_127 : decode b_Mo_work 127 = .ok (.if_icmp .ge (86), 3) := by decide +kernel
theorem d_Mo_work_130 : decode b_Mo_work 130 = .ok (.aload_n 0, 1) := by decide +kernel
theorem d_Mo_work_131 : decode b_Mo_work 131 = .ok (.getfield 35, 3) := by decide +kernel
theorem d_Mo_work_134 : decode b_Mo_work 134 = .ok (.bipush (100), 2) := by decide +kernel
theorem d_Mo_work_136 : decode b_Mo_work 136 = .ok (.iload_n 1, 1) := by decide +kernel
theorem d_Mo_work_137 : decode b_Mo_work 137 = .ok (.imul, 1) := by decide +kernel
theorem d_Mo_work_138 : decode b_Mo_work 138 = .ok (.iload_n 2, 1) := by decide +kernel
theorem d_Mo_work_139 : decode b_Mo_work 139 = .ok (.iadd, 1) := by decide +kernel
theorem d_Mo_work_140 : decode b_Mo_work 140 = .ok (.baload, 1) := by decide +kernel
theorem d_Mo_work_141 : decode b_Mo_work 141 = .ok (.ifCond .eq (66), 3) := by decide +kernel
theorem d_Mo_work_144 : decode b_Mo_work 144 = .ok (.aload_n 0, 1) := by decide +kernel
theorem d_Mo_work_145 : decode b_Mo_work 145 = .ok (.getfield 35, 3) := by decide +kernel
theorem d_Mo_work_148 : decode b_Mo_work 148 = .ok (.bipush (100), 2) := by decide +kernel
theorem d_Mo_work_150 : decode b_Mo_work 150 = .ok (.iload_n 1, 1) := by decide +kernel
theorem d_Mo_work_151 : decode b_Mo_work 151 = .ok (.imul, 1) := by decide +kernel
theorem d_Mo_work_152 : decode b_Mo_work 152 = .ok (.iload_n 2, 1) := by decide +kernel
theorem d_Mo_work_153 : decode b_Mo_work 153 = .ok (.iadd, 1) := by decide +kernel
theorem d_Mo_work_154 : decode b_Mo_work 154 = .ok (.iconst 0, 1) := by decide +kernel
theorem d_Mo_work_155 : decode b_Mo_work 155 = .ok (.bastore, 1) := by decide +kernel
theorem d_Mo_work_156 : decode b_Mo_work 156 = .ok (.aload_n 0, 1) := by decide +kernel
theorem d_Mo_work_157 : decode b_Mo_work 157 = .ok (.iload_n 1, 1) := by decide +kernel
theorem d_Mo_work_158 : decode b_Mo_work 158 = .ok (.iload_n 2, 1) := by decide +kernel
theorem d_Mo_work_159 : decode b_Mo_work 159 = .ok (.invokevirtual 123, 3) := by decide +kernel
theorem d_Mo_work_162 : decode b_Mo_work 162 = .ok (.istore_n 3, 1) := by decide +kernel
theorem d_Mo_work_163 : decode b_Mo_work 163 = .ok (.iload_n 3, 1) := by decide +kernel
theorem d_Mo_work_164 : decode b_Mo_work 164 = .ok (.ifCond .eq (18), 3) := by decide +kernel
theorem d_Mo_work_167 : decode b_Mo_work 167 = .ok (.aload_n 0, 1) := by decide +kernel
theorem d_Mo_work_168 : decode b_Mo_work 168 = .ok (.getfield 83, 3) := by decide +kernel
theorem d_Mo_work_171 : decode b_Mo_work 171 = .ok (.ifCond .eq (11), 3) := by decide +kernel
theorem d_Mo_work_174 : decode b_Mo_work 174 = .ok (.aload_n 0, 1) := by decide +kernel
theorem d_Mo_work_175 : decode b_Mo_work 175 = .ok (.iload_n 1, 1) := by decide +kernel
theorem d_Mo_work_176 : decode b_Mo_work 176 = .ok (.iload_n 2, 1) := by decide +kernel
theorem d_Mo_work_177 : decode b_Mo_work 177 = .ok (.iconst 1, 1) := by decide +kernel
theorem d_Mo_work_178 : decode b_Mo_work 178 = .ok (.iadd, 1) := by decide +kernel
theorem d_Mo_work_179 : decode b_Mo_work 179 = .ok (.invokevirtual 120, 3) := by decide +kernel
theorem d_Mo_work_182 : decode b_Mo_work 182 = .ok (.iload_n 3, 1) := by decide +kernel
theorem d_Mo_work_183 : decode b_Mo_work 183 = .ok (.ifCond .eq (19), 3) := by decide +kernel
theorem d_Mo_work_186 : decode b_Mo_work 186 = .ok (.aload_n 0, 1) := by decide +kernel
theorem d_Mo_work_187 : decode b_Mo_work 187 = .ok (.getfield 80, 3) := by decide +kernel
theorem d_Mo_work_190 : decode b_Mo_work 190 = .ok (.ifCond .lt (12), 3) := by decide +kernel
theorem d_Mo_work_193 : decode b_Mo_work 193 = .ok (.aload_n 0, 1) := by decide +kernel
theorem d_Mo_work_194 : decode b_Mo_work 194 = .ok (.iload_n 1, 1) := by decide +kernel
theorem d_Mo_work_195 : decode b_Mo_work 195 = .ok (.aload_n 0, 1) := by decide +kernel
theorem d_Mo_work_196 : decode b_Mo_work 196 = .ok (.getfield 80, 3) := by decide +kernel
theorem d_Mo_work_199 : decode b_Mo_work 199 = .ok (.invokevirtual 120, 3) := by decide +kernel
theorem d_Mo_work_202 : decode b_Mo_work 202 = .ok (.iconst 0, 1) := by decide +kernel
theorem d_Mo_work_203 : decode b_Mo_work 203 = .ok (.istore_n 2, 1) := by decide +kernel
theorem d_Mo_work_204 : decode b_Mo_work 204 = .ok (.goto (-82), 3) := by decide +kernel
theorem d_Mo_work_207 : decode b_Mo_work 207 = .ok (.iinc 2 (1), 3) := by decide +kernel
theorem d_Mo_work_210 : decode b_Mo_work 210 = .ok (.goto (-88), 3) := by decide +kernel
theorem d_Mo_work_213 : decode b_Mo_work 213 = .ok (.iconst 0, 1) := by decide +kernel
theorem d_Mo_work_214 : decode b_Mo_work 214 = .ok (.istore_n 3, 1) := by decide +kernel
theorem d_Mo_work_215 : decode b_Mo_work 215 = .ok (.iload_n 3, 1) := by decide +kernel
theorem d_Mo_work_216 : decode b_Mo_work 216 = .ok (.aload_n 0, 1) := by decide +kernel
theorem d_Mo_work_217 : decode b_Mo_work 217 = .ok (.getfield 63, 3) := by decide +kernel
theorem d_Mo_work_220 : decode b_Mo_work 220 = .ok (.if_icmp .ge (35), 3) := by decide +kernel
theorem d_Mo_work_223 : decode b_Mo_work 223 = .ok (.aload_n 0, 1) := by decide +kernel
theorem d_Mo_work_224 : decode b_Mo_work 224 = .ok (.getfield 29, 3) := by decide +kernel
theorem d_Mo_work_227 : decode b_Mo_work 227 = .ok (.bipush (100), 2) := by decide +kernel
theorem d_Mo_work_229 : decode b_Mo_work 229 = .ok (.iload_n 1, 1) := by decide +kernel
theorem d_Mo_work_230 : decode b_Mo_work 230 = .ok (.imul, 1) := by decide +kernel
theorem d_Mo_work_231 : decode b_Mo_work 231 = .ok (.iload_n 3, 1) := by decide +kernel
theorem d_Mo_work_232 : decode b_Mo_work 232 = .ok (.iadd, 1) := by decide +kernel
theorem d_Mo_work_233 : decode b_Mo_work 233 = .ok (.iaload, 1) := by decide +kernel
theorem d_Mo_work_234 : decode b_Mo_work 234 = .ok (.iconst (-1), 1) := by decide +kernel
theorem d_Mo_work_235 : decode b_Mo_work 235 = .ok (.if_icmp .eq (14), 3) := by decide +kernel
theorem d_Mo_work_238 : decode b_Mo_work 238 = .ok (.aload_n 0, 1) := by decide +kernel
theorem d_Mo_work_239 : decode b_Mo_work 239 = .ok (.iload_n 1, 1) := by decide +kernel
theorem d_Mo_work_240 : decode b_Mo_work 240 = .ok (.iload_n 3, 1) := by decide +kernel
theorem d_Mo_work_241 : decode b_Mo_work 241 = .ok (.invokevirtual 123, 3) := by decide +kernel
theorem d_Mo_work_244 : decode b_Mo_work 244 = .ok (.ifCond .ne (5), 3) := by decide +kernel
theorem d_Mo_work_247 : decode b_Mo_work 247 = .ok (.iload_n 3, 1) := by decide +kernel
theorem d_Mo_work_248 : decode b_Mo_work 248 = .ok (.ireturn, 1) := by decide +kernel
theorem d_Mo_work_249 : decode b_Mo_work 249 = .ok (.iinc 3 (1), 3) := by decide +kernel
theorem d_Mo_work_252 : decode b_Mo_work 252 = .ok (.goto (-37), 3) := by decide +kernel
theorem d_Mo_work_255 : decode b_Mo_work 255 = .ok (.iconst (-1), 1) := by decide +kernel
theorem d_Mo_work_256 : decode b_Mo_work 256 = .ok (.ireturn, 1) := by decide +kernel
def y_Mo_verify : MethodName := ⟨"FrameVerifierModel", "verify", "()I"⟩
abbrev b_Mo_verify : ByteArray := prog_11_method_19_code
def rm_Mo_verify : Room := { frames := 6, cells := 0, slots := 0, locals := 138 }
abbrev w_Mo_verify : List Cond := Cond.code y_Mo_verify b_Mo_verify 4 (some .int) :: wG
theorem m_Mo_verify : Cond.code y_Mo_verify b_Mo_verify 4 (some .int) ∈ wG := wg_t 838 (by decide +kernel) (by decide +kernel)
theorem q_Mo_verify : y_Mo_verify.cls ≠ "java/lang/invoke/MethodHandle" ∧ y_Mo_verify.cls ≠ "java/lang/invoke/VarHandle" ∧ (parseMethodDescriptor y_Mo_verify.desc).map (fun d => d.parameters.length) = some 0 := by decide +kernel
theorem g_Mo_verify : Cond.initialized y_Mo_verify.cls ∈ wG := wg_t 6 (by decide +kernel) (by decide +kernel)
theorem s_Mo_verify : Cond.instanceMethod y_Mo_verify ∈ wG := wg_t 836 (by decide +kernel) (by decide +kernel)
theorem e_Mo_verify : Cond.selects "FrameVerifierModel" y_Mo_verify y_Mo_verify ∈ wG := wg_t 837 (by decide +kernel) (by decide +kernel)
theorem d_Mo_verify_0 : decode b_Mo_verify 0 = .ok (.aload_n 0, 1) := by decide +kernel
theorem d_Mo_verify_1 : decode b_Mo_verify 1 = .ok (.iconst 0, 1) := by decide +kernel
theorem d_Mo_verify_2 : decode b_Mo_verify 2 = .ok (.putfield 59, 3) := by decide +kernel
theorem d_Mo_verify_5 : decode b_Mo_verify 5 = .ok (.aload_n 0, 1) := by decide +kernel
theorem d_Mo_verify_6 : decode b_Mo_verify 6 = .ok (.getfield 16, 3) := by decide +kernel
theorem d_Mo_verify_9 : decode b_Mo_verify 9 = .ok (.iconst 0, 1) := by decide +kernel
theorem d_Mo_verify_10 : decode b_Mo_verify 10 = .ok (.baload, 1) := by decide +kernel
theorem d_Mo_verify_11 : decode b_Mo_verify 11 = .ok (.ifCond .eq (7), 3) := by decide +kernel
theorem d_Mo_verify_14 : decode b_Mo_verify 14 = .ok (.iconst 0, 1) := by decide +kernel
theorem d_Mo_verify_15 : decode b_Mo_verify 15 = .ok (.goto (6), 3) := by decide +kernel
theorem d_Mo_verify_18 : decode b_Mo_verify 18 = .ok (.sipush (1999), 3) := by decide +kernel
theorem d_Mo_verify_21 : decode b_Mo_verify 21 = .ok (.istore_n 1, 1) := by decide +kernel
theorem d_Mo_verify_22 : decode b_Mo_verify 22 = .ok (.iconst 0, 1) := by decide +kernel
theorem d_Mo_verify_23 : decode b_Mo_verify 23 = .ok (.istore_n 2, 1) := by decide +kernel
theorem d_Mo_verify_24 : decode b_Mo_verify 24 = .ok (.iload_n 2, 1) := by decide +kernel
theorem d_Mo_verify_25 : decode b_Mo_verify 25 = .ok (.iconst 4, 1) := by decide +kernel
theorem d_Mo_verify_26 : decode b_Mo_verify 26 = .ok (.if_icmp .ge (37), 3) := by decide +kernel
theorem d_Mo_verify_29 : decode b_Mo_verify 29 = .ok (.aload_n 0, 1) := by decide +kernel
theorem d_Mo_verify_30 : decode b_Mo_verify 30 = .ok (.iload_n 2, 1) := by decide +kernel
theorem d_Mo_verify_31 : decode b_Mo_verify 31 = .ok (.invokevirtual 127, 3) := by decide +kernel
theorem d_Mo_verify_34 : decode b_Mo_verify 34 = .ok (.istore_n 3, 1) := by decide +kernel
theorem d_Mo_verify_35 : decode b_Mo_verify 35 = .ok (.iload_n 3, 1) := by decide +kernel
theorem d_Mo_verify_36 : decode b_Mo_verify 36 = .ok (.ifCond .lt (19), 3) := by decide +kernel
theorem d_Mo_verify_39 : decode b_Mo_verify 39 = .ok (.iload_n 1, 1) := by decide +kernel
theorem d_Mo_verify_40 : decode b_Mo_verify 40 = .ok (.ifCond .ne (15), 3) := by decide +kernel
theorem d_Mo_verify_43 : decode b_Mo_verify 43 = .ok (.sipush (1000), 3) := by decide +kernel
theorem d_Mo_verify_46 : decode b_Mo_verify 46 = .ok (.iconst 1, 1) := by decide +kernel
theorem d_Mo_verify_47 : decode b_Mo_verify 47 = .ok (.iload_n 2, 1) := by decide +kernel
theorem d_Mo_verify_48 : decode b_Mo_verify 48 = .ok (.iadd, 1) := by decide +kernel
theorem d_Mo_verify_49 : decode b_Mo_verify 49 = .ok (.imul, 1) := by decide +kernel
theorem d_Mo_verify_50 : decode b_Mo_verify 50 = .ok (.iload_n 3, 1) := by decide +kernel
theorem d_Mo_verify_51 : decode b_Mo_verify 51 = .ok (.iadd, 1) := by decide +kernel
theorem d_Mo_verify_52 : decode b_Mo_verify 52 = .ok (.goto (4), 3) := by decide +kernel
theorem d_Mo_verify_55 : decode b_Mo_verify 55 = .ok (.iload_n 1, 1) := by decide +kernel
theorem d_Mo_verify_56 : decode b_Mo_verify 56 = .ok (.istore_n 1, 1) := by decide +kernel
theorem d_Mo_verify_57 : decode b_Mo_verify 57 = .ok (.iinc 2 (1), 3) := by decide +kernel
theorem d_Mo_verify_60 : decode b_Mo_verify 60 = .ok (.goto (-36), 3) := by decide +kernel
theorem d_Mo_verify_63 : decode b_Mo_verify 63 = .ok (.aload_n 0, 1) := by decide +kernel
theorem d_Mo_verify_64 : decode b_Mo_verify 64 = .ok (.iload_n 1, 1) := by decide +kernel
theorem d_Mo_verify_65 : decode b_Mo_verify 65 = .ok (.ifCond .ne (7), 3) := by decide +kernel
theorem d_Mo_verify_68 : decode b_Mo_verify 68 = .ok (.iconst 1, 1) := by decide +kernel
theorem d_Mo_verify_69 : decode b_Mo_verify 69 = .ok (.goto (4), 3) := by decide +kernel
theorem d_Mo_verify_72 : decode b_Mo_verify 72 = .ok (.iconst 0, 1) := by decide +kernel
theorem d_Mo_verify_73 : decode b_Mo_verify 73 = .ok (.putfield 66, 3) := by decide +kernel
theorem d_Mo_verify_76 : decode b_Mo_verify 76 = .ok (.iload_n 1, 1) := by decide +kernel
theorem d_Mo_verify_77 : decode b_Mo_verify 77 = .ok (.ireturn, 1) := by decide +kernel
def y_Mo_isVerified : MethodName := ⟨"FrameVerifierModel", "isVerified", "()Z"⟩
abbrev b_Mo_isVerified : ByteArray := prog_11_method_20_code
def rm_Mo_isVerified : Room := { frames := 0, cells := 0, slots := 0, locals := 0 }
abbrev w_Mo_isVerified : List Cond := Cond.code y_Mo_isVerified b_Mo_isVerified 1 (some .boolean) :: wG
theorem m_Mo_isVerified : Cond.code y_Mo_isVerified b_Mo_isVerified 1 (some .boolean) ∈ wG := wg_t 898 (by decide +kernel) (by decide +kernel)
theorem q_Mo_isVerified : y_Mo_isVerified.cls ≠ "java/lang/invoke/MethodHandle" ∧ y_Mo_isVerified.cls ≠ "java/lang/invoke/VarHandle" ∧ (parseMethodDescriptor y_Mo_isVerified.desc).map (fun d => d.parameters.length) = some 0 := by decide +kernel
theorem g_Mo_isVerified : Cond.initialized y_Mo_isVerified.cls ∈ wG := wg_t 6 (by decide +kernel) (by decide +kernel)
theorem s_Mo_isVerified : Cond.instanceMethod y_Mo_isVerified ∈ wG := wg_t 896 (by decide +kernel) (by decide +kernel)
theorem e_Mo_isVerified : Cond.selects "FrameVerifierModel" y_Mo_isVerified y_Mo_isVerified ∈ wG := wg_t 897 (by decide +kernel) (by decide +kernel)
theorem d_Mo_isVerified_0 : decode b_Mo_isVerified 0 = .ok (.aload_n 0, 1) := by decide +kernel
theorem d_Mo_isVerified_1 : decode b_Mo_isVerified 1 = .ok (.iconst 0, 1) := by decide +kernel
theorem d_Mo_isVerified_2 : decode b_Mo_isVerified 2 = .ok (.putfield 59, 3) := by decide +kernel
theorem d_Mo_isVerified_5 : decode b_Mo_isVerified 5 = .ok (.aload_n 0, 1) := by decide +kernel
theorem d_Mo_isVerified_6 : decode b_Mo_isVerified 6 = .ok (.getfield 66, 3) := by decide +kernel
theorem d_Mo_isVerified_9 : decode b_Mo_isVerified 9 = .ok (.ireturn, 1) := by decide +kernel
def y_Mo_type : MethodName := ⟨"FrameVerifierModel", "type", "(III)I"⟩
abbrev b_Mo_type : ByteArray := prog_11_method_21_code
def rm_Mo_type : Room := { frames := 6, cells := 0, slots := 0, locals := 138 }
abbrev w_Mo_type : List Cond := Cond.code y_Mo_type b_Mo_type 6 (some .int) :: wG
theorem m_Mo_type : Cond.code y_Mo_type b_Mo_type 6 (some .int) ∈ wG := wg_t 902 (by decide +kernel) (by decide +kernel)
theorem q_Mo_type : y_Mo_type.cls ≠ "java/lang/invoke/MethodHandle" ∧ y_Mo_type.cls ≠ "java/lang/invoke/VarHandle" ∧ (parseMethodDescriptor y_Mo_type.desc).map (fun d => d.parameters.length) = some 3 := by decide +kernel
theorem g_Mo_type : Cond.initialized y_Mo_type.cls ∈ wG := wg_t 6 (by decide +kernel) (by decide +kernel)
theorem s_Mo_type : Cond.instanceMethod y_Mo_type ∈ wG := wg_t 900 (by decide +kernel) (by decide +kernel)
theorem e_Mo_type : Cond.selects "FrameVerifierModel" y_Mo_type y_Mo_type ∈ wG := wg_t 901 (by decide +kernel) (by decide +kernel)
theorem d_Mo_type_0 : decode b_Mo_type 0 = .ok (.aload_n 0, 1) := by decide +kernel
theorem d_Mo_type_1 : decode b_Mo_type 1 = .ok (.iconst 0, 1) := by decide +kernel
theorem d_Mo_type_2 : decode b_Mo_type 2 = .ok (.putfield 59, 3) := by decide +kernel
theorem d_Mo_type_5 : decode b_Mo_type 5 = .ok (.iload_n 1, 1) := by decide +kernel
theorem d_Mo_type_6 : decode b_Mo_type 6 = .ok (.ifCond .lt (28), 3) := by decide +kernel
theorem d_Mo_type_9 : decode b_Mo_type 9 = .ok (.iload_n 1, 1) := by decide +kernel
theorem d_Mo_type_10 : decode b_Mo_type 10 = .ok (.iconst 3, 1) := by decide +kernel
theorem d_Mo_type_11 : decode b_Mo_type 11 = .ok (.if_icmp .gt (23), 3) := by decide +kernel
theorem d_Mo_type_14 : decode b_Mo_type 14 = .ok (.iload_n 2, 1) := by decide +kernel
theorem d_Mo_type_15 : decode b_Mo_type 15 = .ok (.ifCond .lt (19), 3) := by decide +kernel
theorem d_Mo_type_18 : decode b_Mo_type 18 = .ok (.iload_n 2, 1) := by decide +kernel
theorem d_Mo_type_19 : decode b_Mo_type 19 = .ok (.bipush (99), 2) := by decide +kernel
theorem d_Mo_type_21 : decode b_Mo_type 21 = .ok (.if_icmp .gt (13), 3) := by decide +kernel
theorem d_Mo_type_24 : decode b_Mo_type 24 = .ok (.iload_n 3, 1) := by decide +kernel
theorem d_Mo_type_25 : decode b_Mo_type 25 = .ok (.ifCond .lt (9), 3) := by decide +kernel
theorem d_Mo_type_28 : decode b_Mo_type 28 = .ok (.iload_n 3, 1) := by decide +kernel
theorem d_Mo_type_29 : decode b_Mo_type 29 = .ok (.bipush (11), 2) := by decide +kernel
theorem d_Mo_type_31 : decode b_Mo_type 31 = .ok (.if_icmp .le (5), 3) := by decide +kernel
theorem d_Mo_type_34 : decode b_Mo_type 34 = .ok (.iconst (-1), 1) := by decide +kernel
theorem d_Mo_type_35 : decode b_Mo_type 35 = .ok (.ireturn, 1) := by decide +kernel
theorem d_Mo_type_36 : decode b_Mo_type 36 = .ok (.bipush (100), 2) := by decide +kernel
theorem d_Mo_type_38 : decode b_Mo_type 38 = .ok (.iload_n 1, 1) := by decide +kernel
theorem d_Mo_type_39 : decode b_Mo_type 39 = .ok (.imul, 1) := by decide +kernel
theorem d_Mo_type_40 : decode b_Mo_type 40 = .ok (.iload_n 2, 1) := by decide +kernel
theorem d_Mo_type_41 : decode b_Mo_type 41 = .ok (.iadd, 1) := by decide +kernel
theorem d_Mo_type_42 : decode b_Mo_type 42 = .ok (.istore 4, 2) := by decide +kernel
theorem d_Mo_type_44 : decode b_Mo_type 44 = .ok (.aload_n 0, 1) := by decide +kernel
theorem d_Mo_type_45 : decode b_Mo_type 45 = .ok (.iload_n 1, 1) := by decide +kernel
theorem d_Mo_type_46 : decode b_Mo_type 46 = .ok (.invokevirtual 127, 3) := by decide +kernel
theorem d_Mo_type_49 : decode b_Mo_type 49 = .ok (.istore 5, 2) := by decide +kernel
theorem d_Mo_type_51 : decode b_Mo_type 51 = .ok (.aload_n 0, 1) := by decide +kernel
theorem d_Mo_type_52 : decode b_Mo_type 52 = .ok (.getfield 29, 3) := by decide +kernel
theorem d_Mo_type_55 : decode b_Mo_type 55 = .ok (.iload 4, 2) := by decide +kernel
theorem d_Mo_type_57 : decode b_Mo_type 57 = .ok (.iaload, 1) := by decide +kernel
theorem d_Mo_type_58 : decode b_Mo_type 58 = .ok (.bipush (-2), 2) := by decide +kernel
theorem d_Mo_type_60 : decode b_Mo_type 60 = .ok (.if_icmp .ne (8), 3) := by decide +kernel
theorem d_Mo_type_63 : decode b_Mo_type 63 = .ok (.bipush (-2), 2) := by decide +kernel
theorem d_Mo_type_65 : decode b_Mo_type 65 = .ok (.goto (44), 3) := by decide +kernel
theorem d_Mo_type_68 : decode b_Mo_type 68 = .ok (.aload_n 0, 1) := by decide +kernel
theorem d_Mo_type_69 : decode b_Mo_type 69 = .ok (.getfield 29, 3) := by decide +kernel
theorem d_Mo_type_72 : decode b_Mo_type 72 = .ok (.iload 4, 2) := by decide +kernel
theorem d_Mo_type_74 : decode b_Mo_type 74 = .ok (.iaload, 1) := by decide +kernel
theorem d_Mo_type_75 : decode b_Mo_type 75 = .ok (.iconst (-1), 1) := by decide +kernel
theorem d_Mo_type_76 : decode b_Mo_type 76 = .ok (.if_icmp .eq (17), 3) := by decide +kernel
theorem d_Mo_type_79 : decode b_Mo_type 79 = .ok (.iload_n 3, 1) := by decide +kernel
theorem d_Mo_type_80 : decode b_Mo_type 80 = .ok (.bipush (6), 2) := by decide +kernel
theorem d_Mo_type_82 : decode b_Mo_type 82 = .ok (.aload_n 0, 1) := by decide +kernel
theorem d_Mo_type_83 : decode b_Mo_type 83 = .ok (.getfield 29, 3) := by decide +kernel
theorem d_Mo_type_86 : decode b_Mo_type 86 = .ok (.iload 4, 2) := by decide +kernel
theorem d_Mo_type_88 : decode b_Mo_type 88 = .ok (.iaload, 1) := by decide +kernel
theorem d_Mo_type_89 : decode b_Mo_type 89 = .ok (.iadd, 1) := by decide +kernel
theorem d_Mo_type_90 : decode b_Mo_type 90 = .ok (.if_icmp .lt (7), 3) := by decide +kernel
theorem d_Mo_type_93 : decode b_Mo_type 93 = .ok (.iconst (-1), 1) := by decide +kernel
theorem d_Mo_type_94 : decode b_Mo_type 94 = .ok (.goto (15), 3) := by decide +kernel
theorem d_Mo_type_97 : decode b_Mo_type 97 = .ok (.aload_n 0, 1) := by decide +kernel
theorem d_Mo_type_98 : decode b_Mo_type 98 = .ok (.getfield 32, 3) := by decide +kernel
theorem d_Mo_type_101 : decode b_Mo_type 101 = .ok (.bipush (12), 2) := by decide +kernel
theorem d_Mo_type_103 : decode b_Mo_type 103 = .ok (.iload 4, 2) := by decide +kernel
theorem d_Mo_type_105 : decode b_Mo_type 105 = .ok (.imul, 1) := by decide +kernel
theorem d_Mo_type_106 : decode b_Mo_type 106 = .ok (.iload_n 3, 1) := by decide +kernel
theorem d_Mo_type_107 : decode b_Mo_type 107 = .ok (.iadd, 1) := by decide +kernel
theorem d_Mo_type_108 : decode b_Mo_type 108 = .ok (.iaload, 1) := by decide +kernel
theorem d_Mo_type_109 : decode b_Mo_type 109 = .ok (.ireturn, 1) := by decide +kernel
def y_Mo_enter : MethodName := ⟨"FrameVerifierModel", "enter", "(I)V"⟩
abbrev b_Mo_enter : ByteArray := prog_11_method_22_code
def rm_Mo_enter : Room := { frames := 0, cells := 0, slots := 0, locals := 0 }
abbrev w_Mo_enter : List Cond := Cond.code y_Mo_enter b_Mo_enter 3 none :: wG
theorem m_Mo_enter : Cond.code y_Mo_enter b_Mo_enter 3 none ∈ wG := wg_t 910 (by decide +kernel) (by decide +kernel)
theorem q_Mo_enter : y_Mo_enter.cls ≠ "java/lang/invoke/MethodHandle" ∧ y_Mo_enter.cls ≠ "java/lang/invoke/VarHandle" ∧ (parseMethodDescriptor y_Mo_enter.desc).map (fun d => d.parameters.length) = some 1 := by decide +kernel
theorem g_Mo_enter : Cond.initialized y_Mo_enter.cls ∈ wG := wg_t 6 (by decide +kernel) (by decide +kernel)
theorem s_Mo_enter : Cond.instanceMethod y_Mo_enter ∈ wG := wg_t 909 (by decide +kernel) (by decide +kernel)
theorem e_Mo_enter : Cond.selects "FrameVerifierModel" y_Mo_enter y_Mo_enter ∈ wG := wg_s (q := (y_Mo_enter, 27)) 35 (by decide +kernel) (by decide +kernel)
theorem d_Mo_enter_0 : decode b_Mo_enter 0 = .ok (.aload_n 0, 1) := by decide +kernel
theorem d_Mo_enter_1 : decode b_Mo_enter 1 = .ok (.getfield 41, 3) := by decide +kernel
theorem d_Mo_enter_4 : decode b_Mo_enter 4 = .ok (.aload_n 0, 1) := by decide +kernel
theorem d_Mo_enter_5 : decode b_Mo_enter 5 = .ok (.getfield 130, 3) := by decide +kernel
theorem d_Mo_enter_8 : decode b_Mo_enter 8 = .ok (.iload_n 1, 1) := by decide +kernel
theorem d_Mo_enter_9 : decode b_Mo_enter 9 = .ok (.iastore, 1) := by decide +kernel
theorem d_Mo_enter_10 : decode b_Mo_enter 10 = .ok (.aload_n 0, 1) := by decide +kernel
theorem d_Mo_enter_11 : decode b_Mo_enter 11 = .ok (.getfield 44, 3) := by decide +kernel
theorem d_Mo_enter_14 : decode b_Mo_enter 14 = .ok (.aload_n 0, 1) := by decide +kernel
theorem d_Mo_enter_15 : decode b_Mo_enter 15 = .ok (.getfield 130, 3) := by decide +kernel
theorem d_Mo_enter_18 : decode b_Mo_enter 18 = .ok (.aload_n 0, 1) := by decide +kernel
theorem d_Mo_enter_19 : decode b_Mo_enter 19 = .ok (.getfield 20, 3) := by decide +kernel
theorem d_Mo_enter_22 : decode b_Mo_enter 22 = .ok (.iload_n 1, 1) := by decide +kernel
theorem d_Mo_enter_23 : decode b_Mo_enter 23 = .ok (.iaload, 1) := by decide +kernel
theorem d_Mo_enter_24 : decode b_Mo_enter 24 = .ok (.iastore, 1) := by decide +kernel
theorem d_Mo_enter_25 : decode b_Mo_enter 25 = .ok (.aload_n 0, 1) := by decide +kernel
theorem d_Mo_enter_26 : decode b_Mo_enter 26 = .ok (.getfield 47, 3) := by decide +kernel
theorem d_Mo_enter_29 : decode b_Mo_enter 29 = .ok (.aload_n 0, 1) := by decide +kernel
theorem d_Mo_enter_30 : decode b_Mo_enter 30 = .ok (.getfield 130, 3) := by decide +kernel
theorem d_Mo_enter_33 : decode b_Mo_enter 33 = .ok (.iconst 0, 1) := by decide +kernel
theorem d_Mo_enter_34 : decode b_Mo_enter 34 = .ok (.iastore, 1) := by decide +kernel
theorem d_Mo_enter_35 : decode b_Mo_enter 35 = .ok (.iconst 0, 1) := by decide +kernel
theorem d_Mo_enter_36 : decode b_Mo_enter 36 = .ok (.istore_n 2, 1) := by decide +kernel
theorem d_Mo_enter_37 : decode b_Mo_enter 37 = .ok (.iload_n 2, 1) := by decide +kernel
theorem d_Mo_enter_38 : decode b_Mo_enter 38 = .ok (.bipush (6), 2) := by decide +kernel
theorem d_Mo_enter_40 : decode b_Mo_enter 40 = .ok (.if_icmp .ge (39), 3) := by decide +kernel
theorem d_Mo_enter_43 : decode b_Mo_enter 43 = .ok (.aload_n 0, 1) := by decide +kernel
theorem d_Mo_enter_44 : decode b_Mo_enter 44 = .ok (.getfield 53, 3) := by decide +kernel
theorem d_Mo_enter_47 : decode b_Mo_enter 47 = .ok (.bipush (12), 2) := by decide +kernel
theorem d_Mo_enter_49 : decode b_Mo_enter 49 = .ok (.aload_n 0, 1) := by decide +kernel
theorem d_Mo_enter_50 : decode b_Mo_enter 50 = .ok (.getfield 130, 3) := by decide +kernel
theorem d_Mo_enter_53 : decode b_Mo_enter 53 = .ok (.imul, 1) := by decide +kernel
theorem d_Mo_enter_54 : decode b_Mo_enter 54 = .ok (.iload_n 2, 1) := by decide +kernel
theorem d_Mo_enter_55 : decode b_Mo_enter 55 = .ok (.iadd, 1) := by decide +kernel
theorem d_Mo_enter_56 : decode b_Mo_enter 56 = .ok (.iconst 0, 1) := by decide +kernel
theorem d_Mo_enter_57 : decode b_Mo_enter 57 = .ok (.iastore, 1) := by decide +kernel
theorem d_Mo_enter_58 : decode b_Mo_enter 58 = .ok (.aload_n 0, 1) := by decide +kernel
theorem d_Mo_enter_59 : decode b_Mo_enter 59 = .ok (.getfield 50, 3) := by decide +kernel
theorem d_Mo_enter_62 : decode b_Mo_enter 62 = .ok (.bipush (12), 2) := by decide +kernel
theorem d_Mo_enter_64 : decode b_Mo_enter 64 = .ok (.aload_n 0, 1) := by decide +kernel
theorem d_Mo_enter_65 : decode b_Mo_enter 65 = .ok (.getfield 130, 3) := by decide +kernel
theorem d_Mo_enter_68 : decode b_Mo_enter 68 = .ok (.imul, 1) := by decide +kernel
theorem d_Mo_enter_69 : decode b_Mo_enter 69 = .ok (.iload_n 2, 1) := by decide +kernel
theorem d_Mo_enter_70 : decode b_Mo_enter 70 = .ok (.iadd, 1) := by decide +kernel
theorem d_Mo_enter_71 : decode b_Mo_enter 71 = .ok (.iconst 0, 1) := by decide +kernel
theorem d_Mo_enter_72 : decode b_Mo_enter 72 = .ok (.iastore, 1) := by decide +kernel
theorem d_Mo_enter_73 : decode b_Mo_enter 73 = .ok (.iinc 2 (1), 3) := by decide +kernel
theorem d_Mo_enter_76 : decode b_Mo_enter 76 = .ok (.goto (-39), 3) := by decide +kernel
theorem d_Mo_enter_79 : decode b_Mo_enter 79 = .ok (.aload_n 0, 1) := by decide +kernel
theorem d_Mo_enter_80 : decode b_Mo_enter 80 = .ok (.dup, 1) := by decide +kernel
theorem d_Mo_enter_81 : decode b_Mo_enter 81 = .ok (.getfield 130, 3) := by decide +kernel
theorem d_Mo_enter_84 : decode b_Mo_enter 84 = .ok (.iconst 1, 1) := by decide +kernel
theorem d_Mo_enter_85 : decode b_Mo_enter 85 = .ok (.iadd, 1) := by decide +kernel
theorem d_Mo_enter_86 : decode b_Mo_enter 86 = .ok (.putfield 130, 3) := by decide +kernel
theorem d_Mo_enter_89 : decode b_Mo_enter 89 = .ok (.return_, 1) := by decide +kernel
def y_Mo_start : MethodName := ⟨"FrameVerifierModel", "start", "(III)Z"⟩
abbrev b_Mo_start : ByteArray := prog_11_method_23_code
def rm_Mo_start : Room := { frames := 1, cells := 0, slots := 0, locals := 22 }
abbrev w_Mo_start : List Cond := Cond.code y_Mo_start b_Mo_start 5 (some .boolean) :: wG
theorem m_Mo_start : Cond.code y_Mo_start b_Mo_start 5 (some .boolean) ∈ wG := wg_t 906 (by decide +kernel) (by decide +kernel)
theorem q_Mo_start : y_Mo_start.cls ≠ "java/lang/invoke/MethodHandle" ∧ y_Mo_start.cls ≠ "java/lang/invoke/VarHandle" ∧ (parseMethodDescriptor y_Mo_start.desc).map (fun d => d.parameters.length) = some 3 := by decide +kernel
theorem g_Mo_start : Cond.initialized y_Mo_start.cls ∈ wG := wg_t 6 (by decide +kernel) (by decide +kernel)
theorem s_Mo_start : Cond.instanceMethod y_Mo_start ∈ wG := wg_t 904 (by decide +kernel) (by decide +kernel)
theorem e_Mo_start : Cond.selects "FrameVerifierModel" y_Mo_start y_Mo_start ∈ wG := wg_t 905 (by decide +kernel) (by decide +kernel)
theorem d_Mo_start_0 : decode b_Mo_start 0 = .ok (.aload_n 0, 1) := by decide +kernel
theorem d_Mo_start_1 : decode b_Mo_start 1 = .ok (.iconst 0, 1) := by decide +kernel
theorem d_Mo_start_2 : decode b_Mo_start 2 = .ok (.putfield 59, 3) := by decide +kernel
theorem d_Mo_start_5 : decode b_Mo_start 5 = .ok (.aload_n 0, 1) := by decide +kernel
theorem d_Mo_start_6 : decode b_Mo_start 6 = .ok (.getfield 16, 3) := by decide +kernel
theorem d_Mo_start_9 : decode b_Mo_start 9 = .ok (.iconst 0, 1) := by decide +kernel
theorem d_Mo_start_10 : decode b_Mo_start 10 = .ok (.baload, 1) := by decide +kernel
theorem d_Mo_start_11 : decode b_Mo_start 11 = .ok (.ifCond .ne (5), 3) := by decide +kernel
theorem d_Mo_start_14 : decode b_Mo_start 14 = .ok (.iconst 0, 1) := by decide +kernel
theorem d_Mo_start_15 : decode b_Mo_start 15 = .ok (.ireturn, 1) := by decide +kernel
theorem d_Mo_start_16 : decode b_Mo_start 16 = .ok (.aload_n 0, 1) := by decide +kernel
theorem d_Mo_start_17 : decode b_Mo_start 17 = .ok (.iconst 0, 1) := by decide +kernel
theorem d_Mo_start_18 : decode b_Mo_start 18 = .ok (.putfield 130, 3) := by decide +kernel
theorem d_Mo_start_21 : decode b_Mo_start 21 = .ok (.aload_n 0, 1) := by decide +kernel
theorem d_Mo_start_22 : decode b_Mo_start 22 = .ok (.iconst 0, 1) := by decide +kernel
theorem d_Mo_start_23 : decode b_Mo_start 23 = .ok (.putfield 133, 3) := by decide +kernel
theorem d_Mo_start_26 : decode b_Mo_start 26 = .ok (.aload_n 0, 1) := by decide +kernel
theorem d_Mo_start_27 : decode b_Mo_start 27 = .ok (.iconst 0, 1) := by decide +kernel
theorem d_Mo_start_28 : decode b_Mo_start 28 = .ok (.invokevirtual 136, 3) := by decide +kernel
theorem d_Mo_start_31 : decode b_Mo_start 31 = .ok (.iconst 0, 1) := by decide +kernel
theorem d_Mo_start_32 : decode b_Mo_start 32 = .ok (.istore 4, 2) := by decide +kernel
theorem d_Mo_start_34 : decode b_Mo_start 34 = .ok (.iload 4, 2) := by decide +kernel
theorem d_Mo_start_36 : decode b_Mo_start 36 = .ok (.aload_n 0, 1) := by decide +kernel
theorem d_Mo_start_37 : decode b_Mo_start 37 = .ok (.getfield 23, 3) := by decide +kernel
theorem d_Mo_start_40 : decode b_Mo_start 40 = .ok (.iconst 0, 1) := by decide +kernel
theorem d_Mo_start_41 : decode b_Mo_start 41 = .ok (.iaload, 1) := by decide +kernel
theorem d_Mo_start_42 : decode b_Mo_start 42 = .ok (.if_icmp .ge (65), 3) := by decide +kernel
theorem d_Mo_start_45 : decode b_Mo_start 45 = .ok (.aload_n 0, 1) := by decide +kernel
theorem d_Mo_start_46 : decode b_Mo_start 46 = .ok (.getfield 53, 3) := by decide +kernel
theorem d_Mo_start_49 : decode b_Mo_start 49 = .ok (.iload 4, 2) := by decide +kernel
theorem d_Mo_start_51 : decode b_Mo_start 51 = .ok (.aload_n 0, 1) := by decide +kernel
theorem d_Mo_start_52 : decode b_Mo_start 52 = .ok (.iconst 0, 1) := by decide +kernel
theorem d_Mo_start_53 : decode b_Mo_start 53 = .ok (.iload 4, 2) := by decide +kernel
theorem d_Mo_start_55 : decode b_Mo_start 55 = .ok (.invokevirtual 110, 3) := by decide +kernel
theorem d_Mo_start_58 : decode b_Mo_start 58 = .ok (.iastore, 1) := by decide +kernel
theorem d_Mo_start_59 : decode b_Mo_start 59 = .ok (.aload_n 0, 1) := by decide +kernel
theorem d_Mo_start_60 : decode b_Mo_start 60 = .ok (.getfield 50, 3) := by decide +kernel
theorem d_Mo_start_63 : decode b_Mo_start 63 = .ok (.iload 4, 2) := by decide +kernel
theorem d_Mo_start_65 : decode b_Mo_start 65 = .ok (.aload_n 0, 1) := by decide +kernel
theorem d_Mo_start_66 : decode b_Mo_start 66 = .ok (.getfield 53, 3) := by decide +kernel
theorem d_Mo_start_69 : decode b_Mo_start 69 = .ok (.iload 4, 2) := by decide +kernel
theorem d_Mo_start_71 : decode b_Mo_start 71 = .ok (.iaload, 1) := by decide +kernel
theorem d_Mo_start_72 : decode b_Mo_start 72 = .ok (.iconst 2, 1) := by decide +kernel
theorem d_Mo_start_73 : decode b_Mo_start 73 = .ok (.if_icmp .ne (7), 3) := by decide +kernel
theorem d_Mo_start_76 : decode b_Mo_start 76 = .ok (.iconst 0, 1) := by decide +kernel
theorem d_Mo_start_77 : decode b_Mo_start 77 = .ok (.goto (23), 3) := by decide +kernel
theorem d_Mo_start_80 : decode b_Mo_start 80 = .ok (.iload 4, 2) := by decide +kernel
theorem d_Mo_start_82 : decode b_Mo_start 82 = .ok (.ifCond .ne (7), 3) := by decide +kernel
theorem d_Mo_start_85 : decode b_Mo_start 85 = .ok (.iload_n 1, 1) := by decide +kernel
theorem d_Mo_start_86 : decode b_Mo_start 86 = .ok (.goto (14), 3) := by decide +kernel
theorem d_Mo_start_89 : decode b_Mo_start 89 = .ok (.iload 4, 2) := by decide +kernel
theorem d_Mo_start_91 : decode b_Mo_start 91 = .ok (.iconst 1, 1) := by decide +kernel
theorem d_Mo_start_92 : decode b_Mo_start 92 = .ok (.if_icmp .ne (7), 3) := by decide +kernel
theorem d_Mo_start_95 : decode b_Mo_start 95 = .ok (.iload_n 2, 1) := by decide +kernel
theorem d_Mo_start_96 : decode b_Mo_start 96 = .ok (.goto (4), 3) := by decide +kernel
theorem d_Mo_start_99 : decode b_Mo_start 99 = .ok (.iload_n 3, 1) := by decide +kernel
theorem d_Mo_start_100 : decode b_Mo_start 100 = .ok (.iastore, 1) := by decide +kernel
theorem d_Mo_start_101 : decode b_Mo_start 101 = .ok (.iinc 4 (1), 3) := by decide +kernel
theorem d_Mo_start_104 : decode b_Mo_start 104 = .ok (.goto (-70), 3) := by decide +kernel
theorem d_Mo_start_107 : decode b_Mo_start 107 = .ok (.iconst 1, 1) := by decide +kernel
theorem d_Mo_start_108 : decode b_Mo_start 108 = .ok (.ireturn, 1) := by decide +kernel
def y_Mo_below : MethodName := ⟨"FrameVerifierModel", "below", "(I)I"⟩
abbrev b_Mo_below : ByteArray := prog_11_method_24_code
def rm_Mo_below : Room := { frames := 0, cells := 0, slots := 0, locals := 0 }
abbrev w_Mo_below : List Cond := Cond.code y_Mo_below b_Mo_below 2 (some .int) :: wG
theorem m_Mo_below : Cond.code y_Mo_below b_Mo_below 2 (some .int) ∈ wG := wg_t 930 (by decide +kernel) (by decide +kernel)
theorem q_Mo_below : y_Mo_below.cls ≠ "java/lang/invoke/MethodHandle" ∧ y_Mo_below.cls ≠ "java/lang/invoke/VarHandle" ∧ (parseMethodDescriptor y_Mo_below.desc).map (fun d => d.parameters.length) = some 1 := by decide +kernel
theorem g_Mo_below : Cond.initialized y_Mo_below.cls ∈ wG := wg_t 6 (by decide +kernel) (by decide +kernel)
theorem s_Mo_below : Cond.instanceMethod y_Mo_below ∈ wG := wg_t 929 (by decide +kernel) (by decide +kernel)
theorem e_Mo_below : Cond.selects "FrameVerifierModel" y_Mo_below y_Mo_below ∈ wG := wg_s (q := (y_Mo_below, 27)) 39 (by decide +kernel) (by decide +kernel)
theorem d_Mo_below_0 : decode b_Mo_below 0 = .ok (.aload_n 0, 1) := by decide +kernel
theorem d_Mo_below_1 : decode b_Mo_below 1 = .ok (.getfield 50, 3) := by decide +kernel
theorem d_Mo_below_4 : decode b_Mo_below 4 = .ok (.bipush (12), 2) := by decide +kernel
theorem d_Mo_below_6 : decode b_Mo_below 6 = .ok (.aload_n 0, 1) := by decide +kernel
theorem d_Mo_below_7 : decode b_Mo_below 7 = .ok (.getfield 130, 3) := by decide +kernel
theorem d_Mo_below_10 : decode b_Mo_below 10 = .ok (.iconst 1, 1) := by decide +kernel
theorem d_Mo_below_11 : decode b_Mo_below 11 = .ok (.isub, 1) := by decide +kernel
theorem d_Mo_below_12 : decode b_Mo_below 12 = .ok (.imul, 1) := by decide +kernel
theorem d_Mo_below_13 : decode b_Mo_below 13 = .ok (.bipush (6), 2) := by decide +kernel
theorem d_Mo_below_15 : decode b_Mo_below 15 = .ok (.iadd, 1) := by decide +kernel
theorem d_Mo_below_16 : decode b_Mo_below 16 = .ok (.aload_n 0, 1) := by decide +kernel
theorem d_Mo_below_17 : decode b_Mo_below 17 = .ok (.getfield 47, 3) := by decide +kernel
theorem d_Mo_below_20 : decode b_Mo_below 20 = .ok (.aload_n 0, 1) := by decide +kernel
theorem d_Mo_below_21 : decode b_Mo_below 21 = .ok (.getfield 130, 3) := by decide +kernel
theorem d_Mo_below_24 : decode b_Mo_below 24 = .ok (.iconst 1, 1) := by decide +kernel
theorem d_Mo_below_25 : decode b_Mo_below 25 = .ok (.isub, 1) := by decide +kernel
theorem d_Mo_below_26 : decode b_Mo_below 26 = .ok (.iaload, 1) := by decide +kernel
theorem d_Mo_below_27 : decode b_Mo_below 27 = .ok (.iadd, 1) := by decide +kernel
theorem d_Mo_below_28 : decode b_Mo_below 28 = .ok (.iconst 1, 1) := by decide +kernel
theorem d_Mo_below_29 : decode b_Mo_below 29 = .ok (.isub, 1) := by decide +kernel
theorem d_Mo_below_30 : decode b_Mo_below 30 = .ok (.iload_n 1, 1) := by decide +kernel
theorem d_Mo_below_31 : decode b_Mo_below 31 = .ok (.isub, 1) := by decide +kernel
theorem d_Mo_below_32 : decode b_Mo_below 32 = .ok (.iaload, 1) := by decide +kernel
theorem d_Mo_below_33 : decode b_Mo_below 33 = .ok (.ireturn, 1) := by decide +kernel
def y_Mo_drop : MethodName := ⟨"FrameVerifierModel", "drop", "(I)V"⟩
abbrev b_Mo_drop : ByteArray := prog_11_method_25_code
def rm_Mo_drop : Room := { frames := 0, cells := 0, slots := 0, locals := 0 }
abbrev w_Mo_drop : List Cond := Cond.code y_Mo_drop b_Mo_drop 2 none :: wG
theorem m_Mo_drop : Cond.code y_Mo_drop b_Mo_drop 2 none ∈ wG := wg_t 952 (by decide +kernel) (by decide +kernel)
theorem q_Mo_drop : y_Mo_drop.cls ≠ "java/lang/invoke/MethodHandle" ∧ y_Mo_drop.cls ≠ "java/lang/invoke/VarHandle" ∧ (parseMethodDescriptor y_Mo_drop.desc).map (fun d => d.parameters.length) = some 1 := by decide +kernel
theorem g_Mo_drop : Cond.initialized y_Mo_drop.cls ∈ wG := wg_t 6 (by decide +kernel) (by decide +kernel)
theorem s_Mo_drop : Cond.instanceMethod y_Mo_drop ∈ wG := wg_t 951 (by decide +kernel) (by decide +kernel)
theorem e_Mo_drop : Cond.selects "FrameVerifierModel" y_Mo_drop y_Mo_drop ∈ wG := wg_s (q := (y_Mo_drop, 27)) 43 (by decide +kernel) (by decide +kernel)
theorem d_Mo_drop_0 : decode b_Mo_drop 0 = .ok (.aload_n 0, 1) := by decide +kernel
theorem d_Mo_drop_1 : decode b_Mo_drop 1 = .ok (.getfield 47, 3) := by decide +kernel
theorem d_Mo_drop_4 : decode b_Mo_drop 4 = .ok (.aload_n 0, 1) := by decide +kernel
theorem d_Mo_drop_5 : decode b_Mo_drop 5 = .ok (.getfield 130, 3) := by decide +kernel
theorem d_Mo_drop_8 : decode b_Mo_drop 8 = .ok (.iconst 1, 1) := by decide +kernel
theorem d_Mo_drop_9 : decode b_Mo_drop 9 = .ok (.isub, 1) := by decide +kernel
theorem d_Mo_drop_10 : decode b_Mo_drop 10 = .ok (.dup2, 1) := by decide +kernel
theorem d_Mo_drop_11 : decode b_Mo_drop 11 = .ok (.iaload, 1) := by decide +kernel
theorem d_Mo_drop_12 : decode b_Mo_drop 12 = .ok (.iload_n 1, 1) := by decide +kernel
theorem d_Mo_drop_13 : decode b_Mo_drop 13 = .ok (.isub, 1) := by decide +kernel
theorem d_Mo_drop_14 : decode b_Mo_drop 14 = .ok (.iastore, 1) := by decide +kernel
theorem d_Mo_drop_15 : decode b_Mo_drop 15 = .ok (.return_, 1) := by decide +kernel
def y_Mo_put : MethodName := ⟨"FrameVerifierModel", "put", "(II)V"⟩
abbrev b_Mo_put : ByteArray := prog_11_method_26_code
def rm_Mo_put : Room := { frames := 0, cells := 0, slots := 0, locals := 0 }
abbrev w_Mo_put : List Cond := Cond.code y_Mo_put b_Mo_put 4 none :: wG
theorem m_Mo_put : Cond.code y_Mo_put b_Mo_put 4 none ∈ wG := wg_t 944 (by decide +kernel) (by decide +kernel)
theorem q_Mo_put : y_Mo_put.cls ≠ "java/lang/invoke/MethodHandle" ∧ y_Mo_put.cls ≠ "java/lang/invoke/VarHandle" ∧ (parseMethodDescriptor y_Mo_put.desc).map (fun d => d.parameters.length) = some 2 := by decide +kernel
theorem g_Mo_put : Cond.initialized y_Mo_put.cls ∈ wG := wg_t 6 (by decide +kernel) (by decide +kernel)
theorem s_Mo_put : Cond.instanceMethod y_Mo_put ∈ wG := wg_t 943 (by decide +kernel) (by decide +kernel)
theorem e_Mo_put : Cond.selects "FrameVerifierModel" y_Mo_put y_Mo_put ∈ wG := wg_s (q := (y_Mo_put, 27)) 41 (by decide +kernel) (by decide +kernel)
theorem d_Mo_put_0 : decode b_Mo_put 0 = .ok (.bipush (12), 2) := by decide +kernel
theorem d_Mo_put_2 : decode b_Mo_put 2 = .ok (.aload_n 0, 1) := by decide +kernel
theorem d_Mo_put_3 : decode b_Mo_put 3 = .ok (.getfield 130, 3) := by decide +kernel
theorem d_Mo_put_6 : decode b_Mo_put 6 = .ok (.iconst 1, 1) := by decide +kernel
theorem d_Mo_put_7 : decode b_Mo_put 7 = .ok (.isub, 1) := by decide +kernel
theorem d_Mo_put_8 : decode b_Mo_put 8 = .ok (.imul, 1) := by decide +kernel
theorem d_Mo_put_9 : decode b_Mo_put 9 = .ok (.bipush (6), 2) := by decide +kernel
theorem d_Mo_put_11 : decode b_Mo_put 11 = .ok (.iadd, 1) := by decide +kernel
theorem d_Mo_put_12 : decode b_Mo_put 12 = .ok (.aload_n 0, 1) := by decide +kernel
theorem d_Mo_put_13 : decode b_Mo_put 13 = .ok (.getfield 47, 3) := by decide +kernel
theorem d_Mo_put_16 : decode b_Mo_put 16 = .ok (.aload_n 0, 1) := by decide +kernel
theorem d_Mo_put_17 : decode b_Mo_put 17 = .ok (.getfield 130, 3) := by decide +kernel
theorem d_Mo_put_20 : decode b_Mo_put 20 = .ok (.iconst 1, 1) := by decide +kernel
theorem d_Mo_put_21 : decode b_Mo_put 21 = .ok (.isub, 1) := by decide +kernel
theorem d_Mo_put_22 : decode b_Mo_put 22 = .ok (.iaload, 1) := by decide +kernel
theorem d_Mo_put_23 : decode b_Mo_put 23 = .ok (.iadd, 1) := by decide +kernel
theorem d_Mo_put_24 : decode b_Mo_put 24 = .ok (.istore_n 3, 1) := by decide +kernel
theorem d_Mo_put_25 : decode b_Mo_put 25 = .ok (.aload_n 0, 1) := by decide +kernel
theorem d_Mo_put_26 : decode b_Mo_put 26 = .ok (.getfield 53, 3) := by decide +kernel
theorem d_Mo_put_29 : decode b_Mo_put 29 = .ok (.iload_n 3, 1) := by decide +kernel
theorem d_Mo_put_30 : decode b_Mo_put 30 = .ok (.iload_n 1, 1) := by decide +kernel
theorem d_Mo_put_31 : decode b_Mo_put 31 = .ok (.iastore, 1) := by decide +kernel
theorem d_Mo_put_32 : decode b_Mo_put 32 = .ok (.aload_n 0, 1) := by decide +kernel
theorem d_Mo_put_33 : decode b_Mo_put 33 = .ok (.getfield 50, 3) := by decide +kernel
theorem d_Mo_put_36 : decode b_Mo_put 36 = .ok (.iload_n 3, 1) := by decide +kernel
theorem d_Mo_put_37 : decode b_Mo_put 37 = .ok (.iload_n 2, 1) := by decide +kernel
theorem d_Mo_put_38 : decode b_Mo_put 38 = .ok (.iastore, 1) := by decide +kernel
theorem d_Mo_put_39 : decode b_Mo_put 39 = .ok (.aload_n 0, 1) := by decide +kernel
theorem d_Mo_put_40 : decode b_Mo_put 40 = .ok (.getfield 47, 3) := by decide +kernel
theorem d_Mo_put_43 : decode b_Mo_put 43 = .ok (.aload_n 0, 1) := by decide +kernel
theorem d_Mo_put_44 : decode b_Mo_put 44 = .ok (.getfield 130, 3) := by decide +kernel
theorem d_Mo_put_47 : decode b_Mo_put 47 = .ok (.iconst 1, 1) := by decide +kernel
theorem d_Mo_put_48 : decode b_Mo_put 48 = .ok (.isub, 1) := by decide +kernel
theorem d_Mo_put_49 : decode b_Mo_put 49 = .ok (.dup2, 1) := by decide +kernel
theorem d_Mo_put_50 : decode b_Mo_put 50 = .ok (.iaload, 1) := by decide +kernel
theorem d_Mo_put_51 : decode b_Mo_put 51 = .ok (.iconst 1, 1) := by decide +kernel
theorem d_Mo_put_52 : decode b_Mo_put 52 = .ok (.iadd, 1) := by decide +kernel
theorem d_Mo_put_53 : decode b_Mo_put 53 = .ok (.iastore, 1) := by decide +kernel
theorem d_Mo_put_54 : decode b_Mo_put 54 = .ok (.return_, 1) := by decide +kernel
def y_Mo_lengthOf : MethodName := ⟨"FrameVerifierModel", "lengthOf", "(I)I"⟩
abbrev b_Mo_lengthOf : ByteArray := prog_11_method_27_code
def rm_Mo_lengthOf : Room := { frames := 0, cells := 0, slots := 0, locals := 0 }
abbrev w_Mo_lengthOf : List Cond := Cond.code y_Mo_lengthOf b_Mo_lengthOf 1 (some .int) :: wG
theorem m_Mo_lengthOf : Cond.code y_Mo_lengthOf b_Mo_lengthOf 1 (some .int) ∈ wG := wg_t 936 (by decide +kernel) (by decide +kernel)
theorem q_Mo_lengthOf : y_Mo_lengthOf.cls ≠ "java/lang/invoke/MethodHandle" ∧ y_Mo_lengthOf.cls ≠ "java/lang/invoke/VarHandle" ∧ (parseMethodDescriptor y_Mo_lengthOf.desc).map (fun d => d.parameters.length) = some 1 := by decide +kernel
theorem g_Mo_lengthOf : Cond.initialized y_Mo_lengthOf.cls ∈ wG := wg_t 6 (by decide +kernel) (by decide +kernel)
theorem s_Mo_lengthOf : Cond.static y_Mo_lengthOf ∈ wG := wg_t 935 (by decide +kernel) (by decide +kernel)
theorem d_Mo_lengthOf_0 : decode b_Mo_lengthOf 0 = .ok (.iload_n 0, 1) := by decide +kernel
theorem d_Mo_lengthOf_1 : decode b_Mo_lengthOf 1 = .ok (.iconst 1, 1) := by decide +kernel
theorem d_Mo_lengthOf_2 : decode b_Mo_lengthOf 2 = .ok (.isub, 1) := by decide +kernel
theorem d_Mo_lengthOf_3 : decode b_Mo_lengthOf 3 = .ok (.bipush (16), 2) := by decide +kernel
theorem d_Mo_lengthOf_5 : decode b_Mo_lengthOf 5 = .ok (.irem, 1) := by decide +kernel
theorem d_Mo_lengthOf_6 : decode b_Mo_lengthOf 6 = .ok (.ireturn, 1) := by decide +kernel
def y_Mo_fitsValues : MethodName := ⟨"FrameVerifierModel", "fitsValues", "(I)Z"⟩
abbrev b_Mo_fitsValues : ByteArray := prog_11_method_28_code
def rm_Mo_fitsValues : Room := { frames := 4, cells := 0, slots := 0, locals := 91 }
abbrev w_Mo_fitsValues : List Cond := Cond.code y_Mo_fitsValues b_Mo_fitsValues 4 (some .boolean) :: wG
theorem m_Mo_fitsValues : Cond.code y_Mo_fitsValues b_Mo_fitsValues 4 (some .boolean) ∈ wG := wg_t 922 (by decide +kernel) (by decide +kernel)
theorem q_Mo_fitsValues : y_Mo_fitsValues.cls ≠ "java/lang/invoke/MethodHandle" ∧ y_Mo_fitsValues.cls ≠ "java/lang/invoke/VarHandle" ∧ (parseMethodDescriptor y_Mo_fitsValues.desc).map (fun d => d.parameters.length) = some 1 := by decide +kernel
theorem g_Mo_fitsValues : Cond.initialized y_Mo_fitsValues.cls ∈ wG := wg_t 6 (by decide +kernel) (by decide +kernel)
theorem s_Mo_fitsValues : Cond.instanceMethod y_Mo_fitsValues ∈ wG := wg_t 921 (by decide +kernel) (by decide +kernel)
theorem e_Mo_fitsValues : Cond.selects "FrameVerifierModel" y_Mo_fitsValues y_Mo_fitsValues ∈ wG := wg_s (q := (y_Mo_fitsValues, 27)) 37 (by decide +kernel) (by decide +kernel)
theorem d_Mo_fitsValues_0 : decode b_Mo_fitsValues 0 = .ok (.aload_n 0, 1) := by decide +kernel
theorem d_Mo_fitsValues_1 : decode b_Mo_fitsValues 1 = .ok (.getfield 130, 3) := by decide +kernel
theorem d_Mo_fitsValues_4 : decode b_Mo_fitsValues 4 = .ok (.iconst 1, 1) := by decide +kernel
theorem d_Mo_fitsValues_5 : decode b_Mo_fitsValues 5 = .ok (.isub, 1) := by decide +kernel
theorem d_Mo_fitsValues_6 : decode b_Mo_fitsValues 6 = .ok (.istore_n 2, 1) := by decide +kernel
theorem d_Mo_fitsValues_7 : decode b_Mo_fitsValues 7 = .ok (.aload_n 0, 1) := by decide +kernel
theorem d_Mo_fitsValues_8 : decode b_Mo_fitsValues 8 = .ok (.aload_n 0, 1) := by decide +kernel
theorem d_Mo_fitsValues_9 : decode b_Mo_fitsValues 9 = .ok (.getfield 47, 3) := by decide +kernel
theorem d_Mo_fitsValues_12 : decode b_Mo_fitsValues 12 = .ok (.iload_n 2, 1) := by decide +kernel
theorem d_Mo_fitsValues_13 : decode b_Mo_fitsValues 13 = .ok (.iaload, 1) := by decide +kernel
theorem d_Mo_fitsValues_14 : decode b_Mo_fitsValues 14 = .ok (.putfield 70, 3) := by decide +kernel
theorem d_Mo_fitsValues_17 : decode b_Mo_fitsValues 17 = .ok (.iconst 0, 1) := by decide +kernel
theorem d_Mo_fitsValues_18 : decode b_Mo_fitsValues 18 = .ok (.istore_n 3, 1) := by decide +kernel
theorem d_Mo_fitsValues_19 : decode b_Mo_fitsValues 19 = .ok (.iload_n 3, 1) := by decide +kernel
theorem d_Mo_fitsValues_20 : decode b_Mo_fitsValues 20 = .ok (.bipush (6), 2) := by decide +kernel
theorem d_Mo_fitsValues_22 : decode b_Mo_fitsValues 22 = .ok (.aload_n 0, 1) := by decide +kernel
theorem d_Mo_fitsValues_23 : decode b_Mo_fitsValues 23 = .ok (.getfield 70, 3) := by decide +kernel
theorem d_Mo_fitsValues_26 : decode b_Mo_fitsValues 26 = .ok (.iadd, 1) := by decide +kernel
theorem d_Mo_fitsValues_27 : decode b_Mo_fitsValues 27 = .ok (.if_icmp .ge (26), 3) := by decide +kernel
theorem d_Mo_fitsValues_30 : decode b_Mo_fitsValues 30 = .ok (.aload_n 0, 1) := by decide +kernel
theorem d_Mo_fitsValues_31 : decode b_Mo_fitsValues 31 = .ok (.getfield 38, 3) := by decide +kernel
theorem d_Mo_fitsValues_34 : decode b_Mo_fitsValues 34 = .ok (.iload_n 3, 1) := by decide +kernel
theorem d_Mo_fitsValues_35 : decode b_Mo_fitsValues 35 = .ok (.aload_n 0, 1) := by decide +kernel
theorem d_Mo_fitsValues_36 : decode b_Mo_fitsValues 36 = .ok (.getfield 53, 3) := by decide +kernel
theorem d_Mo_fitsValues_39 : decode b_Mo_fitsValues 39 = .ok (.bipush (12), 2) := by decide +kernel
theorem d_Mo_fitsValues_41 : decode b_Mo_fitsValues 41 = .ok (.iload_n 2, 1) := by decide +kernel
theorem d_Mo_fitsValues_42 : decode b_Mo_fitsValues 42 = .ok (.imul, 1) := by decide +kernel
theorem d_Mo_fitsValues_43 : decode b_Mo_fitsValues 43 = .ok (.iload_n 3, 1) := by decide +kernel
theorem d_Mo_fitsValues_44 : decode b_Mo_fitsValues 44 = .ok (.iadd, 1) := by decide +kernel
theorem d_Mo_fitsValues_45 : decode b_Mo_fitsValues 45 = .ok (.iaload, 1) := by decide +kernel
theorem d_Mo_fitsValues_46 : decode b_Mo_fitsValues 46 = .ok (.iastore, 1) := by decide +kernel
theorem d_Mo_fitsValues_47 : decode b_Mo_fitsValues 47 = .ok (.iinc 3 (1), 3) := by decide +kernel
theorem d_Mo_fitsValues_50 : decode b_Mo_fitsValues 50 = .ok (.goto (-31), 3) := by decide +kernel
theorem d_Mo_fitsValues_53 : decode b_Mo_fitsValues 53 = .ok (.aload_n 0, 1) := by decide +kernel
theorem d_Mo_fitsValues_54 : decode b_Mo_fitsValues 54 = .ok (.aload_n 0, 1) := by decide +kernel
theorem d_Mo_fitsValues_55 : decode b_Mo_fitsValues 55 = .ok (.getfield 41, 3) := by decide +kernel
theorem d_Mo_fitsValues_58 : decode b_Mo_fitsValues 58 = .ok (.iload_n 2, 1) := by decide +kernel
theorem d_Mo_fitsValues_59 : decode b_Mo_fitsValues 59 = .ok (.iaload, 1) := by decide +kernel
theorem d_Mo_fitsValues_60 : decode b_Mo_fitsValues 60 = .ok (.iload_n 1, 1) := by decide +kernel
theorem d_Mo_fitsValues_61 : decode b_Mo_fitsValues 61 = .ok (.invokevirtual 117, 3) := by decide +kernel
theorem d_Mo_fitsValues_64 : decode b_Mo_fitsValues 64 = .ok (.aload_n 0, 1) := by decide +kernel
theorem d_Mo_fitsValues_65 : decode b_Mo_fitsValues 65 = .ok (.getfield 73, 3) := by decide +kernel
theorem d_Mo_fitsValues_68 : decode b_Mo_fitsValues 68 = .ok (.ifCond .ne (7), 3) := by decide +kernel
theorem d_Mo_fitsValues_71 : decode b_Mo_fitsValues 71 = .ok (.iconst 1, 1) := by decide +kernel
theorem d_Mo_fitsValues_72 : decode b_Mo_fitsValues 72 = .ok (.goto (4), 3) := by decide +kernel
theorem d_Mo_fitsValues_75 : decode b_Mo_fitsValues 75 = .ok (.iconst 0, 1) := by decide +kernel
theorem d_Mo_fitsValues_76 : decode b_Mo_fitsValues 76 = .ok (.ireturn, 1) := by decide +kernel
def y_Mo_trapAt : MethodName := ⟨"FrameVerifierModel", "trapAt", "(II)I"⟩
abbrev b_Mo_trapAt : ByteArray := prog_11_method_30_code
def rm_Mo_trapAt : Room := { frames := 1, cells := 0, slots := 0, locals := 20 }
abbrev w_Mo_trapAt : List Cond := Cond.code y_Mo_trapAt b_Mo_trapAt 2 (some .int) :: wG
theorem m_Mo_trapAt : Cond.code y_Mo_trapAt b_Mo_trapAt 2 (some .int) ∈ wG := wg_t 933 (by decide +kernel) (by decide +kernel)
theorem q_Mo_trapAt : y_Mo_trapAt.cls ≠ "java/lang/invoke/MethodHandle" ∧ y_Mo_trapAt.cls ≠ "java/lang/invoke/VarHandle" ∧ (parseMethodDescriptor y_Mo_trapAt.desc).map (fun d => d.parameters.length) = some 2 := by decide +kernel
theorem g_Mo_trapAt : Cond.initialized y_Mo_trapAt.cls ∈ wG := wg_t 6 (by decide +kernel) (by decide +kernel)
theorem s_Mo_trapAt : Cond.static y_Mo_trapAt ∈ wG := wg_t 932 (by decide +kernel) (by decide +kernel)
theorem d_Mo_trapAt_0 : decode b_Mo_trapAt 0 = .ok (.iload_n 0, 1) := by decide +kernel
theorem d_Mo_trapAt_1 : decode b_Mo_trapAt 1 = .ok (.ifCond .ne (7), 3) := by decide +kernel
theorem d_Mo_trapAt_4 : decode b_Mo_trapAt 4 = .ok (.iconst 3, 1) := by decide +kernel
theorem d_Mo_trapAt_5 : decode b_Mo_trapAt 5 = .ok (.goto (20), 3) := by decide +kernel
theorem d_Mo_trapAt_8 : decode b_Mo_trapAt 8 = .ok (.iload_n 1, 1) := by decide +kernel
theorem d_Mo_trapAt_9 : decode b_Mo_trapAt 9 = .ok (.ifCond .lt (11), 3) := by decide +kernel
theorem d_Mo_trapAt_12 : decode b_Mo_trapAt 12 = .ok (.iload_n 1, 1) := by decide +kernel
theorem d_Mo_trapAt_13 : decode b_Mo_trapAt 13 = .ok (.iload_n 0, 1) := by decide +kernel
theorem d_Mo_trapAt_14 : decode b_Mo_trapAt 14 = .ok (.invokestatic 145, 3) := by decide +kernel
theorem d_Mo_trapAt_17 : decode b_Mo_trapAt 17 = .ok (.if_icmp .lt (7), 3) := by decide +kernel
theorem d_Mo_trapAt_20 : decode b_Mo_trapAt 20 = .ok (.iconst 4, 1) := by decide +kernel
theorem d_Mo_trapAt_21 : decode b_Mo_trapAt 21 = .ok (.goto (4), 3) := by decide +kernel
theorem d_Mo_trapAt_24 : decode b_Mo_trapAt 24 = .ok (.iconst 0, 1) := by decide +kernel
theorem d_Mo_trapAt_25 : decode b_Mo_trapAt 25 = .ok (.ireturn, 1) := by decide +kernel
def y_Mo_trapOf : MethodName := ⟨"FrameVerifierModel", "trapOf", "(II)I"⟩
abbrev b_Mo_trapOf : ByteArray := prog_11_method_29_code
def rm_Mo_trapOf : Room := { frames := 2, cells := 0, slots := 0, locals := 41 }
abbrev w_Mo_trapOf : List Cond := Cond.code y_Mo_trapOf b_Mo_trapOf 3 (some .int) :: wG
theorem m_Mo_trapOf : Cond.code y_Mo_trapOf b_Mo_trapOf 3 (some .int) ∈ wG := wg_t 926 (by decide +kernel) (by decide +kernel)
theorem q_Mo_trapOf : y_Mo_trapOf.cls ≠ "java/lang/invoke/MethodHandle" ∧ y_Mo_trapOf.cls ≠ "java/lang/invoke/VarHandle" ∧ (parseMethodDescriptor y_Mo_trapOf.desc).map (fun d => d.parameters.length) = some 2 := by decide +kernel
theorem g_Mo_trapOf : Cond.initialized y_Mo_trapOf.cls ∈ wG := wg_t 6 (by decide +kernel) (by decide +kernel)
theorem s_Mo_trapOf : Cond.instanceMethod y_Mo_trapOf ∈ wG := wg_t 925 (by decide +kernel) (by decide +kernel)
theorem e_Mo_trapOf : Cond.selects "FrameVerifierModel" y_Mo_trapOf y_Mo_trapOf ∈ wG := wg_s (q := (y_Mo_trapOf, 27)) 38 (by decide +kernel) (by decide +kernel)
theorem d_Mo_trapOf_0 : decode b_Mo_trapOf 0 = .ok (.iload_n 1, 1) := by decide +kernel
theorem d_Mo_trapOf_1 : decode b_Mo_trapOf 1 = .ok (.tableswitch (185) (4) (18) #[(75), (185), (185), (185), (185), (185), (185), (89), (128), (142), (156), (185), (185), (185), (170)], 75) := by decide +kernel
theorem d_Mo_trapOf_76 : decode b_Mo_trapOf 76 = .ok (.aload_n 0, 1) := by decide +kernel
theorem d_Mo_trapOf_77 : decode b_Mo_trapOf 77 = .ok (.iconst 0, 1) := by decide +kernel
theorem d_Mo_trapOf_78 : decode b_Mo_trapOf 78 = .ok (.invokevirtual 139, 3) := by decide +kernel
theorem d_Mo_trapOf_81 : decode b_Mo_trapOf 81 = .ok (.ifCond .ne (7), 3) := by decide +kernel
theorem d_Mo_trapOf_84 : decode b_Mo_trapOf 84 = .ok (.iconst 2, 1) := by decide +kernel
theorem d_Mo_trapOf_85 : decode b_Mo_trapOf 85 = .ok (.goto (4), 3) := by decide +kernel
theorem d_Mo_trapOf_88 : decode b_Mo_trapOf 88 = .ok (.iconst 0, 1) := by decide +kernel
theorem d_Mo_trapOf_89 : decode b_Mo_trapOf 89 = .ok (.ireturn, 1) := by decide +kernel
theorem d_Mo_trapOf_90 : decode b_Mo_trapOf 90 = .ok (.aload_n 0, 1) := by decide +kernel
theorem d_Mo_trapOf_91 : decode b_Mo_trapOf 91 = .ok (.iconst 0, 1) := by decide +kernel
theorem d_Mo_trapOf_92 : decode b_Mo_trapOf 92 = .ok (.invokevirtual 139, 3) := by decide +kernel
theorem d_Mo_trapOf_95 : decode b_Mo_trapOf 95 = .ok (.ifCond .lt (28), 3) := by decide +kernel
theorem d_Mo_trapOf_98 : decode b_Mo_trapOf 98 = .ok (.aload_n 0, 1) := by decide +kernel
theorem d_Mo_trapOf_99 : decode b_Mo_trapOf 99 = .ok (.iconst 0, 1) := by decide +kernel
theorem d_Mo_trapOf_100 : decode b_Mo_trapOf 100 = .ok (.invokevirtual 139, 3) := by decide +kernel
theorem d_Mo_trapOf_103 : decode b_Mo_trapOf 103 = .ok (.bipush (12), 2) := by decide +kernel
theorem d_Mo_trapOf_105 : decode b_Mo_trapOf 105 = .ok (.if_icmp .gt (18), 3) := by decide +kernel
theorem d_Mo_trapOf_108 : decode b_Mo_trapOf 108 = .ok (.aload_n 0, 1) := by decide +kernel
theorem d_Mo_trapOf_109 : decode b_Mo_trapOf 109 = .ok (.getfield 133, 3) := by decide +kernel
theorem d_Mo_trapOf_112 : decode b_Mo_trapOf 112 = .ok (.aload_n 0, 1) := by decide +kernel
theorem d_Mo_trapOf_113 : decode b_Mo_trapOf 113 = .ok (.iconst 0, 1) := by decide +kernel
theorem d_Mo_trapOf_114 : decode b_Mo_trapOf 114 = .ok (.invokevirtual 139, 3) := by decide +kernel
theorem d_Mo_trapOf_117 : decode b_Mo_trapOf 117 = .ok (.iadd, 1) := by decide +kernel
theorem d_Mo_trapOf_118 : decode b_Mo_trapOf 118 = .ok (.bipush (30), 2) := by decide +kernel
theorem d_Mo_trapOf_120 : decode b_Mo_trapOf 120 = .ok (.if_icmp .le (7), 3) := by decide +kernel
theorem d_Mo_trapOf_123 : decode b_Mo_trapOf 123 = .ok (.iconst 5, 1) := by decide +kernel
theorem d_Mo_trapOf_124 : decode b_Mo_trapOf 124 = .ok (.goto (4), 3) := by decide +kernel
theorem d_Mo_trapOf_127 : decode b_Mo_trapOf 127 = .ok (.iconst 0, 1) := by decide +kernel
theorem d_Mo_trapOf_128 : decode b_Mo_trapOf 128 = .ok (.ireturn, 1) := by decide +kernel
theorem d_Mo_trapOf_129 : decode b_Mo_trapOf 129 = .ok (.aload_n 0, 1) := by decide +kernel
theorem d_Mo_trapOf_130 : decode b_Mo_trapOf 130 = .ok (.iconst 1, 1) := by decide +kernel
theorem d_Mo_trapOf_131 : decode b_Mo_trapOf 131 = .ok (.invokevirtual 139, 3) := by decide +kernel
theorem d_Mo_trapOf_134 : decode b_Mo_trapOf 134 = .ok (.aload_n 0, 1) := by decide +kernel
theorem d_Mo_trapOf_135 : decode b_Mo_trapOf 135 = .ok (.iconst 0, 1) := by decide +kernel
theorem d_Mo_trapOf_136 : decode b_Mo_trapOf 136 = .ok (.invokevirtual 139, 3) := by decide +kernel
theorem d_Mo_trapOf_139 : decode b_Mo_trapOf 139 = .ok (.invokestatic 142, 3) := by decide +kernel
theorem d_Mo_trapOf_142 : decode b_Mo_trapOf 142 = .ok (.ireturn, 1) := by decide +kernel
theorem d_Mo_trapOf_143 : decode b_Mo_trapOf 143 = .ok (.aload_n 0, 1) := by decide +kernel
theorem d_Mo_trapOf_144 : decode b_Mo_trapOf 144 = .ok (.iconst 2, 1) := by decide +kernel
theorem d_Mo_trapOf_145 : decode b_Mo_trapOf 145 = .ok (.invokevirtual 139, 3) := by decide +kernel
theorem d_Mo_trapOf_148 : decode b_Mo_trapOf 148 = .ok (.aload_n 0, 1) := by decide +kernel
theorem d_Mo_trapOf_149 : decode b_Mo_trapOf 149 = .ok (.iconst 1, 1) := by decide +kernel
theorem d_Mo_trapOf_150 : decode b_Mo_trapOf 150 = .ok (.invokevirtual 139, 3) := by decide +kernel
theorem d_Mo_trapOf_153 : decode b_Mo_trapOf 153 = .ok (.invokestatic 142, 3) := by decide +kernel
theorem d_Mo_trapOf_156 : decode b_Mo_trapOf 156 = .ok (.ireturn, 1) := by decide +kernel
theorem d_Mo_trapOf_157 : decode b_Mo_trapOf 157 = .ok (.aload_n 0, 1) := by decide +kernel
theorem d_Mo_trapOf_158 : decode b_Mo_trapOf 158 = .ok (.iconst 0, 1) := by decide +kernel
theorem d_Mo_trapOf_159 : decode b_Mo_trapOf 159 = .ok (.invokevirtual 139, 3) := by decide +kernel
theorem d_Mo_trapOf_162 : decode b_Mo_trapOf 162 = .ok (.ifCond .ne (7), 3) := by decide +kernel
theorem d_Mo_trapOf_165 : decode b_Mo_trapOf 165 = .ok (.iconst 3, 1) := by decide +kernel
theorem d_Mo_trapOf_166 : decode b_Mo_trapOf 166 = .ok (.goto (4), 3) := by decide +kernel
theorem d_Mo_trapOf_169 : decode b_Mo_trapOf 169 = .ok (.iconst 0, 1) := by decide +kernel
theorem d_Mo_trapOf_170 : decode b_Mo_trapOf 170 = .ok (.ireturn, 1) := by decide +kernel
theorem d_Mo_trapOf_171 : decode b_Mo_trapOf 171 = .ok (.aload_n 0, 1) := by decide +kernel
theorem d_Mo_trapOf_172 : decode b_Mo_trapOf 172 = .ok (.getfield 130, 3) := by decide +kernel
theorem d_Mo_trapOf_175 : decode b_Mo_trapOf 175 = .ok (.bipush (8), 2) := by decide +kernel
theorem d_Mo_trapOf_177 : decode b_Mo_trapOf 177 = .ok (.if_icmp .ne (7), 3) := by decide +kernel
theorem d_Mo_trapOf_180 : decode b_Mo_trapOf 180 = .ok (.iconst 5, 1) := by decide +kernel
theorem d_Mo_trapOf_181 : decode b_Mo_trapOf 181 = .ok (.goto (4), 3) := by decide +kernel
theorem d_Mo_trapOf_184 : decode b_Mo_trapOf 184 = .ok (.iconst 0, 1) := by decide +kernel
theorem d_Mo_trapOf_185 : decode b_Mo_trapOf 185 = .ok (.ireturn, 1) := by decide +kernel
theorem d_Mo_trapOf_186 : decode b_Mo_trapOf 186 = .ok (.iconst 0, 1) := by decide +kernel
theorem d_Mo_trapOf_187 : decode b_Mo_trapOf 187 = .ok (.ireturn, 1) := by decide +kernel
def y_Mo_calculate : MethodName := ⟨"FrameVerifierModel", "calculate", "(I)V"⟩
abbrev b_Mo_calculate : ByteArray := prog_11_method_31_code
def rm_Mo_calculate : Room := { frames := 1, cells := 0, slots := 0, locals := 23 }
abbrev w_Mo_calculate : List Cond := Cond.code y_Mo_calculate b_Mo_calculate 4 none :: wG
theorem m_Mo_calculate : Cond.code y_Mo_calculate b_Mo_calculate 4 none ∈ wG := wg_t 948 (by decide +kernel) (by decide +kernel)
theorem q_Mo_calculate : y_Mo_calculate.cls ≠ "java/lang/invoke/MethodHandle" ∧ y_Mo_calculate.cls ≠ "java/lang/invoke/VarHandle" ∧ (parseMethodDescriptor y_Mo_calculate.desc).map (fun d => d.parameters.length) = some 1 := by decide +kernel
theorem g_Mo_calculate : Cond.initialized y_Mo_calculate.cls ∈ wG := wg_t 6 (by decide +kernel) (by decide +kernel)
theorem s_Mo_calculate : Cond.instanceMethod y_Mo_calculate ∈ wG := wg_t 947 (by decide +kernel) (by decide +kernel)
theorem e_Mo_calculate : Cond.selects "FrameVerifierModel" y_Mo_calculate y_Mo_calculate ∈ wG := wg_s (q := (y_Mo_calculate, 27)) 42 (by decide +kernel) (by decide +kernel)
theorem d_Mo_calculate_0 : decode b_Mo_calculate 0 = .ok (.aload_n 0, 1) := by decide +kernel
theorem d_Mo_calculate_1 : decode b_Mo_calculate 1 = .ok (.iconst 0, 1) := by decide +kernel
theorem d_Mo_calculate_2 : decode b_Mo_calculate 2 = .ok (.invokevirtual 139, 3) := by decide +kernel
theorem d_Mo_calculate_5 : decode b_Mo_calculate 5 = .ok (.istore_n 2, 1) := by decide +kernel
theorem d_Mo_calculate_6 : decode b_Mo_calculate 6 = .ok (.aload_n 0, 1) := by decide +kernel
theorem d_Mo_calculate_7 : decode b_Mo_calculate 7 = .ok (.iconst 1, 1) := by decide +kernel
theorem d_Mo_calculate_8 : decode b_Mo_calculate 8 = .ok (.invokevirtual 139, 3) := by decide +kernel
theorem d_Mo_calculate_11 : decode b_Mo_calculate 11 = .ok (.istore_n 3, 1) := by decide +kernel
theorem d_Mo_calculate_12 : decode b_Mo_calculate 12 = .ok (.aload_n 0, 1) := by decide +kernel
theorem d_Mo_calculate_13 : decode b_Mo_calculate 13 = .ok (.iconst 2, 1) := by decide +kernel
theorem d_Mo_calculate_14 : decode b_Mo_calculate 14 = .ok (.invokevirtual 148, 3) := by decide +kernel
theorem d_Mo_calculate_17 : decode b_Mo_calculate 17 = .ok (.aload_n 0, 1) := by decide +kernel
theorem d_Mo_calculate_18 : decode b_Mo_calculate 18 = .ok (.iconst 1, 1) := by decide +kernel
theorem d_Mo_calculate_19 : decode b_Mo_calculate 19 = .ok (.iload_n 1, 1) := by decide +kernel
theorem d_Mo_calculate_20 : decode b_Mo_calculate 20 = .ok (.iconst 1, 1) := by decide +kernel
theorem d_Mo_calculate_21 : decode b_Mo_calculate 21 = .ok (.if_icmp .ne (9), 3) := by decide +kernel
theorem d_Mo_calculate_24 : decode b_Mo_calculate 24 = .ok (.iload_n 3, 1) := by decide +kernel
theorem d_Mo_calculate_25 : decode b_Mo_calculate 25 = .ok (.iload_n 2, 1) := by decide +kernel
theorem d_Mo_calculate_26 : decode b_Mo_calculate 26 = .ok (.iadd, 1) := by decide +kernel
theorem d_Mo_calculate_27 : decode b_Mo_calculate 27 = .ok (.goto (28), 3) := by decide +kernel
theorem d_Mo_calculate_30 : decode b_Mo_calculate 30 = .ok (.iload_n 1, 1) := by decide +kernel
theorem d_Mo_calculate_31 : decode b_Mo_calculate 31 = .ok (.iconst 2, 1) := by decide +kernel
theorem d_Mo_calculate_32 : decode b_Mo_calculate 32 = .ok (.if_icmp .ne (9), 3) := by decide +kernel
theorem d_Mo_calculate_35 : decode b_Mo_calculate 35 = .ok (.iload_n 3, 1) := by decide +kernel
theorem d_Mo_calculate_36 : decode b_Mo_calculate 36 = .ok (.iload_n 2, 1) := by decide +kernel
theorem d_Mo_calculate_37 : decode b_Mo_calculate 37 = .ok (.isub, 1) := by decide +kernel
theorem d_Mo_calculate_38 : decode b_Mo_calculate 38 = .ok (.goto (17), 3) := by decide +kernel
theorem d_Mo_calculate_41 : decode b_Mo_calculate 41 = .ok (.iload_n 1, 1) := by decide +kernel
theorem d_Mo_calculate_42 : decode b_Mo_calculate 42 = .ok (.iconst 3, 1) := by decide +kernel
theorem d_Mo_calculate_43 : decode b_Mo_calculate 43 = .ok (.if_icmp .ne (9), 3) := by decide +kernel
theorem d_Mo_calculate_46 : decode b_Mo_calculate 46 = .ok (.iload_n 3, 1) := by decide +kernel
theorem d_Mo_calculate_47 : decode b_Mo_calculate 47 = .ok (.iload_n 2, 1) := by decide +kernel
theorem d_Mo_calculate_48 : decode b_Mo_calculate 48 = .ok (.imul, 1) := by decide +kernel
theorem d_Mo_calculate_49 : decode b_Mo_calculate 49 = .ok (.goto (6), 3) := by decide +kernel
theorem d_Mo_calculate_52 : decode b_Mo_calculate 52 = .ok (.iload_n 3, 1) := by decide +kernel
theorem d_Mo_calculate_53 : decode b_Mo_calculate 53 = .ok (.iload_n 2, 1) := by decide +kernel
theorem d_Mo_calculate_54 : decode b_Mo_calculate 54 = .ok (.idiv, 1) := by decide +kernel
theorem d_Mo_calculate_55 : decode b_Mo_calculate 55 = .ok (.invokevirtual 151, 3) := by decide +kernel
theorem d_Mo_calculate_58 : decode b_Mo_calculate 58 = .ok (.return_, 1) := by decide +kernel
def y_Mo_onArrays : MethodName := ⟨"FrameVerifierModel", "onArrays", "(I)V"⟩
abbrev b_Mo_onArrays : ByteArray := prog_11_method_32_code
def rm_Mo_onArrays : Room := { frames := 1, cells := 0, slots := 0, locals := 23 }
abbrev w_Mo_onArrays : List Cond := Cond.code y_Mo_onArrays b_Mo_onArrays 4 none :: wG
theorem m_Mo_onArrays : Cond.code y_Mo_onArrays b_Mo_onArrays 4 none ∈ wG := wg_t 956 (by decide +kernel) (by decide +kernel)
theorem q_Mo_onArrays : y_Mo_onArrays.cls ≠ "java/lang/invoke/MethodHandle" ∧ y_Mo_onArrays.cls ≠ "java/lang/invoke/VarHandle" ∧ (parseMethodDescriptor y_Mo_onArrays.desc).map (fun d => d.parameters.length) = some 1 := by decide +kernel
theorem g_Mo_onArrays : Cond.initialized y_Mo_onArrays.cls ∈ wG := wg_t 6 (by decide +kernel) (by decide +kernel)
theorem s_Mo_onArrays : Cond.instanceMethod y_Mo_onArrays ∈ wG := wg_t 955 (by decide +kernel) (by decide +kernel)
theorem e_Mo_onArrays : Cond.selects "FrameVerifierModel" y_Mo_onArrays y_Mo_onArrays ∈ wG := wg_s (q := (y_Mo_onArrays, 27)) 44 (by decide +kernel) (by decide +kernel)
theorem d_Mo_onArrays_0 : decode b_Mo_onArrays 0 = .ok (.iload_n 1, 1) := by decide +kernel
theorem d_Mo_onArrays_1 : decode b_Mo_onArrays 1 = .ok (.bipush (11), 2) := by decide +kernel
theorem d_Mo_onArrays_3 : decode b_Mo_onArrays 3 = .ok (.if_icmp .ne (68), 3) := by decide +kernel
theorem d_Mo_onArrays_6 : decode b_Mo_onArrays 6 = .ok (.aload_n 0, 1) := by decide +kernel
theorem d_Mo_onArrays_7 : decode b_Mo_onArrays 7 = .ok (.iconst 0, 1) := by decide +kernel
theorem d_Mo_onArrays_8 : decode b_Mo_onArrays 8 = .ok (.invokevirtual 139, 3) := by decide +kernel
theorem d_Mo_onArrays_11 : decode b_Mo_onArrays 11 = .ok (.istore_n 2, 1) := by decide +kernel
theorem d_Mo_onArrays_12 : decode b_Mo_onArrays 12 = .ok (.aload_n 0, 1) := by decide +kernel
theorem d_Mo_onArrays_13 : decode b_Mo_onArrays 13 = .ok (.iconst 1, 1) := by decide +kernel
theorem d_Mo_onArrays_14 : decode b_Mo_onArrays 14 = .ok (.invokevirtual 148, 3) := by decide +kernel
theorem d_Mo_onArrays_17 : decode b_Mo_onArrays 17 = .ok (.aload_n 0, 1) := by decide +kernel
theorem d_Mo_onArrays_18 : decode b_Mo_onArrays 18 = .ok (.iconst 2, 1) := by decide +kernel
theorem d_Mo_onArrays_19 : decode b_Mo_onArrays 19 = .ok (.iconst 1, 1) := by decide +kernel
theorem d_Mo_onArrays_20 : decode b_Mo_onArrays 20 = .ok (.bipush (16), 2) := by decide +kernel
theorem d_Mo_onArrays_22 : decode b_Mo_onArrays 22 = .ok (.aload_n 0, 1) := by decide +kernel
theorem d_Mo_onArrays_23 : decode b_Mo_onArrays 23 = .ok (.getfield 133, 3) := by decide +kernel
theorem d_Mo_onArrays_26 : decode b_Mo_onArrays 26 = .ok (.imul, 1) := by decide +kernel
theorem d_Mo_onArrays_27 : decode b_Mo_onArrays 27 = .ok (.iadd, 1) := by decide +kernel
theorem d_Mo_onArrays_28 : decode b_Mo_onArrays 28 = .ok (.iload_n 2, 1) := by decide +kernel
theorem d_Mo_onArrays_29 : decode b_Mo_onArrays 29 = .ok (.iadd, 1) := by decide +kernel
theorem d_Mo_onArrays_30 : decode b_Mo_onArrays 30 = .ok (.invokevirtual 151, 3) := by decide +kernel
theorem d_Mo_onArrays_33 : decode b_Mo_onArrays 33 = .ok (.iconst 0, 1) := by decide +kernel
theorem d_Mo_onArrays_34 : decode b_Mo_onArrays 34 = .ok (.istore_n 3, 1) := by decide +kernel
theorem d_Mo_onArrays_35 : decode b_Mo_onArrays 35 = .ok (.iload_n 3, 1) := by decide +kernel
theorem d_Mo_onArrays_36 : decode b_Mo_onArrays 36 = .ok (.iload_n 2, 1) := by decide +kernel
theorem d_Mo_onArrays_37 : decode b_Mo_onArrays 37 = .ok (.if_icmp .ge (21), 3) := by decide +kernel
theorem d_Mo_onArrays_40 : decode b_Mo_onArrays 40 = .ok (.aload_n 0, 1) := by decide +kernel
theorem d_Mo_onArrays_41 : decode b_Mo_onArrays 41 = .ok (.getfield 56, 3) := by decide +kernel
theorem d_Mo_onArrays_44 : decode b_Mo_onArrays 44 = .ok (.aload_n 0, 1) := by decide +kernel
theorem d_Mo_onArrays_45 : decode b_Mo_onArrays 45 = .ok (.getfield 133, 3) := by decide +kernel
theorem d_Mo_onArrays_48 : decode b_Mo_onArrays 48 = .ok (.iload_n 3, 1) := by decide +kernel
theorem d_Mo_onArrays_49 : decode b_Mo_onArrays 49 = .ok (.iadd, 1) := by decide +kernel
theorem d_Mo_onArrays_50 : decode b_Mo_onArrays 50 = .ok (.iconst 0, 1) := by decide +kernel
theorem d_Mo_onArrays_51 : decode b_Mo_onArrays 51 = .ok (.iastore, 1) := by decide +kernel
theorem d_Mo_onArrays_52 : decode b_Mo_onArrays 52 = .ok (.iinc 3 (1), 3) := by decide +kernel
theorem d_Mo_onArrays_55 : decode b_Mo_onArrays 55 = .ok (.goto (-20), 3) := by decide +kernel
theorem d_Mo_onArrays_58 : decode b_Mo_onArrays 58 = .ok (.aload_n 0, 1) := by decide +kernel
theorem d_Mo_onArrays_59 : decode b_Mo_onArrays 59 = .ok (.dup, 1) := by decide +kernel
theorem d_Mo_onArrays_60 : decode b_Mo_onArrays 60 = .ok (.getfield 133, 3) := by decide +kernel
theorem d_Mo_onArrays_63 : decode b_Mo_onArrays 63 = .ok (.iload_n 2, 1) := by decide +kernel
theorem d_Mo_onArrays_64 : decode b_Mo_onArrays 64 = .ok (.iadd, 1) := by decide +kernel
theorem d_Mo_onArrays_65 : decode b_Mo_onArrays 65 = .ok (.putfield 133, 3) := by decide +kernel
theorem d_Mo_onArrays_68 : decode b_Mo_onArrays 68 = .ok (.goto (105), 3) := by decide +kernel
theorem d_Mo_onArrays_71 : decode b_Mo_onArrays 71 = .ok (.iload_n 1, 1) := by decide +kernel
theorem d_Mo_onArrays_72 : decode b_Mo_onArrays 72 = .ok (.bipush (12), 2) := by decide +kernel
theorem d_Mo_onArrays_74 : decode b_Mo_onArrays 74 = .ok (.if_icmp .ne (39), 3) := by decide +kernel
theorem d_Mo_onArrays_77 : decode b_Mo_onArrays 77 = .ok (.aload_n 0, 1) := by decide +kernel
theorem d_Mo_onArrays_78 : decode b_Mo_onArrays 78 = .ok (.getfield 56, 3) := by decide +kernel
theorem d_Mo_onArrays_81 : decode b_Mo_onArrays 81 = .ok (.aload_n 0, 1) := by decide +kernel
theorem d_Mo_onArrays_82 : decode b_Mo_onArrays 82 = .ok (.iconst 1, 1) := by decide +kernel
theorem d_Mo_onArrays_83 : decode b_Mo_onArrays 83 = .ok (.invokevirtual 139, 3) := by decide +kernel
theorem d_Mo_onArrays_86 : decode b_Mo_onArrays 86 = .ok (.iconst 1, 1) := by decide +kernel
theorem d_Mo_onArrays_87 : decode b_Mo_onArrays 87 = .ok (.isub, 1) := by decide +kernel
theorem d_Mo_onArrays_88 : decode b_Mo_onArrays 88 = .ok (.bipush (16), 2) := by decide +kernel
theorem d_Mo_onArrays_90 : decode b_Mo_onArrays 90 = .ok (.idiv, 1) := by decide +kernel
theorem d_Mo_onArrays_91 : decode b_Mo_onArrays 91 = .ok (.aload_n 0, 1) := by decide +kernel
theorem d_Mo_onArrays_92 : decode b_Mo_onArrays 92 = .ok (.iconst 0, 1) := by decide +kernel
theorem d_Mo_onArrays_93 : decode b_Mo_onArrays 93 = .ok (.invokevirtual 139, 3) := by decide +kernel
theorem d_Mo_onArrays_96 : decode b_Mo_onArrays 96 = .ok (.iadd, 1) := by decide +kernel
theorem d_Mo_onArrays_97 : decode b_Mo_onArrays 97 = .ok (.iaload, 1) := by decide +kernel
theorem d_Mo_onArrays_98 : decode b_Mo_onArrays 98 = .ok (.istore_n 2, 1) := by decide +kernel
theorem d_Mo_onArrays_99 : decode b_Mo_onArrays 99 = .ok (.aload_n 0, 1) := by decide +kernel
theorem d_Mo_onArrays_100 : decode b_Mo_onArrays 100 = .ok (.iconst 2, 1) := by decide +kernel
theorem d_Mo_onArrays_101 : decode b_Mo_onArrays 101 = .ok (.invokevirtual 148, 3) := by decide +kernel
theorem d_Mo_onArrays_104 : decode b_Mo_onArrays 104 = .ok (.aload_n 0, 1) := by decide +kernel
theorem d_Mo_onArrays_105 : decode b_Mo_onArrays 105 = .ok (.iconst 1, 1) := by decide +kernel
theorem d_Mo_onArrays_106 : decode b_Mo_onArrays 106 = .ok (.iload_n 2, 1) := by decide +kernel
theorem d_Mo_onArrays_107 : decode b_Mo_onArrays 107 = .ok (.invokevirtual 151, 3) := by decide +kernel
theorem d_Mo_onArrays_110 : decode b_Mo_onArrays 110 = .ok (.goto (63), 3) := by decide +kernel
theorem d_Mo_onArrays_113 : decode b_Mo_onArrays 113 = .ok (.iload_n 1, 1) := by decide +kernel
theorem d_Mo_onArrays_114 : decode b_Mo_onArrays 114 = .ok (.bipush (13), 2) := by decide +kernel
theorem d_Mo_onArrays_116 : decode b_Mo_onArrays 116 = .ok (.if_icmp .ne (37), 3) := by decide +kernel
theorem d_Mo_onArrays_119 : decode b_Mo_onArrays 119 = .ok (.aload_n 0, 1) := by decide +kernel
theorem d_Mo_onArrays_120 : decode b_Mo_onArrays 120 = .ok (.getfield 56, 3) := by decide +kernel
theorem d_Mo_onArrays_123 : decode b_Mo_onArrays 123 = .ok (.aload_n 0, 1) := by decide +kernel
theorem d_Mo_onArrays_124 : decode b_Mo_onArrays 124 = .ok (.iconst 2, 1) := by decide +kernel
theorem d_Mo_onArrays_125 : decode b_Mo_onArrays 125 = .ok (.invokevirtual 139, 3) := by decide +kernel
theorem d_Mo_onArrays_128 : decode b_Mo_onArrays 128 = .ok (.iconst 1, 1) := by decide +kernel
theorem d_Mo_onArrays_129 : decode b_Mo_onArrays 129 = .ok (.isub, 1) := by decide +kernel
theorem d_Mo_onArrays_130 : decode b_Mo_onArrays 130 = .ok (.bipush (16), 2) := by decide +kernel
theorem d_Mo_onArrays_132 : decode b_Mo_onArrays 132 = .ok (.idiv, 1) := by decide +kernel
theorem d_Mo_onArrays_133 : decode b_Mo_onArrays 133 = .ok (.aload_n 0, 1) := by decide +kernel
theorem d_Mo_onArrays_134 : decode b_Mo_onArrays 134 = .ok (.iconst 1, 1) := by decide +kernel
theorem d_Mo_onArrays_135 : decode b_Mo_onArrays 135 = .ok (.invokevirtual 139, 3) := by decide +kernel
theorem d_Mo_onArrays_138 : decode b_Mo_onArrays 138 = .ok (.iadd, 1) := by decide +kernel
theorem d_Mo_onArrays_139 : decode b_Mo_onArrays 139 = .ok (.aload_n 0, 1) := by decide +kernel
theorem d_Mo_onArrays_140 : decode b_Mo_onArrays 140 = .ok (.iconst 0, 1) := by decide +kernel
theorem d_Mo_onArrays_141 : decode b_Mo_onArrays 141 = .ok (.invokevirtual 139, 3) := by decide +kernel
theorem d_Mo_onArrays_144 : decode b_Mo_onArrays 144 = .ok (.iastore, 1) := by decide +kernel
theorem d_Mo_onArrays_145 : decode b_Mo_onArrays 145 = .ok (.aload_n 0, 1) := by decide +kernel
theorem d_Mo_onArrays_146 : decode b_Mo_onArrays 146 = .ok (.iconst 3, 1) := by decide +kernel
theorem d_Mo_onArrays_147 : decode b_Mo_onArrays 147 = .ok (.invokevirtual 148, 3) := by decide +kernel
theorem d_Mo_onArrays_150 : decode b_Mo_onArrays 150 = .ok (.goto (23), 3) := by decide +kernel
theorem d_Mo_onArrays_153 : decode b_Mo_onArrays 153 = .ok (.aload_n 0, 1) := by decide +kernel
theorem d_Mo_onArrays_154 : decode b_Mo_onArrays 154 = .ok (.iconst 0, 1) := by decide +kernel
theorem d_Mo_onArrays_155 : decode b_Mo_onArrays 155 = .ok (.invokevirtual 139, 3) := by decide +kernel
theorem d_Mo_onArrays_158 : decode b_Mo_onArrays 158 = .ok (.invokestatic 145, 3) := by decide +kernel
theorem d_Mo_onArrays_161 : decode b_Mo_onArrays 161 = .ok (.istore_n 2, 1) := by decide +kernel
theorem d_Mo_onArrays_162 : decode b_Mo_onArrays 162 = .ok (.aload_n 0, 1) := by decide +kernel
theorem d_Mo_onArrays_163 : decode b_Mo_onArrays 163 = .ok (.iconst 1, 1) := by decide +kernel
theorem d_Mo_onArrays_164 : decode b_Mo_onArrays 164 = .ok (.invokevirtual 148, 3) := by decide +kernel
theorem d_Mo_onArrays_167 : decode b_Mo_onArrays 167 = .ok (.aload_n 0, 1) := by decide +kernel
theorem d_Mo_onArrays_168 : decode b_Mo_onArrays 168 = .ok (.iconst 1, 1) := by decide +kernel
theorem d_Mo_onArrays_169 : decode b_Mo_onArrays 169 = .ok (.iload_n 2, 1) := by decide +kernel
theorem d_Mo_onArrays_170 : decode b_Mo_onArrays 170 = .ok (.invokevirtual 151, 3) := by decide +kernel
theorem d_Mo_onArrays_173 : decode b_Mo_onArrays 173 = .ok (.return_, 1) := by decide +kernel
def y_Mo_onPlaces : MethodName := ⟨"FrameVerifierModel", "onPlaces", "(II)V"⟩
abbrev b_Mo_onPlaces : ByteArray := prog_11_method_33_code
def rm_Mo_onPlaces : Room := { frames := 1, cells := 0, slots := 0, locals := 23 }
abbrev w_Mo_onPlaces : List Cond := Cond.code y_Mo_onPlaces b_Mo_onPlaces 7 none :: wG
theorem m_Mo_onPlaces : Cond.code y_Mo_onPlaces b_Mo_onPlaces 7 none ∈ wG := wg_t 971 (by decide +kernel) (by decide +kernel)
theorem q_Mo_onPlaces : y_Mo_onPlaces.cls ≠ "java/lang/invoke/MethodHandle" ∧ y_Mo_onPlaces.cls ≠ "java/lang/invoke/VarHandle" ∧ (parseMethodDescriptor y_Mo_onPlaces.desc).map (fun d => d.parameters.length) = some 2 := by decide +kernel
theorem g_Mo_onPlaces : Cond.initialized y_Mo_onPlaces.cls ∈ wG := wg_t 6 (by decide +kernel) (by decide +kernel)
theorem s_Mo_onPlaces : Cond.instanceMethod y_Mo_onPlaces ∈ wG := wg_t 970 (by decide +kernel) (by decide +kernel)
theorem e_Mo_onPlaces : Cond.selects "FrameVerifierModel" y_Mo_onPlaces y_Mo_onPlaces ∈ wG := wg_s (q := (y_Mo_onPlaces, 27)) 47 (by decide +kernel) (by decide +kernel)
theorem d_Mo_onPlaces_0 : decode b_Mo_onPlaces 0 = .ok (.bipush (12), 2) := by decide +kernel
theorem d_Mo_onPlaces_2 : decode b_Mo_onPlaces 2 = .ok (.aload_n 0, 1) := by decide +kernel
theorem d_Mo_onPlaces_3 : decode b_Mo_onPlaces 3 = .ok (.getfield 130, 3) := by decide +kernel
theorem d_Mo_onPlaces_6 : decode b_Mo_onPlaces 6 = .ok (.iconst 1, 1) := by decide +kernel
theorem d_Mo_onPlaces_7 : decode b_Mo_onPlaces 7 = .ok (.isub, 1) := by decide +kernel
theorem d_Mo_onPlaces_8 : decode b_Mo_onPlaces 8 = .ok (.imul, 1) := by decide +kernel
theorem d_Mo_onPlaces_9 : decode b_Mo_onPlaces 9 = .ok (.istore_n 3, 1) := by decide +kernel
theorem d_Mo_onPlaces_10 : decode b_Mo_onPlaces 10 = .ok (.iload_n 3, 1) := by decide +kernel
theorem d_Mo_onPlaces_11 : decode b_Mo_onPlaces 11 = .ok (.iconst 5, 1) := by decide +kernel
theorem d_Mo_onPlaces_12 : decode b_Mo_onPlaces 12 = .ok (.iadd, 1) := by decide +kernel
theorem d_Mo_onPlaces_13 : decode b_Mo_onPlaces 13 = .ok (.aload_n 0, 1) := by decide +kernel
theorem d_Mo_onPlaces_14 : decode b_Mo_onPlaces 14 = .ok (.getfield 47, 3) := by decide +kernel
theorem d_Mo_onPlaces_17 : decode b_Mo_onPlaces 17 = .ok (.aload_n 0, 1) := by decide +kernel
theorem d_Mo_onPlaces_18 : decode b_Mo_onPlaces 18 = .ok (.getfield 130, 3) := by decide +kernel
theorem d_Mo_onPlaces_21 : decode b_Mo_onPlaces 21 = .ok (.iconst 1, 1) := by decide +kernel
theorem d_Mo_onPlaces_22 : decode b_Mo_onPlaces 22 = .ok (.isub, 1) := by decide +kernel
theorem d_Mo_onPlaces_23 : decode b_Mo_onPlaces 23 = .ok (.iaload, 1) := by decide +kernel
theorem d_Mo_onPlaces_24 : decode b_Mo_onPlaces 24 = .ok (.iadd, 1) := by decide +kernel
theorem d_Mo_onPlaces_25 : decode b_Mo_onPlaces 25 = .ok (.istore 4, 2) := by decide +kernel
theorem d_Mo_onPlaces_27 : decode b_Mo_onPlaces 27 = .ok (.iload_n 1, 1) := by decide +kernel
theorem d_Mo_onPlaces_28 : decode b_Mo_onPlaces 28 = .ok (.iconst 5, 1) := by decide +kernel
theorem d_Mo_onPlaces_29 : decode b_Mo_onPlaces 29 = .ok (.if_icmp .ne (26), 3) := by decide +kernel
theorem d_Mo_onPlaces_32 : decode b_Mo_onPlaces 32 = .ok (.aload_n 0, 1) := by decide +kernel
theorem d_Mo_onPlaces_33 : decode b_Mo_onPlaces 33 = .ok (.aload_n 0, 1) := by decide +kernel
theorem d_Mo_onPlaces_34 : decode b_Mo_onPlaces 34 = .ok (.getfield 53, 3) := by decide +kernel
theorem d_Mo_onPlaces_37 : decode b_Mo_onPlaces 37 = .ok (.iload_n 3, 1) := by decide +kernel
theorem d_Mo_onPlaces_38 : decode b_Mo_onPlaces 38 = .ok (.iload_n 2, 1) := by decide +kernel
theorem d_Mo_onPlaces_39 : decode b_Mo_onPlaces 39 = .ok (.iadd, 1) := by decide +kernel
theorem d_Mo_onPlaces_40 : decode b_Mo_onPlaces 40 = .ok (.iaload, 1) := by decide +kernel
theorem d_Mo_onPlaces_41 : decode b_Mo_onPlaces 41 = .ok (.aload_n 0, 1) := by decide +kernel
theorem d_Mo_onPlaces_42 : decode b_Mo_onPlaces 42 = .ok (.getfield 50, 3) := by decide +kernel
theorem d_Mo_onPlaces_45 : decode b_Mo_onPlaces 45 = .ok (.iload_n 3, 1) := by decide +kernel
theorem d_Mo_onPlaces_46 : decode b_Mo_onPlaces 46 = .ok (.iload_n 2, 1) := by decide +kernel
theorem d_Mo_onPlaces_47 : decode b_Mo_onPlaces 47 = .ok (.iadd, 1) := by decide +kernel
theorem d_Mo_onPlaces_48 : decode b_Mo_onPlaces 48 = .ok (.iaload, 1) := by decide +kernel
theorem d_Mo_onPlaces_49 : decode b_Mo_onPlaces 49 = .ok (.invokevirtual 151, 3) := by decide +kernel
theorem d_Mo_onPlaces_52 : decode b_Mo_onPlaces 52 = .ok (.goto (160), 3) := by decide +kernel
theorem d_Mo_onPlaces_55 : decode b_Mo_onPlaces 55 = .ok (.iload_n 1, 1) := by decide +kernel
theorem d_Mo_onPlaces_56 : decode b_Mo_onPlaces 56 = .ok (.bipush (6), 2) := by decide +kernel
theorem d_Mo_onPlaces_58 : decode b_Mo_onPlaces 58 = .ok (.if_icmp .ne (41), 3) := by decide +kernel
theorem d_Mo_onPlaces_61 : decode b_Mo_onPlaces 61 = .ok (.aload_n 0, 1) := by decide +kernel
theorem d_Mo_onPlaces_62 : decode b_Mo_onPlaces 62 = .ok (.getfield 53, 3) := by decide +kernel
theorem d_Mo_onPlaces_65 : decode b_Mo_onPlaces 65 = .ok (.iload_n 3, 1) := by decide +kernel
theorem d_Mo_onPlaces_66 : decode b_Mo_onPlaces 66 = .ok (.iload_n 2, 1) := by decide +kernel
theorem d_Mo_onPlaces_67 : decode b_Mo_onPlaces 67 = .ok (.iadd, 1) := by decide +kernel
theorem d_Mo_onPlaces_68 : decode b_Mo_onPlaces 68 = .ok (.aload_n 0, 1) := by decide +kernel
theorem d_Mo_onPlaces_69 : decode b_Mo_onPlaces 69 = .ok (.getfield 53, 3) := by decide +kernel
theorem d_Mo_onPlaces_72 : decode b_Mo_onPlaces 72 = .ok (.iload 4, 2) := by decide +kernel
theorem d_Mo_onPlaces_74 : decode b_Mo_onPlaces 74 = .ok (.iaload, 1) := by decide +kernel
theorem d_Mo_onPlaces_75 : decode b_Mo_onPlaces 75 = .ok (.iastore, 1) := by decide +kernel
theorem d_Mo_onPlaces_76 : decode b_Mo_onPlaces 76 = .ok (.aload_n 0, 1) := by decide +kernel
theorem d_Mo_onPlaces_77 : decode b_Mo_onPlaces 77 = .ok (.getfield 50, 3) := by decide +kernel
theorem d_Mo_onPlaces_80 : decode b_Mo_onPlaces 80 = .ok (.iload_n 3, 1) := by decide +kernel
theorem d_Mo_onPlaces_81 : decode b_Mo_onPlaces 81 = .ok (.iload_n 2, 1) := by decide +kernel
theorem d_Mo_onPlaces_82 : decode b_Mo_onPlaces 82 = .ok (.iadd, 1) := by decide +kernel
theorem d_Mo_onPlaces_83 : decode b_Mo_onPlaces 83 = .ok (.aload_n 0, 1) := by decide +kernel
theorem d_Mo_onPlaces_84 : decode b_Mo_onPlaces 84 = .ok (.getfield 50, 3) := by decide +kernel
theorem d_Mo_onPlaces_87 : decode b_Mo_onPlaces 87 = .ok (.iload 4, 2) := by decide +kernel
theorem d_Mo_onPlaces_89 : decode b_Mo_onPlaces 89 = .ok (.iaload, 1) := by decide +kernel
theorem d_Mo_onPlaces_90 : decode b_Mo_onPlaces 90 = .ok (.iastore, 1) := by decide +kernel
theorem d_Mo_onPlaces_91 : decode b_Mo_onPlaces 91 = .ok (.aload_n 0, 1) := by decide +kernel
theorem d_Mo_onPlaces_92 : decode b_Mo_onPlaces 92 = .ok (.iconst 1, 1) := by decide +kernel
theorem d_Mo_onPlaces_93 : decode b_Mo_onPlaces 93 = .ok (.invokevirtual 148, 3) := by decide +kernel
theorem d_Mo_onPlaces_96 : decode b_Mo_onPlaces 96 = .ok (.goto (116), 3) := by decide +kernel
theorem d_Mo_onPlaces_99 : decode b_Mo_onPlaces 99 = .ok (.iload_n 1, 1) := by decide +kernel
theorem d_Mo_onPlaces_100 : decode b_Mo_onPlaces 100 = .ok (.bipush (15), 2) := by decide +kernel
theorem d_Mo_onPlaces_102 : decode b_Mo_onPlaces 102 = .ok (.if_icmp .ne (24), 3) := by decide +kernel
theorem d_Mo_onPlaces_105 : decode b_Mo_onPlaces 105 = .ok (.aload_n 0, 1) := by decide +kernel
theorem d_Mo_onPlaces_106 : decode b_Mo_onPlaces 106 = .ok (.aload_n 0, 1) := by decide +kernel
theorem d_Mo_onPlaces_107 : decode b_Mo_onPlaces 107 = .ok (.getfield 53, 3) := by decide +kernel
theorem d_Mo_onPlaces_110 : decode b_Mo_onPlaces 110 = .ok (.iload 4, 2) := by decide +kernel
theorem d_Mo_onPlaces_112 : decode b_Mo_onPlaces 112 = .ok (.iaload, 1) := by decide +kernel
theorem d_Mo_onPlaces_113 : decode b_Mo_onPlaces 113 = .ok (.aload_n 0, 1) := by decide +kernel
theorem d_Mo_onPlaces_114 : decode b_Mo_onPlaces 114 = .ok (.getfield 50, 3) := by decide +kernel
theorem d_Mo_onPlaces_117 : decode b_Mo_onPlaces 117 = .ok (.iload 4, 2) := by decide +kernel
theorem d_Mo_onPlaces_119 : decode b_Mo_onPlaces 119 = .ok (.iaload, 1) := by decide +kernel
theorem d_Mo_onPlaces_120 : decode b_Mo_onPlaces 120 = .ok (.invokevirtual 151, 3) := by decide +kernel
theorem d_Mo_onPlaces_123 : decode b_Mo_onPlaces 123 = .ok (.goto (89), 3) := by decide +kernel
theorem d_Mo_onPlaces_126 : decode b_Mo_onPlaces 126 = .ok (.iload_n 1, 1) := by decide +kernel
theorem d_Mo_onPlaces_127 : decode b_Mo_onPlaces 127 = .ok (.bipush (16), 2) := by decide +kernel
theorem d_Mo_onPlaces_129 : decode b_Mo_onPlaces 129 = .ok (.if_icmp .ne (78), 3) := by decide +kernel
theorem d_Mo_onPlaces_132 : decode b_Mo_onPlaces 132 = .ok (.aload_n 0, 1) := by decide +kernel
theorem d_Mo_onPlaces_133 : decode b_Mo_onPlaces 133 = .ok (.getfield 53, 3) := by decide +kernel
theorem d_Mo_onPlaces_136 : decode b_Mo_onPlaces 136 = .ok (.iload 4, 2) := by decide +kernel
theorem d_Mo_onPlaces_138 : decode b_Mo_onPlaces 138 = .ok (.iaload, 1) := by decide +kernel
theorem d_Mo_onPlaces_139 : decode b_Mo_onPlaces 139 = .ok (.istore 5, 2) := by decide +kernel
theorem d_Mo_onPlaces_141 : decode b_Mo_onPlaces 141 = .ok (.aload_n 0, 1) := by decide +kernel
theorem d_Mo_onPlaces_142 : decode b_Mo_onPlaces 142 = .ok (.getfield 50, 3) := by decide +kernel
theorem d_Mo_onPlaces_145 : decode b_Mo_onPlaces 145 = .ok (.iload 4, 2) := by decide +kernel
theorem d_Mo_onPlaces_147 : decode b_Mo_onPlaces 147 = .ok (.iaload, 1) := by decide +kernel
theorem d_Mo_onPlaces_148 : decode b_Mo_onPlaces 148 = .ok (.istore 6, 2) := by decide +kernel
theorem d_Mo_onPlaces_150 : decode b_Mo_onPlaces 150 = .ok (.aload_n 0, 1) := by decide +kernel
theorem d_Mo_onPlaces_151 : decode b_Mo_onPlaces 151 = .ok (.getfield 53, 3) := by decide +kernel
theorem d_Mo_onPlaces_154 : decode b_Mo_onPlaces 154 = .ok (.iload 4, 2) := by decide +kernel
theorem d_Mo_onPlaces_156 : decode b_Mo_onPlaces 156 = .ok (.aload_n 0, 1) := by decide +kernel
theorem d_Mo_onPlaces_157 : decode b_Mo_onPlaces 157 = .ok (.getfield 53, 3) := by decide +kernel
theorem d_Mo_onPlaces_160 : decode b_Mo_onPlaces 160 = .ok (.iload 4, 2) := by decide +kernel
theorem d_Mo_onPlaces_162 : decode b_Mo_onPlaces 162 = .ok (.iconst 1, 1) := by decide +kernel
theorem d_Mo_onPlaces_163 : decode b_Mo_onPlaces 163 = .ok (.isub, 1) := by decide +kernel
theorem d_Mo_onPlaces_164 : decode b_Mo_onPlaces 164 = .ok (.iaload, 1) := by decide +kernel
theorem d_Mo_onPlaces_165 : decode b_Mo_onPlaces 165 = .ok (.iastore, 1) := by decide +kernel
theorem d_Mo_onPlaces_166 : decode b_Mo_onPlaces 166 = .ok (.aload_n 0, 1) := by decide +kernel
theorem d_Mo_onPlaces_167 : decode b_Mo_onPlaces 167 = .ok (.getfield 50, 3) := by decide +kernel
theorem d_Mo_onPlaces_170 : decode b_Mo_onPlaces 170 = .ok (.iload 4, 2) := by decide +kernel
theorem d_Mo_onPlaces_172 : decode b_Mo_onPlaces 172 = .ok (.aload_n 0, 1) := by decide +kernel
theorem d_Mo_onPlaces_173 : decode b_Mo_onPlaces 173 = .ok (.getfield 50, 3) := by decide +kernel
end
section
/-! names of 20.model -/
theorem d_Mo_onPlaces_176 : decode b_Mo_onPlaces 176 = .ok (.iload 4, 2) := by decide +kernel
theorem d_Mo_onPlaces_178 : decode b_Mo_onPlaces 178 = .ok (.iconst 1, 1) := by decide +kernel
theorem d_Mo_onPlaces_179 : decode b_Mo_onPlaces 179 = .ok (.isub, 1) := by decide +kernel
theorem d_Mo_onPlaces_180 : decode b_Mo_onPlaces 180 = .ok (.iaload, 1) := by decide +kernel
theorem d_Mo_onPlaces_181 : decode b_Mo_onPlaces 181 = .ok (.iastore, 1) := by decide +kernel
theorem d_Mo_onPlaces_182 : decode b_Mo_onPlaces 182 = .ok (.aload_n 0, 1) := by decide +kernel
theorem d_Mo_onPlaces_183 : decode b_Mo_onPlaces 183 = .ok (.getfield 53, 3) := by decide +kernel
theorem d_Mo_onPlaces_186 : decode b_Mo_onPlaces 186 = .ok (.iload 4, 2) := by decide +kernel
theorem d_Mo_onPlaces_188 : decode b_Mo_onPlaces 188 = .ok (.iconst 1, 1) := by decide +kernel
theorem d_Mo_onPlaces_189 : decode b_Mo_onPlaces 189 = .ok (.isub, 1) := by decide +kernel
theorem d_Mo_onPlaces_190 : decode b_Mo_onPlaces 190 = .ok (.iload 5, 2) := by decide +kernel
theorem d_Mo_onPlaces_192 : decode b_Mo_onPlaces 192 = .ok (.iastore, 1) := by decide +kernel
theorem d_Mo_onPlaces_193 : decode b_Mo_onPlaces 193 = .ok (.aload_n 0, 1) := by decide +kernel
theorem d_Mo_onPlaces_194 : decode b_Mo_onPlaces 194 = .ok (.getfield 50, 3) := by decide +kernel
theorem d_Mo_onPlaces_197 : decode b_Mo_onPlaces 197 = .ok (.iload 4, 2) := by decide +kernel
theorem d_Mo_onPlaces_199 : decode b_Mo_onPlaces 199 = .ok (.iconst 1, 1) := by decide +kernel
theorem d_Mo_onPlaces_200 : decode b_Mo_onPlaces 200 = .ok (.isub, 1) := by decide +kernel
theorem d_Mo_onPlaces_201 : decode b_Mo_onPlaces 201 = .ok (.iload 6, 2) := by decide +kernel
theorem d_Mo_onPlaces_203 : decode b_Mo_onPlaces 203 = .ok (.iastore, 1) := by decide +kernel
theorem d_Mo_onPlaces_204 : decode b_Mo_onPlaces 204 = .ok (.goto (8), 3) := by decide +kernel
theorem d_Mo_onPlaces_207 : decode b_Mo_onPlaces 207 = .ok (.aload_n 0, 1) := by decide +kernel
theorem d_Mo_onPlaces_208 : decode b_Mo_onPlaces 208 = .ok (.iconst 1, 1) := by decide +kernel
theorem d_Mo_onPlaces_209 : decode b_Mo_onPlaces 209 = .ok (.invokevirtual 148, 3) := by decide +kernel
theorem d_Mo_onPlaces_212 : decode b_Mo_onPlaces 212 = .ok (.return_, 1) := by decide +kernel
def y_Mo_call : MethodName := ⟨"FrameVerifierModel", "call", "(I)V"⟩
abbrev b_Mo_call : ByteArray := prog_11_method_34_code
def rm_Mo_call : Room := { frames := 1, cells := 0, slots := 0, locals := 22 }
abbrev w_Mo_call : List Cond := Cond.code y_Mo_call b_Mo_call 5 none :: wG
theorem m_Mo_call : Cond.code y_Mo_call b_Mo_call 5 none ∈ wG := wg_t 960 (by decide +kernel) (by decide +kernel)
theorem q_Mo_call : y_Mo_call.cls ≠ "java/lang/invoke/MethodHandle" ∧ y_Mo_call.cls ≠ "java/lang/invoke/VarHandle" ∧ (parseMethodDescriptor y_Mo_call.desc).map (fun d => d.parameters.length) = some 1 := by decide +kernel
theorem g_Mo_call : Cond.initialized y_Mo_call.cls ∈ wG := wg_t 6 (by decide +kernel) (by decide +kernel)
theorem s_Mo_call : Cond.instanceMethod y_Mo_call ∈ wG := wg_t 959 (by decide +kernel) (by decide +kernel)
theorem e_Mo_call : Cond.selects "FrameVerifierModel" y_Mo_call y_Mo_call ∈ wG := wg_s (q := (y_Mo_call, 27)) 45 (by decide +kernel) (by decide +kernel)
theorem d_Mo_call_0 : decode b_Mo_call 0 = .ok (.aload_n 0, 1) := by decide +kernel
theorem d_Mo_call_1 : decode b_Mo_call 1 = .ok (.getfield 130, 3) := by decide +kernel
theorem d_Mo_call_4 : decode b_Mo_call 4 = .ok (.iconst 1, 1) := by decide +kernel
theorem d_Mo_call_5 : decode b_Mo_call 5 = .ok (.isub, 1) := by decide +kernel
theorem d_Mo_call_6 : decode b_Mo_call 6 = .ok (.istore_n 2, 1) := by decide +kernel
theorem d_Mo_call_7 : decode b_Mo_call 7 = .ok (.aload_n 0, 1) := by decide +kernel
theorem d_Mo_call_8 : decode b_Mo_call 8 = .ok (.aload_n 0, 1) := by decide +kernel
theorem d_Mo_call_9 : decode b_Mo_call 9 = .ok (.getfield 23, 3) := by decide +kernel
theorem d_Mo_call_12 : decode b_Mo_call 12 = .ok (.iload_n 1, 1) := by decide +kernel
theorem d_Mo_call_13 : decode b_Mo_call 13 = .ok (.iaload, 1) := by decide +kernel
theorem d_Mo_call_14 : decode b_Mo_call 14 = .ok (.invokevirtual 148, 3) := by decide +kernel
theorem d_Mo_call_17 : decode b_Mo_call 17 = .ok (.bipush (12), 2) := by decide +kernel
theorem d_Mo_call_19 : decode b_Mo_call 19 = .ok (.iload_n 2, 1) := by decide +kernel
theorem d_Mo_call_20 : decode b_Mo_call 20 = .ok (.imul, 1) := by decide +kernel
theorem d_Mo_call_21 : decode b_Mo_call 21 = .ok (.bipush (6), 2) := by decide +kernel
theorem d_Mo_call_23 : decode b_Mo_call 23 = .ok (.iadd, 1) := by decide +kernel
theorem d_Mo_call_24 : decode b_Mo_call 24 = .ok (.aload_n 0, 1) := by decide +kernel
theorem d_Mo_call_25 : decode b_Mo_call 25 = .ok (.getfield 47, 3) := by decide +kernel
theorem d_Mo_call_28 : decode b_Mo_call 28 = .ok (.iload_n 2, 1) := by decide +kernel
theorem d_Mo_call_29 : decode b_Mo_call 29 = .ok (.iaload, 1) := by decide +kernel
theorem d_Mo_call_30 : decode b_Mo_call 30 = .ok (.iadd, 1) := by decide +kernel
theorem d_Mo_call_31 : decode b_Mo_call 31 = .ok (.istore_n 3, 1) := by decide +kernel
theorem d_Mo_call_32 : decode b_Mo_call 32 = .ok (.aload_n 0, 1) := by decide +kernel
theorem d_Mo_call_33 : decode b_Mo_call 33 = .ok (.iload_n 1, 1) := by decide +kernel
theorem d_Mo_call_34 : decode b_Mo_call 34 = .ok (.invokevirtual 136, 3) := by decide +kernel
theorem d_Mo_call_37 : decode b_Mo_call 37 = .ok (.iconst 0, 1) := by decide +kernel
theorem d_Mo_call_38 : decode b_Mo_call 38 = .ok (.istore 4, 2) := by decide +kernel
theorem d_Mo_call_40 : decode b_Mo_call 40 = .ok (.iload 4, 2) := by decide +kernel
theorem d_Mo_call_42 : decode b_Mo_call 42 = .ok (.aload_n 0, 1) := by decide +kernel
theorem d_Mo_call_43 : decode b_Mo_call 43 = .ok (.getfield 23, 3) := by decide +kernel
theorem d_Mo_call_46 : decode b_Mo_call 46 = .ok (.iload_n 1, 1) := by decide +kernel
theorem d_Mo_call_47 : decode b_Mo_call 47 = .ok (.iaload, 1) := by decide +kernel
theorem d_Mo_call_48 : decode b_Mo_call 48 = .ok (.if_icmp .ge (55), 3) := by decide +kernel
theorem d_Mo_call_51 : decode b_Mo_call 51 = .ok (.aload_n 0, 1) := by decide +kernel
theorem d_Mo_call_52 : decode b_Mo_call 52 = .ok (.getfield 53, 3) := by decide +kernel
theorem d_Mo_call_55 : decode b_Mo_call 55 = .ok (.bipush (12), 2) := by decide +kernel
theorem d_Mo_call_57 : decode b_Mo_call 57 = .ok (.iload_n 2, 1) := by decide +kernel
theorem d_Mo_call_58 : decode b_Mo_call 58 = .ok (.iconst 1, 1) := by decide +kernel
theorem d_Mo_call_59 : decode b_Mo_call 59 = .ok (.iadd, 1) := by decide +kernel
theorem d_Mo_call_60 : decode b_Mo_call 60 = .ok (.imul, 1) := by decide +kernel
theorem d_Mo_call_61 : decode b_Mo_call 61 = .ok (.iload 4, 2) := by decide +kernel
theorem d_Mo_call_63 : decode b_Mo_call 63 = .ok (.iadd, 1) := by decide +kernel
theorem d_Mo_call_64 : decode b_Mo_call 64 = .ok (.aload_n 0, 1) := by decide +kernel
theorem d_Mo_call_65 : decode b_Mo_call 65 = .ok (.getfield 53, 3) := by decide +kernel
theorem d_Mo_call_68 : decode b_Mo_call 68 = .ok (.iload_n 3, 1) := by decide +kernel
theorem d_Mo_call_69 : decode b_Mo_call 69 = .ok (.iload 4, 2) := by decide +kernel
theorem d_Mo_call_71 : decode b_Mo_call 71 = .ok (.iadd, 1) := by decide +kernel
theorem d_Mo_call_72 : decode b_Mo_call 72 = .ok (.iaload, 1) := by decide +kernel
theorem d_Mo_call_73 : decode b_Mo_call 73 = .ok (.iastore, 1) := by decide +kernel
theorem d_Mo_call_74 : decode b_Mo_call 74 = .ok (.aload_n 0, 1) := by decide +kernel
theorem d_Mo_call_75 : decode b_Mo_call 75 = .ok (.getfield 50, 3) := by decide +kernel
theorem d_Mo_call_78 : decode b_Mo_call 78 = .ok (.bipush (12), 2) := by decide +kernel
theorem d_Mo_call_80 : decode b_Mo_call 80 = .ok (.iload_n 2, 1) := by decide +kernel
theorem d_Mo_call_81 : decode b_Mo_call 81 = .ok (.iconst 1, 1) := by decide +kernel
theorem d_Mo_call_82 : decode b_Mo_call 82 = .ok (.iadd, 1) := by decide +kernel
theorem d_Mo_call_83 : decode b_Mo_call 83 = .ok (.imul, 1) := by decide +kernel
theorem d_Mo_call_84 : decode b_Mo_call 84 = .ok (.iload 4, 2) := by decide +kernel
theorem d_Mo_call_86 : decode b_Mo_call 86 = .ok (.iadd, 1) := by decide +kernel
theorem d_Mo_call_87 : decode b_Mo_call 87 = .ok (.aload_n 0, 1) := by decide +kernel
theorem d_Mo_call_88 : decode b_Mo_call 88 = .ok (.getfield 50, 3) := by decide +kernel
theorem d_Mo_call_91 : decode b_Mo_call 91 = .ok (.iload_n 3, 1) := by decide +kernel
theorem d_Mo_call_92 : decode b_Mo_call 92 = .ok (.iload 4, 2) := by decide +kernel
theorem d_Mo_call_94 : decode b_Mo_call 94 = .ok (.iadd, 1) := by decide +kernel
theorem d_Mo_call_95 : decode b_Mo_call 95 = .ok (.iaload, 1) := by decide +kernel
theorem d_Mo_call_96 : decode b_Mo_call 96 = .ok (.iastore, 1) := by decide +kernel
theorem d_Mo_call_97 : decode b_Mo_call 97 = .ok (.iinc 4 (1), 3) := by decide +kernel
theorem d_Mo_call_100 : decode b_Mo_call 100 = .ok (.goto (-60), 3) := by decide +kernel
theorem d_Mo_call_103 : decode b_Mo_call 103 = .ok (.return_, 1) := by decide +kernel
def y_Mo_seen : MethodName := ⟨"FrameVerifierModel", "seen", "(II)I"⟩
abbrev b_Mo_seen : ByteArray := prog_11_method_36_code
def rm_Mo_seen : Room := { frames := 0, cells := 0, slots := 0, locals := 0 }
abbrev w_Mo_seen : List Cond := Cond.code y_Mo_seen b_Mo_seen 2 (some .int) :: wG
theorem m_Mo_seen : Cond.code y_Mo_seen b_Mo_seen 2 (some .int) ∈ wG := wg_t 967 (by decide +kernel) (by decide +kernel)
theorem q_Mo_seen : y_Mo_seen.cls ≠ "java/lang/invoke/MethodHandle" ∧ y_Mo_seen.cls ≠ "java/lang/invoke/VarHandle" ∧ (parseMethodDescriptor y_Mo_seen.desc).map (fun d => d.parameters.length) = some 2 := by decide +kernel
theorem g_Mo_seen : Cond.initialized y_Mo_seen.cls ∈ wG := wg_t 6 (by decide +kernel) (by decide +kernel)
theorem s_Mo_seen : Cond.static y_Mo_seen ∈ wG := wg_t 966 (by decide +kernel) (by decide +kernel)
theorem d_Mo_seen_0 : decode b_Mo_seen 0 = .ok (.iload_n 0, 1) := by decide +kernel
theorem d_Mo_seen_1 : decode b_Mo_seen 1 = .ok (.iconst 2, 1) := by decide +kernel
theorem d_Mo_seen_2 : decode b_Mo_seen 2 = .ok (.if_icmp .ne (15), 3) := by decide +kernel
theorem d_Mo_seen_5 : decode b_Mo_seen 5 = .ok (.iload_n 1, 1) := by decide +kernel
theorem d_Mo_seen_6 : decode b_Mo_seen 6 = .ok (.ifCond .ne (7), 3) := by decide +kernel
theorem d_Mo_seen_9 : decode b_Mo_seen 9 = .ok (.iconst 0, 1) := by decide +kernel
theorem d_Mo_seen_10 : decode b_Mo_seen 10 = .ok (.goto (8), 3) := by decide +kernel
theorem d_Mo_seen_13 : decode b_Mo_seen 13 = .ok (.iconst 1, 1) := by decide +kernel
theorem d_Mo_seen_14 : decode b_Mo_seen 14 = .ok (.goto (4), 3) := by decide +kernel
theorem d_Mo_seen_17 : decode b_Mo_seen 17 = .ok (.iload_n 1, 1) := by decide +kernel
theorem d_Mo_seen_18 : decode b_Mo_seen 18 = .ok (.ireturn, 1) := by decide +kernel
def y_Mo_giveBack : MethodName := ⟨"FrameVerifierModel", "giveBack", "()V"⟩
abbrev b_Mo_giveBack : ByteArray := prog_11_method_35_code
def rm_Mo_giveBack : Room := { frames := 1, cells := 0, slots := 0, locals := 23 }
abbrev w_Mo_giveBack : List Cond := Cond.code y_Mo_giveBack b_Mo_giveBack 4 none :: wG
theorem m_Mo_giveBack : Cond.code y_Mo_giveBack b_Mo_giveBack 4 none ∈ wG := wg_t 964 (by decide +kernel) (by decide +kernel)
theorem q_Mo_giveBack : y_Mo_giveBack.cls ≠ "java/lang/invoke/MethodHandle" ∧ y_Mo_giveBack.cls ≠ "java/lang/invoke/VarHandle" ∧ (parseMethodDescriptor y_Mo_giveBack.desc).map (fun d => d.parameters.length) = some 0 := by decide +kernel
theorem g_Mo_giveBack : Cond.initialized y_Mo_giveBack.cls ∈ wG := wg_t 6 (by decide +kernel) (by decide +kernel)
theorem s_Mo_giveBack : Cond.instanceMethod y_Mo_giveBack ∈ wG := wg_t 963 (by decide +kernel) (by decide +kernel)
theorem e_Mo_giveBack : Cond.selects "FrameVerifierModel" y_Mo_giveBack y_Mo_giveBack ∈ wG := wg_s (q := (y_Mo_giveBack, 27)) 46 (by decide +kernel) (by decide +kernel)
theorem d_Mo_giveBack_0 : decode b_Mo_giveBack 0 = .ok (.bipush (12), 2) := by decide +kernel
theorem d_Mo_giveBack_2 : decode b_Mo_giveBack 2 = .ok (.aload_n 0, 1) := by decide +kernel
theorem d_Mo_giveBack_3 : decode b_Mo_giveBack 3 = .ok (.getfield 130, 3) := by decide +kernel
theorem d_Mo_giveBack_6 : decode b_Mo_giveBack 6 = .ok (.iconst 1, 1) := by decide +kernel
theorem d_Mo_giveBack_7 : decode b_Mo_giveBack 7 = .ok (.isub, 1) := by decide +kernel
theorem d_Mo_giveBack_8 : decode b_Mo_giveBack 8 = .ok (.imul, 1) := by decide +kernel
theorem d_Mo_giveBack_9 : decode b_Mo_giveBack 9 = .ok (.iconst 5, 1) := by decide +kernel
theorem d_Mo_giveBack_10 : decode b_Mo_giveBack 10 = .ok (.iadd, 1) := by decide +kernel
theorem d_Mo_giveBack_11 : decode b_Mo_giveBack 11 = .ok (.aload_n 0, 1) := by decide +kernel
theorem d_Mo_giveBack_12 : decode b_Mo_giveBack 12 = .ok (.getfield 47, 3) := by decide +kernel
theorem d_Mo_giveBack_15 : decode b_Mo_giveBack 15 = .ok (.aload_n 0, 1) := by decide +kernel
theorem d_Mo_giveBack_16 : decode b_Mo_giveBack 16 = .ok (.getfield 130, 3) := by decide +kernel
theorem d_Mo_giveBack_19 : decode b_Mo_giveBack 19 = .ok (.iconst 1, 1) := by decide +kernel
theorem d_Mo_giveBack_20 : decode b_Mo_giveBack 20 = .ok (.isub, 1) := by decide +kernel
theorem d_Mo_giveBack_21 : decode b_Mo_giveBack 21 = .ok (.iaload, 1) := by decide +kernel
theorem d_Mo_giveBack_22 : decode b_Mo_giveBack 22 = .ok (.iadd, 1) := by decide +kernel
theorem d_Mo_giveBack_23 : decode b_Mo_giveBack 23 = .ok (.istore_n 1, 1) := by decide +kernel
theorem d_Mo_giveBack_24 : decode b_Mo_giveBack 24 = .ok (.aload_n 0, 1) := by decide +kernel
theorem d_Mo_giveBack_25 : decode b_Mo_giveBack 25 = .ok (.getfield 53, 3) := by decide +kernel
theorem d_Mo_giveBack_28 : decode b_Mo_giveBack 28 = .ok (.iload_n 1, 1) := by decide +kernel
theorem d_Mo_giveBack_29 : decode b_Mo_giveBack 29 = .ok (.iaload, 1) := by decide +kernel
theorem d_Mo_giveBack_30 : decode b_Mo_giveBack 30 = .ok (.istore_n 2, 1) := by decide +kernel
theorem d_Mo_giveBack_31 : decode b_Mo_giveBack 31 = .ok (.aload_n 0, 1) := by decide +kernel
theorem d_Mo_giveBack_32 : decode b_Mo_giveBack 32 = .ok (.getfield 50, 3) := by decide +kernel
theorem d_Mo_giveBack_35 : decode b_Mo_giveBack 35 = .ok (.iload_n 1, 1) := by decide +kernel
theorem d_Mo_giveBack_36 : decode b_Mo_giveBack 36 = .ok (.iaload, 1) := by decide +kernel
theorem d_Mo_giveBack_37 : decode b_Mo_giveBack 37 = .ok (.istore_n 3, 1) := by decide +kernel
theorem d_Mo_giveBack_38 : decode b_Mo_giveBack 38 = .ok (.aload_n 0, 1) := by decide +kernel
theorem d_Mo_giveBack_39 : decode b_Mo_giveBack 39 = .ok (.dup, 1) := by decide +kernel
theorem d_Mo_giveBack_40 : decode b_Mo_giveBack 40 = .ok (.getfield 130, 3) := by decide +kernel
theorem d_Mo_giveBack_43 : decode b_Mo_giveBack 43 = .ok (.iconst 1, 1) := by decide +kernel
theorem d_Mo_giveBack_44 : decode b_Mo_giveBack 44 = .ok (.isub, 1) := by decide +kernel
theorem d_Mo_giveBack_45 : decode b_Mo_giveBack 45 = .ok (.putfield 130, 3) := by decide +kernel
theorem d_Mo_giveBack_48 : decode b_Mo_giveBack 48 = .ok (.aload_n 0, 1) := by decide +kernel
theorem d_Mo_giveBack_49 : decode b_Mo_giveBack 49 = .ok (.getfield 130, 3) := by decide +kernel
theorem d_Mo_giveBack_52 : decode b_Mo_giveBack 52 = .ok (.ifCond .le (12), 3) := by decide +kernel
theorem d_Mo_giveBack_55 : decode b_Mo_giveBack 55 = .ok (.aload_n 0, 1) := by decide +kernel
theorem d_Mo_giveBack_56 : decode b_Mo_giveBack 56 = .ok (.iload_n 2, 1) := by decide +kernel
theorem d_Mo_giveBack_57 : decode b_Mo_giveBack 57 = .ok (.iload_n 3, 1) := by decide +kernel
theorem d_Mo_giveBack_58 : decode b_Mo_giveBack 58 = .ok (.invokevirtual 151, 3) := by decide +kernel
theorem d_Mo_giveBack_61 : decode b_Mo_giveBack 61 = .ok (.goto (12), 3) := by decide +kernel
theorem d_Mo_giveBack_64 : decode b_Mo_giveBack 64 = .ok (.aload_n 0, 1) := by decide +kernel
theorem d_Mo_giveBack_65 : decode b_Mo_giveBack 65 = .ok (.iload_n 2, 1) := by decide +kernel
theorem d_Mo_giveBack_66 : decode b_Mo_giveBack 66 = .ok (.iload_n 3, 1) := by decide +kernel
theorem d_Mo_giveBack_67 : decode b_Mo_giveBack 67 = .ok (.invokestatic 154, 3) := by decide +kernel
theorem d_Mo_giveBack_70 : decode b_Mo_giveBack 70 = .ok (.putfield 157, 3) := by decide +kernel
theorem d_Mo_giveBack_73 : decode b_Mo_giveBack 73 = .ok (.return_, 1) := by decide +kernel
def y_Mo_perform : MethodName := ⟨"FrameVerifierModel", "perform", "(I)V"⟩
abbrev b_Mo_perform : ByteArray := prog_11_method_37_code
def rm_Mo_perform : Room := { frames := 2, cells := 0, slots := 0, locals := 49 }
abbrev w_Mo_perform : List Cond := Cond.code y_Mo_perform b_Mo_perform 5 none :: wG
theorem m_Mo_perform : Cond.code y_Mo_perform b_Mo_perform 5 none ∈ wG := wg_t 940 (by decide +kernel) (by decide +kernel)
theorem q_Mo_perform : y_Mo_perform.cls ≠ "java/lang/invoke/MethodHandle" ∧ y_Mo_perform.cls ≠ "java/lang/invoke/VarHandle" ∧ (parseMethodDescriptor y_Mo_perform.desc).map (fun d => d.parameters.length) = some 1 := by decide +kernel
theorem g_Mo_perform : Cond.initialized y_Mo_perform.cls ∈ wG := wg_t 6 (by decide +kernel) (by decide +kernel)
theorem s_Mo_perform : Cond.instanceMethod y_Mo_perform ∈ wG := wg_t 939 (by decide +kernel) (by decide +kernel)
theorem e_Mo_perform : Cond.selects "FrameVerifierModel" y_Mo_perform y_Mo_perform ∈ wG := wg_s (q := (y_Mo_perform, 27)) 40 (by decide +kernel) (by decide +kernel)
theorem d_Mo_perform_0 : decode b_Mo_perform 0 = .ok (.aload_n 0, 1) := by decide +kernel
theorem d_Mo_perform_1 : decode b_Mo_perform 1 = .ok (.getfield 7, 3) := by decide +kernel
theorem d_Mo_perform_4 : decode b_Mo_perform 4 = .ok (.iload_n 1, 1) := by decide +kernel
theorem d_Mo_perform_5 : decode b_Mo_perform 5 = .ok (.iaload, 1) := by decide +kernel
theorem d_Mo_perform_6 : decode b_Mo_perform 6 = .ok (.istore_n 2, 1) := by decide +kernel
theorem d_Mo_perform_7 : decode b_Mo_perform 7 = .ok (.aload_n 0, 1) := by decide +kernel
theorem d_Mo_perform_8 : decode b_Mo_perform 8 = .ok (.getfield 13, 3) := by decide +kernel
theorem d_Mo_perform_11 : decode b_Mo_perform 11 = .ok (.iload_n 1, 1) := by decide +kernel
theorem d_Mo_perform_12 : decode b_Mo_perform 12 = .ok (.iaload, 1) := by decide +kernel
theorem d_Mo_perform_13 : decode b_Mo_perform 13 = .ok (.istore_n 3, 1) := by decide +kernel
theorem d_Mo_perform_14 : decode b_Mo_perform 14 = .ok (.iload_n 2, 1) := by decide +kernel
theorem d_Mo_perform_15 : decode b_Mo_perform 15 = .ok (.bipush (7), 2) := by decide +kernel
theorem d_Mo_perform_17 : decode b_Mo_perform 17 = .ok (.if_icmp .eq (23), 3) := by decide +kernel
theorem d_Mo_perform_20 : decode b_Mo_perform 20 = .ok (.iload_n 2, 1) := by decide +kernel
theorem d_Mo_perform_21 : decode b_Mo_perform 21 = .ok (.bipush (8), 2) := by decide +kernel
theorem d_Mo_perform_23 : decode b_Mo_perform 23 = .ok (.if_icmp .eq (9), 3) := by decide +kernel
theorem d_Mo_perform_26 : decode b_Mo_perform 26 = .ok (.iload_n 2, 1) := by decide +kernel
theorem d_Mo_perform_27 : decode b_Mo_perform 27 = .ok (.bipush (10), 2) := by decide +kernel
theorem d_Mo_perform_29 : decode b_Mo_perform 29 = .ok (.if_icmp .ne (15), 3) := by decide +kernel
theorem d_Mo_perform_32 : decode b_Mo_perform 32 = .ok (.aload_n 0, 1) := by decide +kernel
theorem d_Mo_perform_33 : decode b_Mo_perform 33 = .ok (.iconst 0, 1) := by decide +kernel
theorem d_Mo_perform_34 : decode b_Mo_perform 34 = .ok (.invokevirtual 139, 3) := by decide +kernel
theorem d_Mo_perform_37 : decode b_Mo_perform 37 = .ok (.ifCond .ne (7), 3) := by decide +kernel
theorem d_Mo_perform_40 : decode b_Mo_perform 40 = .ok (.iconst 1, 1) := by decide +kernel
theorem d_Mo_perform_41 : decode b_Mo_perform 41 = .ok (.goto (4), 3) := by decide +kernel
theorem d_Mo_perform_44 : decode b_Mo_perform 44 = .ok (.iconst 0, 1) := by decide +kernel
theorem d_Mo_perform_45 : decode b_Mo_perform 45 = .ok (.istore 4, 2) := by decide +kernel
theorem d_Mo_perform_47 : decode b_Mo_perform 47 = .ok (.aload_n 0, 1) := by decide +kernel
theorem d_Mo_perform_48 : decode b_Mo_perform 48 = .ok (.getfield 44, 3) := by decide +kernel
theorem d_Mo_perform_51 : decode b_Mo_perform 51 = .ok (.aload_n 0, 1) := by decide +kernel
theorem d_Mo_perform_52 : decode b_Mo_perform 52 = .ok (.getfield 130, 3) := by decide +kernel
theorem d_Mo_perform_55 : decode b_Mo_perform 55 = .ok (.iconst 1, 1) := by decide +kernel
theorem d_Mo_perform_56 : decode b_Mo_perform 56 = .ok (.isub, 1) := by decide +kernel
theorem d_Mo_perform_57 : decode b_Mo_perform 57 = .ok (.iload 4, 2) := by decide +kernel
theorem d_Mo_perform_59 : decode b_Mo_perform 59 = .ok (.ifCond .eq (7), 3) := by decide +kernel
theorem d_Mo_perform_62 : decode b_Mo_perform 62 = .ok (.iload_n 3, 1) := by decide +kernel
theorem d_Mo_perform_63 : decode b_Mo_perform 63 = .ok (.goto (6), 3) := by decide +kernel
theorem d_Mo_perform_66 : decode b_Mo_perform 66 = .ok (.iload_n 1, 1) := by decide +kernel
theorem d_Mo_perform_67 : decode b_Mo_perform 67 = .ok (.iconst 1, 1) := by decide +kernel
theorem d_Mo_perform_68 : decode b_Mo_perform 68 = .ok (.iadd, 1) := by decide +kernel
theorem d_Mo_perform_69 : decode b_Mo_perform 69 = .ok (.iastore, 1) := by decide +kernel
theorem d_Mo_perform_70 : decode b_Mo_perform 70 = .ok (.iload_n 2, 1) := by decide +kernel
theorem d_Mo_perform_71 : decode b_Mo_perform 71 = .ok (.ifCond .eq (9), 3) := by decide +kernel
theorem d_Mo_perform_74 : decode b_Mo_perform 74 = .ok (.iload_n 2, 1) := by decide +kernel
theorem d_Mo_perform_75 : decode b_Mo_perform 75 = .ok (.bipush (9), 2) := by decide +kernel
theorem d_Mo_perform_77 : decode b_Mo_perform 77 = .ok (.if_icmp .ne (28), 3) := by decide +kernel
theorem d_Mo_perform_80 : decode b_Mo_perform 80 = .ok (.aload_n 0, 1) := by decide +kernel
theorem d_Mo_perform_81 : decode b_Mo_perform 81 = .ok (.iload_n 2, 1) := by decide +kernel
theorem d_Mo_perform_82 : decode b_Mo_perform 82 = .ok (.ifCond .ne (7), 3) := by decide +kernel
theorem d_Mo_perform_85 : decode b_Mo_perform 85 = .ok (.iconst 1, 1) := by decide +kernel
theorem d_Mo_perform_86 : decode b_Mo_perform 86 = .ok (.goto (4), 3) := by decide +kernel
theorem d_Mo_perform_89 : decode b_Mo_perform 89 = .ok (.iconst 2, 1) := by decide +kernel
theorem d_Mo_perform_90 : decode b_Mo_perform 90 = .ok (.iload_n 2, 1) := by decide +kernel
theorem d_Mo_perform_91 : decode b_Mo_perform 91 = .ok (.ifCond .ne (7), 3) := by decide +kernel
theorem d_Mo_perform_94 : decode b_Mo_perform 94 = .ok (.iload_n 3, 1) := by decide +kernel
theorem d_Mo_perform_95 : decode b_Mo_perform 95 = .ok (.goto (4), 3) := by decide +kernel
theorem d_Mo_perform_98 : decode b_Mo_perform 98 = .ok (.iconst 0, 1) := by decide +kernel
theorem d_Mo_perform_99 : decode b_Mo_perform 99 = .ok (.invokevirtual 151, 3) := by decide +kernel
theorem d_Mo_perform_102 : decode b_Mo_perform 102 = .ok (.goto (95), 3) := by decide +kernel
theorem d_Mo_perform_105 : decode b_Mo_perform 105 = .ok (.iload_n 2, 1) := by decide +kernel
theorem d_Mo_perform_106 : decode b_Mo_perform 106 = .ok (.iconst 5, 1) := by decide +kernel
theorem d_Mo_perform_107 : decode b_Mo_perform 107 = .ok (.if_icmp .ge (11), 3) := by decide +kernel
theorem d_Mo_perform_110 : decode b_Mo_perform 110 = .ok (.aload_n 0, 1) := by decide +kernel
theorem d_Mo_perform_111 : decode b_Mo_perform 111 = .ok (.iload_n 2, 1) := by decide +kernel
theorem d_Mo_perform_112 : decode b_Mo_perform 112 = .ok (.invokevirtual 160, 3) := by decide +kernel
theorem d_Mo_perform_115 : decode b_Mo_perform 115 = .ok (.goto (82), 3) := by decide +kernel
theorem d_Mo_perform_118 : decode b_Mo_perform 118 = .ok (.iload_n 2, 1) := by decide +kernel
theorem d_Mo_perform_119 : decode b_Mo_perform 119 = .ok (.bipush (8), 2) := by decide +kernel
theorem d_Mo_perform_121 : decode b_Mo_perform 121 = .ok (.if_icmp .eq (9), 3) := by decide +kernel
theorem d_Mo_perform_124 : decode b_Mo_perform 124 = .ok (.iload_n 2, 1) := by decide +kernel
theorem d_Mo_perform_125 : decode b_Mo_perform 125 = .ok (.bipush (10), 2) := by decide +kernel
theorem d_Mo_perform_127 : decode b_Mo_perform 127 = .ok (.if_icmp .ne (11), 3) := by decide +kernel
theorem d_Mo_perform_130 : decode b_Mo_perform 130 = .ok (.aload_n 0, 1) := by decide +kernel
theorem d_Mo_perform_131 : decode b_Mo_perform 131 = .ok (.iconst 1, 1) := by decide +kernel
theorem d_Mo_perform_132 : decode b_Mo_perform 132 = .ok (.invokevirtual 148, 3) := by decide +kernel
theorem d_Mo_perform_135 : decode b_Mo_perform 135 = .ok (.goto (62), 3) := by decide +kernel
theorem d_Mo_perform_138 : decode b_Mo_perform 138 = .ok (.iload_n 2, 1) := by decide +kernel
theorem d_Mo_perform_139 : decode b_Mo_perform 139 = .ok (.bipush (11), 2) := by decide +kernel
theorem d_Mo_perform_141 : decode b_Mo_perform 141 = .ok (.if_icmp .lt (17), 3) := by decide +kernel
theorem d_Mo_perform_144 : decode b_Mo_perform 144 = .ok (.iload_n 2, 1) := by decide +kernel
theorem d_Mo_perform_145 : decode b_Mo_perform 145 = .ok (.bipush (14), 2) := by decide +kernel
theorem d_Mo_perform_147 : decode b_Mo_perform 147 = .ok (.if_icmp .gt (11), 3) := by decide +kernel
theorem d_Mo_perform_150 : decode b_Mo_perform 150 = .ok (.aload_n 0, 1) := by decide +kernel
theorem d_Mo_perform_151 : decode b_Mo_perform 151 = .ok (.iload_n 2, 1) := by decide +kernel
theorem d_Mo_perform_152 : decode b_Mo_perform 152 = .ok (.invokevirtual 163, 3) := by decide +kernel
theorem d_Mo_perform_155 : decode b_Mo_perform 155 = .ok (.goto (42), 3) := by decide +kernel
theorem d_Mo_perform_158 : decode b_Mo_perform 158 = .ok (.iload_n 2, 1) := by decide +kernel
theorem d_Mo_perform_159 : decode b_Mo_perform 159 = .ok (.bipush (18), 2) := by decide +kernel
theorem d_Mo_perform_161 : decode b_Mo_perform 161 = .ok (.if_icmp .ne (11), 3) := by decide +kernel
theorem d_Mo_perform_164 : decode b_Mo_perform 164 = .ok (.aload_n 0, 1) := by decide +kernel
theorem d_Mo_perform_165 : decode b_Mo_perform 165 = .ok (.iload_n 3, 1) := by decide +kernel
theorem d_Mo_perform_166 : decode b_Mo_perform 166 = .ok (.invokevirtual 166, 3) := by decide +kernel
theorem d_Mo_perform_169 : decode b_Mo_perform 169 = .ok (.goto (28), 3) := by decide +kernel
theorem d_Mo_perform_172 : decode b_Mo_perform 172 = .ok (.iload_n 2, 1) := by decide +kernel
theorem d_Mo_perform_173 : decode b_Mo_perform 173 = .ok (.bipush (19), 2) := by decide +kernel
theorem d_Mo_perform_175 : decode b_Mo_perform 175 = .ok (.if_icmp .ne (10), 3) := by decide +kernel
theorem d_Mo_perform_178 : decode b_Mo_perform 178 = .ok (.aload_n 0, 1) := by decide +kernel
theorem d_Mo_perform_179 : decode b_Mo_perform 179 = .ok (.invokevirtual 169, 3) := by decide +kernel
theorem d_Mo_perform_182 : decode b_Mo_perform 182 = .ok (.goto (15), 3) := by decide +kernel
theorem d_Mo_perform_185 : decode b_Mo_perform 185 = .ok (.iload_n 2, 1) := by decide +kernel
theorem d_Mo_perform_186 : decode b_Mo_perform 186 = .ok (.bipush (7), 2) := by decide +kernel
theorem d_Mo_perform_188 : decode b_Mo_perform 188 = .ok (.if_icmp .eq (9), 3) := by decide +kernel
theorem d_Mo_perform_191 : decode b_Mo_perform 191 = .ok (.aload_n 0, 1) := by decide +kernel
theorem d_Mo_perform_192 : decode b_Mo_perform 192 = .ok (.iload_n 2, 1) := by decide +kernel
theorem d_Mo_perform_193 : decode b_Mo_perform 193 = .ok (.iload_n 3, 1) := by decide +kernel
theorem d_Mo_perform_194 : decode b_Mo_perform 194 = .ok (.invokevirtual 172, 3) := by decide +kernel
theorem d_Mo_perform_197 : decode b_Mo_perform 197 = .ok (.return_, 1) := by decide +kernel
def y_Mo_stepOnce : MethodName := ⟨"FrameVerifierModel", "stepOnce", "()Z"⟩
abbrev b_Mo_stepOnce : ByteArray := prog_11_method_38_code
def rm_Mo_stepOnce : Room := { frames := 5, cells := 0, slots := 0, locals := 114 }
abbrev w_Mo_stepOnce : List Cond := Cond.code y_Mo_stepOnce b_Mo_stepOnce 2 (some .boolean) :: wG
theorem m_Mo_stepOnce : Cond.code y_Mo_stepOnce b_Mo_stepOnce 2 (some .boolean) ∈ wG := wg_t 918 (by decide +kernel) (by decide +kernel)
theorem q_Mo_stepOnce : y_Mo_stepOnce.cls ≠ "java/lang/invoke/MethodHandle" ∧ y_Mo_stepOnce.cls ≠ "java/lang/invoke/VarHandle" ∧ (parseMethodDescriptor y_Mo_stepOnce.desc).map (fun d => d.parameters.length) = some 0 := by decide +kernel
theorem g_Mo_stepOnce : Cond.initialized y_Mo_stepOnce.cls ∈ wG := wg_t 6 (by decide +kernel) (by decide +kernel)
theorem s_Mo_stepOnce : Cond.instanceMethod y_Mo_stepOnce ∈ wG := wg_t 917 (by decide +kernel) (by decide +kernel)
theorem e_Mo_stepOnce : Cond.selects "FrameVerifierModel" y_Mo_stepOnce y_Mo_stepOnce ∈ wG := wg_s (q := (y_Mo_stepOnce, 27)) 36 (by decide +kernel) (by decide +kernel)
theorem d_Mo_stepOnce_0 : decode b_Mo_stepOnce 0 = .ok (.aload_n 0, 1) := by decide +kernel
theorem d_Mo_stepOnce_1 : decode b_Mo_stepOnce 1 = .ok (.iconst 0, 1) := by decide +kernel
theorem d_Mo_stepOnce_2 : decode b_Mo_stepOnce 2 = .ok (.putfield 175, 3) := by decide +kernel
theorem d_Mo_stepOnce_5 : decode b_Mo_stepOnce 5 = .ok (.aload_n 0, 1) := by decide +kernel
theorem d_Mo_stepOnce_6 : decode b_Mo_stepOnce 6 = .ok (.getfield 130, 3) := by decide +kernel
theorem d_Mo_stepOnce_9 : decode b_Mo_stepOnce 9 = .ok (.ifCond .ne (5), 3) := by decide +kernel
theorem d_Mo_stepOnce_12 : decode b_Mo_stepOnce 12 = .ok (.iconst 0, 1) := by decide +kernel
theorem d_Mo_stepOnce_13 : decode b_Mo_stepOnce 13 = .ok (.ireturn, 1) := by decide +kernel
theorem d_Mo_stepOnce_14 : decode b_Mo_stepOnce 14 = .ok (.aload_n 0, 1) := by decide +kernel
theorem d_Mo_stepOnce_15 : decode b_Mo_stepOnce 15 = .ok (.getfield 44, 3) := by decide +kernel
theorem d_Mo_stepOnce_18 : decode b_Mo_stepOnce 18 = .ok (.aload_n 0, 1) := by decide +kernel
theorem d_Mo_stepOnce_19 : decode b_Mo_stepOnce 19 = .ok (.getfield 130, 3) := by decide +kernel
theorem d_Mo_stepOnce_22 : decode b_Mo_stepOnce 22 = .ok (.iconst 1, 1) := by decide +kernel
theorem d_Mo_stepOnce_23 : decode b_Mo_stepOnce 23 = .ok (.isub, 1) := by decide +kernel
theorem d_Mo_stepOnce_24 : decode b_Mo_stepOnce 24 = .ok (.iaload, 1) := by decide +kernel
theorem d_Mo_stepOnce_25 : decode b_Mo_stepOnce 25 = .ok (.istore_n 1, 1) := by decide +kernel
theorem d_Mo_stepOnce_26 : decode b_Mo_stepOnce 26 = .ok (.aload_n 0, 1) := by decide +kernel
theorem d_Mo_stepOnce_27 : decode b_Mo_stepOnce 27 = .ok (.aload_n 0, 1) := by decide +kernel
theorem d_Mo_stepOnce_28 : decode b_Mo_stepOnce 28 = .ok (.iload_n 1, 1) := by decide +kernel
theorem d_Mo_stepOnce_29 : decode b_Mo_stepOnce 29 = .ok (.invokevirtual 76, 3) := by decide +kernel
theorem d_Mo_stepOnce_32 : decode b_Mo_stepOnce 32 = .ok (.ifCond .eq (11), 3) := by decide +kernel
theorem d_Mo_stepOnce_35 : decode b_Mo_stepOnce 35 = .ok (.aload_n 0, 1) := by decide +kernel
theorem d_Mo_stepOnce_36 : decode b_Mo_stepOnce 36 = .ok (.iload_n 1, 1) := by decide +kernel
theorem d_Mo_stepOnce_37 : decode b_Mo_stepOnce 37 = .ok (.invokevirtual 178, 3) := by decide +kernel
theorem d_Mo_stepOnce_40 : decode b_Mo_stepOnce 40 = .ok (.ifCond .ne (7), 3) := by decide +kernel
theorem d_Mo_stepOnce_43 : decode b_Mo_stepOnce 43 = .ok (.iconst 1, 1) := by decide +kernel
theorem d_Mo_stepOnce_44 : decode b_Mo_stepOnce 44 = .ok (.goto (19), 3) := by decide +kernel
theorem d_Mo_stepOnce_47 : decode b_Mo_stepOnce 47 = .ok (.aload_n 0, 1) := by decide +kernel
theorem d_Mo_stepOnce_48 : decode b_Mo_stepOnce 48 = .ok (.aload_n 0, 1) := by decide +kernel
theorem d_Mo_stepOnce_49 : decode b_Mo_stepOnce 49 = .ok (.getfield 7, 3) := by decide +kernel
theorem d_Mo_stepOnce_52 : decode b_Mo_stepOnce 52 = .ok (.iload_n 1, 1) := by decide +kernel
theorem d_Mo_stepOnce_53 : decode b_Mo_stepOnce 53 = .ok (.iaload, 1) := by decide +kernel
theorem d_Mo_stepOnce_54 : decode b_Mo_stepOnce 54 = .ok (.aload_n 0, 1) := by decide +kernel
theorem d_Mo_stepOnce_55 : decode b_Mo_stepOnce 55 = .ok (.getfield 13, 3) := by decide +kernel
theorem d_Mo_stepOnce_58 : decode b_Mo_stepOnce 58 = .ok (.iload_n 1, 1) := by decide +kernel
theorem d_Mo_stepOnce_59 : decode b_Mo_stepOnce 59 = .ok (.iaload, 1) := by decide +kernel
theorem d_Mo_stepOnce_60 : decode b_Mo_stepOnce 60 = .ok (.invokevirtual 181, 3) := by decide +kernel
theorem d_Mo_stepOnce_63 : decode b_Mo_stepOnce 63 = .ok (.putfield 175, 3) := by decide +kernel
theorem d_Mo_stepOnce_66 : decode b_Mo_stepOnce 66 = .ok (.aload_n 0, 1) := by decide +kernel
theorem d_Mo_stepOnce_67 : decode b_Mo_stepOnce 67 = .ok (.getfield 175, 3) := by decide +kernel
theorem d_Mo_stepOnce_70 : decode b_Mo_stepOnce 70 = .ok (.ifCond .eq (10), 3) := by decide +kernel
theorem d_Mo_stepOnce_73 : decode b_Mo_stepOnce 73 = .ok (.aload_n 0, 1) := by decide +kernel
theorem d_Mo_stepOnce_74 : decode b_Mo_stepOnce 74 = .ok (.iconst 0, 1) := by decide +kernel
theorem d_Mo_stepOnce_75 : decode b_Mo_stepOnce 75 = .ok (.putfield 130, 3) := by decide +kernel
theorem d_Mo_stepOnce_78 : decode b_Mo_stepOnce 78 = .ok (.iconst 0, 1) := by decide +kernel
theorem d_Mo_stepOnce_79 : decode b_Mo_stepOnce 79 = .ok (.ireturn, 1) := by decide +kernel
theorem d_Mo_stepOnce_80 : decode b_Mo_stepOnce 80 = .ok (.aload_n 0, 1) := by decide +kernel
theorem d_Mo_stepOnce_81 : decode b_Mo_stepOnce 81 = .ok (.iload_n 1, 1) := by decide +kernel
theorem d_Mo_stepOnce_82 : decode b_Mo_stepOnce 82 = .ok (.invokevirtual 184, 3) := by decide +kernel
theorem d_Mo_stepOnce_85 : decode b_Mo_stepOnce 85 = .ok (.iconst 1, 1) := by decide +kernel
theorem d_Mo_stepOnce_86 : decode b_Mo_stepOnce 86 = .ok (.ireturn, 1) := by decide +kernel
def y_Mo_step : MethodName := ⟨"FrameVerifierModel", "step", "()I"⟩
abbrev b_Mo_step : ByteArray := prog_11_method_39_code
def rm_Mo_step : Room := { frames := 6, cells := 0, slots := 0, locals := 135 }
abbrev w_Mo_step : List Cond := Cond.code y_Mo_step b_Mo_step 2 (some .int) :: wG
theorem m_Mo_step : Cond.code y_Mo_step b_Mo_step 2 (some .int) ∈ wG := wg_t 914 (by decide +kernel) (by decide +kernel)
theorem q_Mo_step : y_Mo_step.cls ≠ "java/lang/invoke/MethodHandle" ∧ y_Mo_step.cls ≠ "java/lang/invoke/VarHandle" ∧ (parseMethodDescriptor y_Mo_step.desc).map (fun d => d.parameters.length) = some 0 := by decide +kernel
theorem g_Mo_step : Cond.initialized y_Mo_step.cls ∈ wG := wg_t 6 (by decide +kernel) (by decide +kernel)
theorem s_Mo_step : Cond.instanceMethod y_Mo_step ∈ wG := wg_t 912 (by decide +kernel) (by decide +kernel)
theorem e_Mo_step : Cond.selects "FrameVerifierModel" y_Mo_step y_Mo_step ∈ wG := wg_t 913 (by decide +kernel) (by decide +kernel)
theorem d_Mo_step_0 : decode b_Mo_step 0 = .ok (.aload_n 0, 1) := by decide +kernel
theorem d_Mo_step_1 : decode b_Mo_step 1 = .ok (.invokevirtual 187, 3) := by decide +kernel
theorem d_Mo_step_4 : decode b_Mo_step 4 = .ok (.istore_n 1, 1) := by decide +kernel
theorem d_Mo_step_5 : decode b_Mo_step 5 = .ok (.aload_n 0, 1) := by decide +kernel
theorem d_Mo_step_6 : decode b_Mo_step 6 = .ok (.aload_n 0, 1) := by decide +kernel
theorem d_Mo_step_7 : decode b_Mo_step 7 = .ok (.getfield 175, 3) := by decide +kernel
theorem d_Mo_step_10 : decode b_Mo_step 10 = .ok (.putfield 59, 3) := by decide +kernel
theorem d_Mo_step_13 : decode b_Mo_step 13 = .ok (.aload_n 0, 1) := by decide +kernel
theorem d_Mo_step_14 : decode b_Mo_step 14 = .ok (.getfield 130, 3) := by decide +kernel
theorem d_Mo_step_17 : decode b_Mo_step 17 = .ok (.ifCond .le (7), 3) := by decide +kernel
theorem d_Mo_step_20 : decode b_Mo_step 20 = .ok (.iconst 1, 1) := by decide +kernel
theorem d_Mo_step_21 : decode b_Mo_step 21 = .ok (.goto (4), 3) := by decide +kernel
theorem d_Mo_step_24 : decode b_Mo_step 24 = .ok (.iconst 0, 1) := by decide +kernel
theorem d_Mo_step_25 : decode b_Mo_step 25 = .ok (.ireturn, 1) := by decide +kernel
def y_Mo_steps : MethodName := ⟨"FrameVerifierModel", "steps", "(I)I"⟩
abbrev b_Mo_steps : ByteArray := prog_11_method_40_code
def rm_Mo_steps : Room := { frames := 6, cells := 0, slots := 0, locals := 135 }
abbrev w_Mo_steps : List Cond := Cond.code y_Mo_steps b_Mo_steps 3 (some .int) :: wG
theorem m_Mo_steps : Cond.code y_Mo_steps b_Mo_steps 3 (some .int) ∈ wG := wg_t 975 (by decide +kernel) (by decide +kernel)
theorem q_Mo_steps : y_Mo_steps.cls ≠ "java/lang/invoke/MethodHandle" ∧ y_Mo_steps.cls ≠ "java/lang/invoke/VarHandle" ∧ (parseMethodDescriptor y_Mo_steps.desc).map (fun d => d.parameters.length) = some 1 := by decide +kernel
theorem g_Mo_steps : Cond.initialized y_Mo_steps.cls ∈ wG := wg_t 6 (by decide +kernel) (by decide +kernel)
theorem s_Mo_steps : Cond.instanceMethod y_Mo_steps ∈ wG := wg_t 973 (by decide +kernel) (by decide +kernel)
theorem e_Mo_steps : Cond.selects "FrameVerifierModel" y_Mo_steps y_Mo_steps ∈ wG := wg_t 974 (by decide +kernel) (by decide +kernel)
theorem d_Mo_steps_0 : decode b_Mo_steps 0 = .ok (.aload_n 0, 1) := by decide +kernel
theorem d_Mo_steps_1 : decode b_Mo_steps 1 = .ok (.iload_n 1, 1) := by decide +kernel
theorem d_Mo_steps_2 : decode b_Mo_steps 2 = .ok (.iconst 1, 1) := by decide +kernel
theorem d_Mo_steps_3 : decode b_Mo_steps 3 = .ok (.if_icmp .lt (10), 3) := by decide +kernel
theorem d_Mo_steps_6 : decode b_Mo_steps 6 = .ok (.iload_n 1, 1) := by decide +kernel
theorem d_Mo_steps_7 : decode b_Mo_steps 7 = .ok (.sipush (200), 3) := by decide +kernel
theorem d_Mo_steps_10 : decode b_Mo_steps 10 = .ok (.if_icmp .le (7), 3) := by decide +kernel
theorem d_Mo_steps_13 : decode b_Mo_steps 13 = .ok (.iconst 1, 1) := by decide +kernel
theorem d_Mo_steps_14 : decode b_Mo_steps 14 = .ok (.goto (4), 3) := by decide +kernel
theorem d_Mo_steps_17 : decode b_Mo_steps 17 = .ok (.iconst 0, 1) := by decide +kernel
theorem d_Mo_steps_18 : decode b_Mo_steps 18 = .ok (.putfield 59, 3) := by decide +kernel
theorem d_Mo_steps_21 : decode b_Mo_steps 21 = .ok (.iconst 0, 1) := by decide +kernel
theorem d_Mo_steps_22 : decode b_Mo_steps 22 = .ok (.istore_n 2, 1) := by decide +kernel
theorem d_Mo_steps_23 : decode b_Mo_steps 23 = .ok (.aload_n 0, 1) := by decide +kernel
theorem d_Mo_steps_24 : decode b_Mo_steps 24 = .ok (.iconst 0, 1) := by decide +kernel
theorem d_Mo_steps_25 : decode b_Mo_steps 25 = .ok (.putfield 175, 3) := by decide +kernel
theorem d_Mo_steps_28 : decode b_Mo_steps 28 = .ok (.aload_n 0, 1) := by decide +kernel
theorem d_Mo_steps_29 : decode b_Mo_steps 29 = .ok (.getfield 59, 3) := by decide +kernel
theorem d_Mo_steps_32 : decode b_Mo_steps 32 = .ok (.ifCond .ne (28), 3) := by decide +kernel
theorem d_Mo_steps_35 : decode b_Mo_steps 35 = .ok (.aload_n 0, 1) := by decide +kernel
theorem d_Mo_steps_36 : decode b_Mo_steps 36 = .ok (.getfield 175, 3) := by decide +kernel
theorem d_Mo_steps_39 : decode b_Mo_steps 39 = .ok (.ifCond .ne (21), 3) := by decide +kernel
theorem d_Mo_steps_42 : decode b_Mo_steps 42 = .ok (.iload_n 2, 1) := by decide +kernel
theorem d_Mo_steps_43 : decode b_Mo_steps 43 = .ok (.iload_n 1, 1) := by decide +kernel
theorem d_Mo_steps_44 : decode b_Mo_steps 44 = .ok (.if_icmp .ge (16), 3) := by decide +kernel
theorem d_Mo_steps_47 : decode b_Mo_steps 47 = .ok (.aload_n 0, 1) := by decide +kernel
theorem d_Mo_steps_48 : decode b_Mo_steps 48 = .ok (.invokevirtual 187, 3) := by decide +kernel
theorem d_Mo_steps_51 : decode b_Mo_steps 51 = .ok (.ifCond .eq (9), 3) := by decide +kernel
theorem d_Mo_steps_54 : decode b_Mo_steps 54 = .ok (.iinc 2 (1), 3) := by decide +kernel
theorem d_Mo_steps_57 : decode b_Mo_steps 57 = .ok (.goto (-29), 3) := by decide +kernel
theorem d_Mo_steps_60 : decode b_Mo_steps 60 = .ok (.aload_n 0, 1) := by decide +kernel
theorem d_Mo_steps_61 : decode b_Mo_steps 61 = .ok (.aload_n 0, 1) := by decide +kernel
theorem d_Mo_steps_62 : decode b_Mo_steps 62 = .ok (.getfield 59, 3) := by decide +kernel
theorem d_Mo_steps_65 : decode b_Mo_steps 65 = .ok (.ifCond .eq (10), 3) := by decide +kernel
theorem d_Mo_steps_68 : decode b_Mo_steps 68 = .ok (.aload_n 0, 1) := by decide +kernel
theorem d_Mo_steps_69 : decode b_Mo_steps 69 = .ok (.getfield 59, 3) := by decide +kernel
theorem d_Mo_steps_72 : decode b_Mo_steps 72 = .ok (.goto (20), 3) := by decide +kernel
theorem d_Mo_steps_75 : decode b_Mo_steps 75 = .ok (.aload_n 0, 1) := by decide +kernel
theorem d_Mo_steps_76 : decode b_Mo_steps 76 = .ok (.getfield 175, 3) := by decide +kernel
theorem d_Mo_steps_79 : decode b_Mo_steps 79 = .ok (.ifCond .ne (7), 3) := by decide +kernel
theorem d_Mo_steps_82 : decode b_Mo_steps 82 = .ok (.iconst 0, 1) := by decide +kernel
theorem d_Mo_steps_83 : decode b_Mo_steps 83 = .ok (.goto (9), 3) := by decide +kernel
theorem d_Mo_steps_86 : decode b_Mo_steps 86 = .ok (.aload_n 0, 1) := by decide +kernel
theorem d_Mo_steps_87 : decode b_Mo_steps 87 = .ok (.getfield 175, 3) := by decide +kernel
theorem d_Mo_steps_90 : decode b_Mo_steps 90 = .ok (.iconst 1, 1) := by decide +kernel
theorem d_Mo_steps_91 : decode b_Mo_steps 91 = .ok (.iadd, 1) := by decide +kernel
theorem d_Mo_steps_92 : decode b_Mo_steps 92 = .ok (.putfield 59, 3) := by decide +kernel
theorem d_Mo_steps_95 : decode b_Mo_steps 95 = .ok (.aload_n 0, 1) := by decide +kernel
theorem d_Mo_steps_96 : decode b_Mo_steps 96 = .ok (.getfield 59, 3) := by decide +kernel
theorem d_Mo_steps_99 : decode b_Mo_steps 99 = .ok (.ifCond .ne (7), 3) := by decide +kernel
theorem d_Mo_steps_102 : decode b_Mo_steps 102 = .ok (.iload_n 2, 1) := by decide +kernel
theorem d_Mo_steps_103 : decode b_Mo_steps 103 = .ok (.goto (4), 3) := by decide +kernel
theorem d_Mo_steps_106 : decode b_Mo_steps 106 = .ok (.iconst 0, 1) := by decide +kernel
theorem d_Mo_steps_107 : decode b_Mo_steps 107 = .ok (.ireturn, 1) := by decide +kernel
def y_Mo_about : MethodName := ⟨"FrameVerifierModel", "about", "(I)I"⟩
abbrev b_Mo_about : ByteArray := prog_11_method_41_code
def rm_Mo_about : Room := { frames := 1, cells := 0, slots := 0, locals := 21 }
abbrev w_Mo_about : List Cond := Cond.code y_Mo_about b_Mo_about 5 (some .int) :: wG
theorem m_Mo_about : Cond.code y_Mo_about b_Mo_about 5 (some .int) ∈ wG := wg_t 979 (by decide +kernel) (by decide +kernel)
theorem q_Mo_about : y_Mo_about.cls ≠ "java/lang/invoke/MethodHandle" ∧ y_Mo_about.cls ≠ "java/lang/invoke/VarHandle" ∧ (parseMethodDescriptor y_Mo_about.desc).map (fun d => d.parameters.length) = some 1 := by decide +kernel
theorem g_Mo_about : Cond.initialized y_Mo_about.cls ∈ wG := wg_t 6 (by decide +kernel) (by decide +kernel)
theorem s_Mo_about : Cond.instanceMethod y_Mo_about ∈ wG := wg_t 977 (by decide +kernel) (by decide +kernel)
theorem e_Mo_about : Cond.selects "FrameVerifierModel" y_Mo_about y_Mo_about ∈ wG := wg_t 978 (by decide +kernel) (by decide +kernel)
theorem d_Mo_about_0 : decode b_Mo_about 0 = .ok (.aload_n 0, 1) := by decide +kernel
theorem d_Mo_about_1 : decode b_Mo_about 1 = .ok (.iconst 0, 1) := by decide +kernel
theorem d_Mo_about_2 : decode b_Mo_about 2 = .ok (.putfield 59, 3) := by decide +kernel
theorem d_Mo_about_5 : decode b_Mo_about 5 = .ok (.aload_n 0, 1) := by decide +kernel
theorem d_Mo_about_6 : decode b_Mo_about 6 = .ok (.getfield 130, 3) := by decide +kernel
theorem d_Mo_about_9 : decode b_Mo_about 9 = .ok (.ifCond .le (7), 3) := by decide +kernel
theorem d_Mo_about_12 : decode b_Mo_about 12 = .ok (.iconst 1, 1) := by decide +kernel
theorem d_Mo_about_13 : decode b_Mo_about 13 = .ok (.goto (4), 3) := by decide +kernel
theorem d_Mo_about_16 : decode b_Mo_about 16 = .ok (.iconst 0, 1) := by decide +kernel
theorem d_Mo_about_17 : decode b_Mo_about 17 = .ok (.istore_n 2, 1) := by decide +kernel
theorem d_Mo_about_18 : decode b_Mo_about 18 = .ok (.iload_n 2, 1) := by decide +kernel
theorem d_Mo_about_19 : decode b_Mo_about 19 = .ok (.ifCond .eq (12), 3) := by decide +kernel
theorem d_Mo_about_22 : decode b_Mo_about 22 = .ok (.aload_n 0, 1) := by decide +kernel
theorem d_Mo_about_23 : decode b_Mo_about 23 = .ok (.getfield 130, 3) := by decide +kernel
theorem d_Mo_about_26 : decode b_Mo_about 26 = .ok (.iconst 1, 1) := by decide +kernel
theorem d_Mo_about_27 : decode b_Mo_about 27 = .ok (.isub, 1) := by decide +kernel
theorem d_Mo_about_28 : decode b_Mo_about 28 = .ok (.goto (4), 3) := by decide +kernel
theorem d_Mo_about_31 : decode b_Mo_about 31 = .ok (.iconst 0, 1) := by decide +kernel
theorem d_Mo_about_32 : decode b_Mo_about 32 = .ok (.istore_n 3, 1) := by decide +kernel
theorem d_Mo_about_33 : decode b_Mo_about 33 = .ok (.bipush (12), 2) := by decide +kernel
theorem d_Mo_about_35 : decode b_Mo_about 35 = .ok (.iload_n 3, 1) := by decide +kernel
theorem d_Mo_about_36 : decode b_Mo_about 36 = .ok (.imul, 1) := by decide +kernel
theorem d_Mo_about_37 : decode b_Mo_about 37 = .ok (.iconst 5, 1) := by decide +kernel
theorem d_Mo_about_38 : decode b_Mo_about 38 = .ok (.iadd, 1) := by decide +kernel
theorem d_Mo_about_39 : decode b_Mo_about 39 = .ok (.aload_n 0, 1) := by decide +kernel
theorem d_Mo_about_40 : decode b_Mo_about 40 = .ok (.getfield 47, 3) := by decide +kernel
theorem d_Mo_about_43 : decode b_Mo_about 43 = .ok (.iload_n 3, 1) := by decide +kernel
theorem d_Mo_about_44 : decode b_Mo_about 44 = .ok (.iaload, 1) := by decide +kernel
theorem d_Mo_about_45 : decode b_Mo_about 45 = .ok (.iadd, 1) := by decide +kernel
theorem d_Mo_about_46 : decode b_Mo_about 46 = .ok (.istore 4, 2) := by decide +kernel
theorem d_Mo_about_48 : decode b_Mo_about 48 = .ok (.iload_n 1, 1) := by decide +kernel
theorem d_Mo_about_49 : decode b_Mo_about 49 = .ok (.tableswitch (150) (0) (7) #[(47), (57), (72), (85), (100), (135), (140), (145)], 47) := by decide +kernel
theorem d_Mo_about_96 : decode b_Mo_about 96 = .ok (.iload_n 2, 1) := by decide +kernel
theorem d_Mo_about_97 : decode b_Mo_about 97 = .ok (.ifCond .eq (7), 3) := by decide +kernel
theorem d_Mo_about_100 : decode b_Mo_about 100 = .ok (.iconst 1, 1) := by decide +kernel
theorem d_Mo_about_101 : decode b_Mo_about 101 = .ok (.goto (4), 3) := by decide +kernel
theorem d_Mo_about_104 : decode b_Mo_about 104 = .ok (.iconst 0, 1) := by decide +kernel
theorem d_Mo_about_105 : decode b_Mo_about 105 = .ok (.ireturn, 1) := by decide +kernel
theorem d_Mo_about_106 : decode b_Mo_about 106 = .ok (.iload_n 2, 1) := by decide +kernel
theorem d_Mo_about_107 : decode b_Mo_about 107 = .ok (.ifCond .eq (12), 3) := by decide +kernel
theorem d_Mo_about_110 : decode b_Mo_about 110 = .ok (.aload_n 0, 1) := by decide +kernel
theorem d_Mo_about_111 : decode b_Mo_about 111 = .ok (.getfield 44, 3) := by decide +kernel
theorem d_Mo_about_114 : decode b_Mo_about 114 = .ok (.iload_n 3, 1) := by decide +kernel
theorem d_Mo_about_115 : decode b_Mo_about 115 = .ok (.iaload, 1) := by decide +kernel
theorem d_Mo_about_116 : decode b_Mo_about 116 = .ok (.goto (4), 3) := by decide +kernel
theorem d_Mo_about_119 : decode b_Mo_about 119 = .ok (.iconst (-1), 1) := by decide +kernel
theorem d_Mo_about_120 : decode b_Mo_about 120 = .ok (.ireturn, 1) := by decide +kernel
theorem d_Mo_about_121 : decode b_Mo_about 121 = .ok (.iload_n 2, 1) := by decide +kernel
theorem d_Mo_about_122 : decode b_Mo_about 122 = .ok (.ifCond .eq (10), 3) := by decide +kernel
theorem d_Mo_about_125 : decode b_Mo_about 125 = .ok (.aload_n 0, 1) := by decide +kernel
theorem d_Mo_about_126 : decode b_Mo_about 126 = .ok (.getfield 130, 3) := by decide +kernel
theorem d_Mo_about_129 : decode b_Mo_about 129 = .ok (.goto (4), 3) := by decide +kernel
theorem d_Mo_about_132 : decode b_Mo_about 132 = .ok (.iconst (-1), 1) := by decide +kernel
theorem d_Mo_about_133 : decode b_Mo_about 133 = .ok (.ireturn, 1) := by decide +kernel
theorem d_Mo_about_134 : decode b_Mo_about 134 = .ok (.iload_n 2, 1) := by decide +kernel
theorem d_Mo_about_135 : decode b_Mo_about 135 = .ok (.ifCond .eq (12), 3) := by decide +kernel
theorem d_Mo_about_138 : decode b_Mo_about 138 = .ok (.aload_n 0, 1) := by decide +kernel
theorem d_Mo_about_139 : decode b_Mo_about 139 = .ok (.getfield 47, 3) := by decide +kernel
theorem d_Mo_about_142 : decode b_Mo_about 142 = .ok (.iload_n 3, 1) := by decide +kernel
theorem d_Mo_about_143 : decode b_Mo_about 143 = .ok (.iaload, 1) := by decide +kernel
theorem d_Mo_about_144 : decode b_Mo_about 144 = .ok (.goto (4), 3) := by decide +kernel
theorem d_Mo_about_147 : decode b_Mo_about 147 = .ok (.iconst (-1), 1) := by decide +kernel
theorem d_Mo_about_148 : decode b_Mo_about 148 = .ok (.ireturn, 1) := by decide +kernel
theorem d_Mo_about_149 : decode b_Mo_about 149 = .ok (.iload_n 2, 1) := by decide +kernel
theorem d_Mo_about_150 : decode b_Mo_about 150 = .ok (.ifCond .eq (32), 3) := by decide +kernel
theorem d_Mo_about_153 : decode b_Mo_about 153 = .ok (.aload_n 0, 1) := by decide +kernel
theorem d_Mo_about_154 : decode b_Mo_about 154 = .ok (.getfield 47, 3) := by decide +kernel
theorem d_Mo_about_157 : decode b_Mo_about 157 = .ok (.iload_n 3, 1) := by decide +kernel
theorem d_Mo_about_158 : decode b_Mo_about 158 = .ok (.iaload, 1) := by decide +kernel
theorem d_Mo_about_159 : decode b_Mo_about 159 = .ok (.ifCond .le (23), 3) := by decide +kernel
theorem d_Mo_about_162 : decode b_Mo_about 162 = .ok (.aload_n 0, 1) := by decide +kernel
theorem d_Mo_about_163 : decode b_Mo_about 163 = .ok (.getfield 53, 3) := by decide +kernel
theorem d_Mo_about_166 : decode b_Mo_about 166 = .ok (.iload 4, 2) := by decide +kernel
theorem d_Mo_about_168 : decode b_Mo_about 168 = .ok (.iaload, 1) := by decide +kernel
theorem d_Mo_about_169 : decode b_Mo_about 169 = .ok (.aload_n 0, 1) := by decide +kernel
theorem d_Mo_about_170 : decode b_Mo_about 170 = .ok (.getfield 50, 3) := by decide +kernel
theorem d_Mo_about_173 : decode b_Mo_about 173 = .ok (.iload 4, 2) := by decide +kernel
theorem d_Mo_about_175 : decode b_Mo_about 175 = .ok (.iaload, 1) := by decide +kernel
theorem d_Mo_about_176 : decode b_Mo_about 176 = .ok (.invokestatic 154, 3) := by decide +kernel
theorem d_Mo_about_179 : decode b_Mo_about 179 = .ok (.goto (4), 3) := by decide +kernel
theorem d_Mo_about_182 : decode b_Mo_about 182 = .ok (.iconst (-1), 1) := by decide +kernel
theorem d_Mo_about_183 : decode b_Mo_about 183 = .ok (.ireturn, 1) := by decide +kernel
theorem d_Mo_about_184 : decode b_Mo_about 184 = .ok (.aload_n 0, 1) := by decide +kernel
theorem d_Mo_about_185 : decode b_Mo_about 185 = .ok (.getfield 157, 3) := by decide +kernel
theorem d_Mo_about_188 : decode b_Mo_about 188 = .ok (.ireturn, 1) := by decide +kernel
theorem d_Mo_about_189 : decode b_Mo_about 189 = .ok (.aload_n 0, 1) := by decide +kernel
theorem d_Mo_about_190 : decode b_Mo_about 190 = .ok (.getfield 133, 3) := by decide +kernel
theorem d_Mo_about_193 : decode b_Mo_about 193 = .ok (.ireturn, 1) := by decide +kernel
theorem d_Mo_about_194 : decode b_Mo_about 194 = .ok (.aload_n 0, 1) := by decide +kernel
theorem d_Mo_about_195 : decode b_Mo_about 195 = .ok (.getfield 63, 3) := by decide +kernel
theorem d_Mo_about_198 : decode b_Mo_about 198 = .ok (.ireturn, 1) := by decide +kernel
theorem d_Mo_about_199 : decode b_Mo_about 199 = .ok (.iconst (-1), 1) := by decide +kernel
theorem d_Mo_about_200 : decode b_Mo_about 200 = .ok (.ireturn, 1) := by decide +kernel
def y_Mo_local : MethodName := ⟨"FrameVerifierModel", "local", "(I)I"⟩
abbrev b_Mo_local : ByteArray := prog_11_method_42_code
def rm_Mo_local : Room := { frames := 1, cells := 0, slots := 0, locals := 21 }
abbrev w_Mo_local : List Cond := Cond.code y_Mo_local b_Mo_local 2 (some .int) :: wG
theorem m_Mo_local : Cond.code y_Mo_local b_Mo_local 2 (some .int) ∈ wG := wg_t 983 (by decide +kernel) (by decide +kernel)
theorem q_Mo_local : y_Mo_local.cls ≠ "java/lang/invoke/MethodHandle" ∧ y_Mo_local.cls ≠ "java/lang/invoke/VarHandle" ∧ (parseMethodDescriptor y_Mo_local.desc).map (fun d => d.parameters.length) = some 1 := by decide +kernel
theorem g_Mo_local : Cond.initialized y_Mo_local.cls ∈ wG := wg_t 6 (by decide +kernel) (by decide +kernel)
theorem s_Mo_local : Cond.instanceMethod y_Mo_local ∈ wG := wg_t 981 (by decide +kernel) (by decide +kernel)
theorem e_Mo_local : Cond.selects "FrameVerifierModel" y_Mo_local y_Mo_local ∈ wG := wg_t 982 (by decide +kernel) (by decide +kernel)
theorem d_Mo_local_0 : decode b_Mo_local 0 = .ok (.aload_n 0, 1) := by decide +kernel
theorem d_Mo_local_1 : decode b_Mo_local 1 = .ok (.iconst 0, 1) := by decide +kernel
theorem d_Mo_local_2 : decode b_Mo_local 2 = .ok (.putfield 59, 3) := by decide +kernel
theorem d_Mo_local_5 : decode b_Mo_local 5 = .ok (.iload_n 1, 1) := by decide +kernel
theorem d_Mo_local_6 : decode b_Mo_local 6 = .ok (.ifCond .lt (34), 3) := by decide +kernel
theorem d_Mo_local_9 : decode b_Mo_local 9 = .ok (.iload_n 1, 1) := by decide +kernel
theorem d_Mo_local_10 : decode b_Mo_local 10 = .ok (.iconst 5, 1) := by decide +kernel
theorem d_Mo_local_11 : decode b_Mo_local 11 = .ok (.if_icmp .gt (29), 3) := by decide +kernel
theorem d_Mo_local_14 : decode b_Mo_local 14 = .ok (.aload_n 0, 1) := by decide +kernel
theorem d_Mo_local_15 : decode b_Mo_local 15 = .ok (.getfield 130, 3) := by decide +kernel
theorem d_Mo_local_18 : decode b_Mo_local 18 = .ok (.ifCond .eq (22), 3) := by decide +kernel
theorem d_Mo_local_21 : decode b_Mo_local 21 = .ok (.aload_n 0, 1) := by decide +kernel
theorem d_Mo_local_22 : decode b_Mo_local 22 = .ok (.getfield 53, 3) := by decide +kernel
theorem d_Mo_local_25 : decode b_Mo_local 25 = .ok (.bipush (12), 2) := by decide +kernel
theorem d_Mo_local_27 : decode b_Mo_local 27 = .ok (.aload_n 0, 1) := by decide +kernel
theorem d_Mo_local_28 : decode b_Mo_local 28 = .ok (.getfield 130, 3) := by decide +kernel
theorem d_Mo_local_31 : decode b_Mo_local 31 = .ok (.iconst 1, 1) := by decide +kernel
theorem d_Mo_local_32 : decode b_Mo_local 32 = .ok (.isub, 1) := by decide +kernel
theorem d_Mo_local_33 : decode b_Mo_local 33 = .ok (.imul, 1) := by decide +kernel
theorem d_Mo_local_34 : decode b_Mo_local 34 = .ok (.iload_n 1, 1) := by decide +kernel
theorem d_Mo_local_35 : decode b_Mo_local 35 = .ok (.iadd, 1) := by decide +kernel
theorem d_Mo_local_36 : decode b_Mo_local 36 = .ok (.iaload, 1) := by decide +kernel
theorem d_Mo_local_37 : decode b_Mo_local 37 = .ok (.ifCond .ne (5), 3) := by decide +kernel
theorem d_Mo_local_40 : decode b_Mo_local 40 = .ok (.iconst (-1), 1) := by decide +kernel
theorem d_Mo_local_41 : decode b_Mo_local 41 = .ok (.ireturn, 1) := by decide +kernel
theorem d_Mo_local_42 : decode b_Mo_local 42 = .ok (.aload_n 0, 1) := by decide +kernel
theorem d_Mo_local_43 : decode b_Mo_local 43 = .ok (.getfield 53, 3) := by decide +kernel
theorem d_Mo_local_46 : decode b_Mo_local 46 = .ok (.bipush (12), 2) := by decide +kernel
theorem d_Mo_local_48 : decode b_Mo_local 48 = .ok (.aload_n 0, 1) := by decide +kernel
theorem d_Mo_local_49 : decode b_Mo_local 49 = .ok (.getfield 130, 3) := by decide +kernel
theorem d_Mo_local_52 : decode b_Mo_local 52 = .ok (.iconst 1, 1) := by decide +kernel
theorem d_Mo_local_53 : decode b_Mo_local 53 = .ok (.isub, 1) := by decide +kernel
theorem d_Mo_local_54 : decode b_Mo_local 54 = .ok (.imul, 1) := by decide +kernel
theorem d_Mo_local_55 : decode b_Mo_local 55 = .ok (.iload_n 1, 1) := by decide +kernel
theorem d_Mo_local_56 : decode b_Mo_local 56 = .ok (.iadd, 1) := by decide +kernel
theorem d_Mo_local_57 : decode b_Mo_local 57 = .ok (.iaload, 1) := by decide +kernel
theorem d_Mo_local_58 : decode b_Mo_local 58 = .ok (.aload_n 0, 1) := by decide +kernel
theorem d_Mo_local_59 : decode b_Mo_local 59 = .ok (.getfield 50, 3) := by decide +kernel
theorem d_Mo_local_62 : decode b_Mo_local 62 = .ok (.bipush (12), 2) := by decide +kernel
theorem d_Mo_local_64 : decode b_Mo_local 64 = .ok (.aload_n 0, 1) := by decide +kernel
theorem d_Mo_local_65 : decode b_Mo_local 65 = .ok (.getfield 130, 3) := by decide +kernel
theorem d_Mo_local_68 : decode b_Mo_local 68 = .ok (.iconst 1, 1) := by decide +kernel
theorem d_Mo_local_69 : decode b_Mo_local 69 = .ok (.isub, 1) := by decide +kernel
theorem d_Mo_local_70 : decode b_Mo_local 70 = .ok (.imul, 1) := by decide +kernel
theorem d_Mo_local_71 : decode b_Mo_local 71 = .ok (.iload_n 1, 1) := by decide +kernel
theorem d_Mo_local_72 : decode b_Mo_local 72 = .ok (.iadd, 1) := by decide +kernel
theorem d_Mo_local_73 : decode b_Mo_local 73 = .ok (.iaload, 1) := by decide +kernel
theorem d_Mo_local_74 : decode b_Mo_local 74 = .ok (.invokestatic 154, 3) := by decide +kernel
theorem d_Mo_local_77 : decode b_Mo_local 77 = .ok (.ireturn, 1) := by decide +kernel
theorem wd_741 : (Jvm.Cond.fieldLink "FrameVerifierModel" (63 : Nat) "FrameVerifierModel" "instructions" "I") ∈ wG := wg_t 741 (by decide +kernel) (by decide +kernel)
theorem wd_742 : (Jvm.Cond.fieldLink "FrameVerifierModel" (7 : Nat) "FrameVerifierModel" "op" "[I") ∈ wG := wg_t 742 (by decide +kernel) (by decide +kernel)
theorem wd_743 : (Jvm.Cond.fieldLink "FrameVerifierModel" (13 : Nat) "FrameVerifierModel" "number" "[I") ∈ wG := wg_t 743 (by decide +kernel) (by decide +kernel)
theorem wd_744 : (Jvm.Cond.fieldLink "FrameVerifierModel" (16 : Nat) "FrameVerifierModel" "there" "[Z") ∈ wG := wg_t 744 (by decide +kernel) (by decide +kernel)
theorem wd_745 : (Jvm.Cond.fieldLink "FrameVerifierModel" (20 : Nat) "FrameVerifierModel" "start" "[I") ∈ wG := wg_t 745 (by decide +kernel) (by decide +kernel)
theorem wd_746 : (Jvm.Cond.fieldLink "FrameVerifierModel" (23 : Nat) "FrameVerifierModel" "parameters" "[I") ∈ wG := wg_t 746 (by decide +kernel) (by decide +kernel)
theorem wd_747 : (Jvm.Cond.fieldLink "FrameVerifierModel" (26 : Nat) "FrameVerifierModel" "kinds" "[I") ∈ wG := wg_t 747 (by decide +kernel) (by decide +kernel)
theorem wd_748 : (Jvm.Cond.fieldLink "FrameVerifierModel" (66 : Nat) "FrameVerifierModel" "verified" "Z") ∈ wG := wg_t 748 (by decide +kernel) (by decide +kernel)
theorem wd_749 : (Jvm.Cond.fieldLink "FrameVerifierModel" (29 : Nat) "FrameVerifierModel" "height" "[I") ∈ wG := wg_t 749 (by decide +kernel) (by decide +kernel)
theorem wd_750 : (Jvm.Cond.fieldLink "FrameVerifierModel" (32 : Nat) "FrameVerifierModel" "types" "[I") ∈ wG := wg_t 750 (by decide +kernel) (by decide +kernel)
theorem wd_751 : (Jvm.Cond.fieldLink "FrameVerifierModel" (35 : Nat) "FrameVerifierModel" "waits" "[Z") ∈ wG := wg_t 751 (by decide +kernel) (by decide +kernel)
theorem wd_752 : (Jvm.Cond.fieldLink "FrameVerifierModel" (70 : Nat) "FrameVerifierModel" "high" "I") ∈ wG := wg_t 752 (by decide +kernel) (by decide +kernel)
theorem wd_753 : (Jvm.Cond.fieldLink "FrameVerifierModel" (38 : Nat) "FrameVerifierModel" "row" "[I") ∈ wG := wg_t 753 (by decide +kernel) (by decide +kernel)
theorem wd_754 : (Jvm.Cond.fieldLink "FrameVerifierModel" (73 : Nat) "FrameVerifierModel" "bad" "Z") ∈ wG := wg_t 754 (by decide +kernel) (by decide +kernel)
theorem wd_755 : (Jvm.Cond.fieldLink "FrameVerifierModel" (83 : Nat) "FrameVerifierModel" "goesBehind" "Z") ∈ wG := wg_t 755 (by decide +kernel) (by decide +kernel)
theorem wd_756 : (Jvm.Cond.fieldLink "FrameVerifierModel" (80 : Nat) "FrameVerifierModel" "goesTo" "I") ∈ wG := wg_t 756 (by decide +kernel) (by decide +kernel)
theorem wd_757 : (Jvm.Cond.fieldLink "FrameVerifierModel" (130 : Nat) "FrameVerifierModel" "frames" "I") ∈ wG := wg_t 757 (by decide +kernel) (by decide +kernel)
theorem wd_758 : (Jvm.Cond.fieldLink "FrameVerifierModel" (41 : Nat) "FrameVerifierModel" "routineOf" "[I") ∈ wG := wg_t 758 (by decide +kernel) (by decide +kernel)
theorem wd_759 : (Jvm.Cond.fieldLink "FrameVerifierModel" (44 : Nat) "FrameVerifierModel" "at" "[I") ∈ wG := wg_t 759 (by decide +kernel) (by decide +kernel)
theorem wd_760 : (Jvm.Cond.fieldLink "FrameVerifierModel" (47 : Nat) "FrameVerifierModel" "heightOf" "[I") ∈ wG := wg_t 760 (by decide +kernel) (by decide +kernel)
theorem wd_761 : (Jvm.Cond.fieldLink "FrameVerifierModel" (50 : Nat) "FrameVerifierModel" "value" "[I") ∈ wG := wg_t 761 (by decide +kernel) (by decide +kernel)
theorem wd_762 : (Jvm.Cond.fieldLink "FrameVerifierModel" (53 : Nat) "FrameVerifierModel" "kind" "[I") ∈ wG := wg_t 762 (by decide +kernel) (by decide +kernel)
theorem wd_763 : (Jvm.Cond.fieldLink "FrameVerifierModel" (133 : Nat) "FrameVerifierModel" "elements" "I") ∈ wG := wg_t 763 (by decide +kernel) (by decide +kernel)
theorem wd_764 : (Jvm.Cond.fieldLink "FrameVerifierModel" (56 : Nat) "FrameVerifierModel" "heap" "[I") ∈ wG := wg_t 764 (by decide +kernel) (by decide +kernel)
theorem wd_765 : (Jvm.Cond.fieldLink "FrameVerifierModel" (157 : Nat) "FrameVerifierModel" "result" "I") ∈ wG := wg_t 765 (by decide +kernel) (by decide +kernel)
theorem wd_766 : (Jvm.Cond.fieldLink "FrameVerifierModel" (175 : Nat) "FrameVerifierModel" "trap" "I") ∈ wG := wg_t 766 (by decide +kernel) (by decide +kernel)
theorem wd_767 : (Jvm.Cond.fieldLink "FrameVerifierModel" (59 : Nat) "FrameVerifierModel" "thrown" "I") ∈ wG := wg_t 767 (by decide +kernel) (by decide +kernel)
theorem k_Mo_76 {R : Room} {s : State} {args : Array Value} {Ts : List Cond} (hts : ∀ w ∈ Ts, w.before args s = true) (hsub : ∀ w ∈ wG, w ∈ Ts) (hR : rm_Mo_isAddress.frames + 1 ≤ R.frames ∧ 8 + (2 + 11) + rm_Mo_isAddress.locals ≤ R.locals) : CallW R s args "FrameVerifierModel" "FrameVerifierModel" 76 y_Mo_isAddress b_Mo_isAddress 2 (some .boolean) w_Mo_isAddress rm_Mo_isAddress 0 0 1 := ⟨cb_G hts hsub m_Mo_isAddress g_Mo_isAddress (wg_t 843 (by decide +kernel) (by decide +kernel) : Cond.methodLink "FrameVerifierModel" 76 y_Mo_isAddress ∈ wG) q_Mo_isAddress rfl rfl hR, hts _ (hsub _ s_Mo_isAddress), hts _ (hsub _ e_Mo_isAddress)⟩
theorem k_Mo_86 {R : Room} {s : State} {args : Array Value} {Ts : List Cond} (hts : ∀ w ∈ Ts, w.before args s = true) (hsub : ∀ w ∈ wG, w ∈ Ts) (hR : rm_Mo_take.frames + 1 ≤ R.frames ∧ 8 + (2 + 11) + rm_Mo_take.locals ≤ R.locals) : CallW R s args "FrameVerifierModel" "FrameVerifierModel" 86 y_Mo_take b_Mo_take 2 (some .int) w_Mo_take rm_Mo_take 0 0 1 := ⟨cb_G hts hsub m_Mo_take g_Mo_take (wg_t 863 (by decide +kernel) (by decide +kernel) : Cond.methodLink "FrameVerifierModel" 86 y_Mo_take ∈ wG) q_Mo_take rfl rfl hR, hts _ (hsub _ s_Mo_take), hts _ (hsub _ e_Mo_take)⟩
theorem k_Mo_90 {R : Room} {s : State} {args : Array Value} {Ts : List Cond} (hts : ∀ w ∈ Ts, w.before args s = true) (hsub : ∀ w ∈ wG, w ∈ Ts) (hR : rm_Mo_give.frames + 1 ≤ R.frames ∧ 8 + (2 + 11) + rm_Mo_give.locals ≤ R.locals) : CallW R s args "FrameVerifierModel" "FrameVerifierModel" 90 y_Mo_give b_Mo_give 2 none w_Mo_give rm_Mo_give 0 0 1 := ⟨cb_G hts hsub m_Mo_give g_Mo_give (wg_t 867 (by decide +kernel) (by decide +kernel) : Cond.methodLink "FrameVerifierModel" 90 y_Mo_give ∈ wG) q_Mo_give rfl rfl hR, hts _ (hsub _ s_Mo_give), hts _ (hsub _ e_Mo_give)⟩
theorem k_Mo_94 {R : Room} {s : State} {args : Array Value} {Ts : List Cond} (hts : ∀ w ∈ Ts, w.before args s = true) (hsub : ∀ w ∈ wG, w ∈ Ts) (hR : rm_Mo_tryLocal.frames + 1 ≤ R.frames ∧ 8 + (3 + 11) + rm_Mo_tryLocal.locals ≤ R.locals) : CallW R s args "FrameVerifierModel" "FrameVerifierModel" 94 y_Mo_tryLocal b_Mo_tryLocal 3 none w_Mo_tryLocal rm_Mo_tryLocal 0 0 2 := ⟨cb_G hts hsub m_Mo_tryLocal g_Mo_tryLocal (wg_t 871 (by decide +kernel) (by decide +kernel) : Cond.methodLink "FrameVerifierModel" 94 y_Mo_tryLocal ∈ wG) q_Mo_tryLocal rfl rfl hR, hts _ (hsub _ s_Mo_tryLocal), hts _ (hsub _ e_Mo_tryLocal)⟩
theorem k_Mo_98 {R : Room} {s : State} {args : Array Value} {Ts : List Cond} (hts : ∀ w ∈ Ts, w.before args s = true) (hsub : ∀ w ∈ wG, w ∈ Ts) (hR : rm_Mo_tryGo.frames + 1 ≤ R.frames ∧ 8 + (4 + 11) + rm_Mo_tryGo.locals ≤ R.locals) : CallW R s args "FrameVerifierModel" "FrameVerifierModel" 98 y_Mo_tryGo b_Mo_tryGo 4 none w_Mo_tryGo rm_Mo_tryGo 0 0 2 := ⟨cb_G hts hsub m_Mo_tryGo g_Mo_tryGo (wg_t 875 (by decide +kernel) (by decide +kernel) : Cond.methodLink "FrameVerifierModel" 98 y_Mo_tryGo ∈ wG) q_Mo_tryGo rfl rfl hR, hts _ (hsub _ s_Mo_tryGo), hts _ (hsub _ e_Mo_tryGo)⟩
theorem k_Mo_101 {R : Room} {s : State} {args : Array Value} {Ts : List Cond} (hts : ∀ w ∈ Ts, w.before args s = true) (hsub : ∀ w ∈ wG, w ∈ Ts) (hR : rm_Mo_tryArray.frames + 1 ≤ R.frames ∧ 8 + (5 + 11) + rm_Mo_tryArray.locals ≤ R.locals) : CallW R s args "FrameVerifierModel" "FrameVerifierModel" 101 y_Mo_tryArray b_Mo_tryArray 5 none w_Mo_tryArray rm_Mo_tryArray 0 0 1 := ⟨cb_G hts hsub m_Mo_tryArray g_Mo_tryArray (wg_t 883 (by decide +kernel) (by decide +kernel) : Cond.methodLink "FrameVerifierModel" 101 y_Mo_tryArray ∈ wG) q_Mo_tryArray rfl rfl hR, hts _ (hsub _ s_Mo_tryArray), hts _ (hsub _ e_Mo_tryArray)⟩
theorem k_Mo_104 {R : Room} {s : State} {args : Array Value} {Ts : List Cond} (hts : ∀ w ∈ Ts, w.before args s = true) (hsub : ∀ w ∈ wG, w ∈ Ts) (hR : rm_Mo_tryPlaces.frames + 1 ≤ R.frames ∧ 8 + (4 + 11) + rm_Mo_tryPlaces.locals ≤ R.locals) : CallW R s args "FrameVerifierModel" "FrameVerifierModel" 104 y_Mo_tryPlaces b_Mo_tryPlaces 4 none w_Mo_tryPlaces rm_Mo_tryPlaces 0 0 1 := ⟨cb_G hts hsub m_Mo_tryPlaces g_Mo_tryPlaces (wg_t 887 (by decide +kernel) (by decide +kernel) : Cond.methodLink "FrameVerifierModel" 104 y_Mo_tryPlaces ∈ wG) q_Mo_tryPlaces rfl rfl hR, hts _ (hsub _ s_Mo_tryPlaces), hts _ (hsub _ e_Mo_tryPlaces)⟩
theorem k_Mo_107 {R : Room} {s : State} {args : Array Value} {Ts : List Cond} (hts : ∀ w ∈ Ts, w.before args s = true) (hsub : ∀ w ∈ wG, w ∈ Ts) (hR : rm_Mo_tryCall.frames + 1 ≤ R.frames ∧ 8 + (4 + 11) + rm_Mo_tryCall.locals ≤ R.locals) : CallW R s args "FrameVerifierModel" "FrameVerifierModel" 107 y_Mo_tryCall b_Mo_tryCall 4 none w_Mo_tryCall rm_Mo_tryCall 0 0 1 := ⟨cb_G hts hsub m_Mo_tryCall g_Mo_tryCall (wg_t 891 (by decide +kernel) (by decide +kernel) : Cond.methodLink "FrameVerifierModel" 107 y_Mo_tryCall ∈ wG) q_Mo_tryCall rfl rfl hR, hts _ (hsub _ s_Mo_tryCall), hts _ (hsub _ e_Mo_tryCall)⟩
theorem k_Mo_110 {R : Room} {s : State} {args : Array Value} {Ts : List Cond} (hts : ∀ w ∈ Ts, w.before args s = true) (hsub : ∀ w ∈ wG, w ∈ Ts) (hR : rm_Mo_kindOf.frames + 1 ≤ R.frames ∧ 8 + (3 + 11) + rm_Mo_kindOf.locals ≤ R.locals) : CallW R s args "FrameVerifierModel" "FrameVerifierModel" 110 y_Mo_kindOf b_Mo_kindOf 3 (some .int) w_Mo_kindOf rm_Mo_kindOf 0 0 2 := ⟨cb_G hts hsub m_Mo_kindOf g_Mo_kindOf (wg_t 847 (by decide +kernel) (by decide +kernel) : Cond.methodLink "FrameVerifierModel" 110 y_Mo_kindOf ∈ wG) q_Mo_kindOf rfl rfl hR, hts _ (hsub _ s_Mo_kindOf), hts _ (hsub _ e_Mo_kindOf)⟩
theorem k_Mo_114 {R : Room} {s : State} {args : Array Value} {Ts : List Cond} (hts : ∀ w ∈ Ts, w.before args s = true) (hsub : ∀ w ∈ wG, w ∈ Ts) (hR : rm_Mo_goTo.frames + 1 ≤ R.frames ∧ 8 + (2 + 11) + rm_Mo_goTo.locals ≤ R.locals) : CallW R s args "FrameVerifierModel" "FrameVerifierModel" 114 y_Mo_goTo b_Mo_goTo 2 none w_Mo_goTo rm_Mo_goTo 0 0 1 := ⟨cb_G hts hsub m_Mo_goTo g_Mo_goTo (wg_t 879 (by decide +kernel) (by decide +kernel) : Cond.methodLink "FrameVerifierModel" 114 y_Mo_goTo ∈ wG) q_Mo_goTo rfl rfl hR, hts _ (hsub _ s_Mo_goTo), hts _ (hsub _ e_Mo_goTo)⟩
theorem k_Mo_117 {R : Room} {s : State} {args : Array Value} {Ts : List Cond} (hts : ∀ w ∈ Ts, w.before args s = true) (hsub : ∀ w ∈ wG, w ∈ Ts) (hR : rm_Mo_tryOut.frames + 1 ≤ R.frames ∧ 8 + (7 + 11) + rm_Mo_tryOut.locals ≤ R.locals) : CallW R s args "FrameVerifierModel" "FrameVerifierModel" 117 y_Mo_tryOut b_Mo_tryOut 7 none w_Mo_tryOut rm_Mo_tryOut 0 0 2 := ⟨cb_G hts hsub m_Mo_tryOut g_Mo_tryOut (wg_t 859 (by decide +kernel) (by decide +kernel) : Cond.methodLink "FrameVerifierModel" 117 y_Mo_tryOut ∈ wG) q_Mo_tryOut rfl rfl hR, hts _ (hsub _ s_Mo_tryOut), hts _ (hsub _ e_Mo_tryOut)⟩
theorem k_Mo_120 {R : Room} {s : State} {args : Array Value} {Ts : List Cond} (hts : ∀ w ∈ Ts, w.before args s = true) (hsub : ∀ w ∈ wG, w ∈ Ts) (hR : rm_Mo_meet.frames + 1 ≤ R.frames ∧ 8 + (9 + 11) + rm_Mo_meet.locals ≤ R.locals) : CallW R s args "FrameVerifierModel" "FrameVerifierModel" 120 y_Mo_meet b_Mo_meet 9 none w_Mo_meet rm_Mo_meet 0 0 2 := ⟨cb_G hts hsub m_Mo_meet g_Mo_meet (wg_t 851 (by decide +kernel) (by decide +kernel) : Cond.methodLink "FrameVerifierModel" 120 y_Mo_meet ∈ wG) q_Mo_meet rfl rfl hR, hts _ (hsub _ s_Mo_meet), hts _ (hsub _ e_Mo_meet)⟩
theorem k_Mo_123 {R : Room} {s : State} {args : Array Value} {Ts : List Cond} (hts : ∀ w ∈ Ts, w.before args s = true) (hsub : ∀ w ∈ wG, w ∈ Ts) (hR : rm_Mo_fits.frames + 1 ≤ R.frames ∧ 8 + (5 + 11) + rm_Mo_fits.locals ≤ R.locals) : CallW R s args "FrameVerifierModel" "FrameVerifierModel" 123 y_Mo_fits b_Mo_fits 5 (some .boolean) w_Mo_fits rm_Mo_fits 0 0 2 := ⟨cb_G hts hsub m_Mo_fits g_Mo_fits (wg_t 855 (by decide +kernel) (by decide +kernel) : Cond.methodLink "FrameVerifierModel" 123 y_Mo_fits ∈ wG) q_Mo_fits rfl rfl hR, hts _ (hsub _ s_Mo_fits), hts _ (hsub _ e_Mo_fits)⟩
theorem k_Mo_127 {R : Room} {s : State} {args : Array Value} {Ts : List Cond} (hts : ∀ w ∈ Ts, w.before args s = true) (hsub : ∀ w ∈ wG, w ∈ Ts) (hR : rm_Mo_work.frames + 1 ≤ R.frames ∧ 8 + (4 + 11) + rm_Mo_work.locals ≤ R.locals) : CallW R s args "FrameVerifierModel" "FrameVerifierModel" 127 y_Mo_work b_Mo_work 4 (some .int) w_Mo_work rm_Mo_work 0 0 1 := ⟨cb_G hts hsub m_Mo_work g_Mo_work (wg_t 839 (by decide +kernel) (by decide +kernel) : Cond.methodLink "FrameVerifierModel" 127 y_Mo_work ∈ wG) q_Mo_work rfl rfl hR, hts _ (hsub _ s_Mo_work), hts _ (hsub _ e_Mo_work)⟩
theorem k_Mo_136 {R : Room} {s : State} {args : Array Value} {Ts : List Cond} (hts : ∀ w ∈ Ts, w.before args s = true) (hsub : ∀ w ∈ wG, w ∈ Ts) (hR : rm_Mo_enter.frames + 1 ≤ R.frames ∧ 8 + (3 + 11) + rm_Mo_enter.locals ≤ R.locals) : CallW R s args "FrameVerifierModel" "FrameVerifierModel" 136 y_Mo_enter b_Mo_enter 3 none w_Mo_enter rm_Mo_enter 0 0 1 := ⟨cb_G hts hsub m_Mo_enter g_Mo_enter (wg_t 907 (by decide +kernel) (by decide +kernel) : Cond.methodLink "FrameVerifierModel" 136 y_Mo_enter ∈ wG) q_Mo_enter rfl rfl hR, hts _ (hsub _ s_Mo_enter), hts _ (hsub _ e_Mo_enter)⟩
theorem k_Mo_139 {R : Room} {s : State} {args : Array Value} {Ts : List Cond} (hts : ∀ w ∈ Ts, w.before args s = true) (hsub : ∀ w ∈ wG, w ∈ Ts) (hR : rm_Mo_below.frames + 1 ≤ R.frames ∧ 8 + (2 + 11) + rm_Mo_below.locals ≤ R.locals) : CallW R s args "FrameVerifierModel" "FrameVerifierModel" 139 y_Mo_below b_Mo_below 2 (some .int) w_Mo_below rm_Mo_below 0 0 1 := ⟨cb_G hts hsub m_Mo_below g_Mo_below (wg_t 927 (by decide +kernel) (by decide +kernel) : Cond.methodLink "FrameVerifierModel" 139 y_Mo_below ∈ wG) q_Mo_below rfl rfl hR, hts _ (hsub _ s_Mo_below), hts _ (hsub _ e_Mo_below)⟩
theorem k_Mo_142 {R : Room} {s : State} {args : Array Value} {Ts : List Cond} (hts : ∀ w ∈ Ts, w.before args s = true) (hsub : ∀ w ∈ wG, w ∈ Ts) (hR : rm_Mo_trapAt.frames + 1 ≤ R.frames ∧ 8 + (2 + 11) + rm_Mo_trapAt.locals ≤ R.locals) : CallB R s args "FrameVerifierModel" 142 y_Mo_trapAt b_Mo_trapAt 2 (some .int) w_Mo_trapAt rm_Mo_trapAt 0 0 2 ∧ (Cond.static y_Mo_trapAt).before args s = true := ⟨cb_G hts hsub m_Mo_trapAt g_Mo_trapAt (wg_t 931 (by decide +kernel) (by decide +kernel) : Cond.methodLink "FrameVerifierModel" 142 y_Mo_trapAt ∈ wG) q_Mo_trapAt rfl rfl hR, hts _ (hsub _ s_Mo_trapAt)⟩
theorem k_Mo_145 {R : Room} {s : State} {args : Array Value} {Ts : List Cond} (hts : ∀ w ∈ Ts, w.before args s = true) (hsub : ∀ w ∈ wG, w ∈ Ts) (hR : rm_Mo_lengthOf.frames + 1 ≤ R.frames ∧ 8 + (1 + 11) + rm_Mo_lengthOf.locals ≤ R.locals) : CallB R s args "FrameVerifierModel" 145 y_Mo_lengthOf b_Mo_lengthOf 1 (some .int) w_Mo_lengthOf rm_Mo_lengthOf 0 0 1 ∧ (Cond.static y_Mo_lengthOf).before args s = true := ⟨cb_G hts hsub m_Mo_lengthOf g_Mo_lengthOf (wg_t 934 (by decide +kernel) (by decide +kernel) : Cond.methodLink "FrameVerifierModel" 145 y_Mo_lengthOf ∈ wG) q_Mo_lengthOf rfl rfl hR, hts _ (hsub _ s_Mo_lengthOf)⟩
theorem k_Mo_148 {R : Room} {s : State} {args : Array Value} {Ts : List Cond} (hts : ∀ w ∈ Ts, w.before args s = true) (hsub : ∀ w ∈ wG, w ∈ Ts) (hR : rm_Mo_drop.frames + 1 ≤ R.frames ∧ 8 + (2 + 11) + rm_Mo_drop.locals ≤ R.locals) : CallW R s args "FrameVerifierModel" "FrameVerifierModel" 148 y_Mo_drop b_Mo_drop 2 none w_Mo_drop rm_Mo_drop 0 0 1 := ⟨cb_G hts hsub m_Mo_drop g_Mo_drop (wg_t 949 (by decide +kernel) (by decide +kernel) : Cond.methodLink "FrameVerifierModel" 148 y_Mo_drop ∈ wG) q_Mo_drop rfl rfl hR, hts _ (hsub _ s_Mo_drop), hts _ (hsub _ e_Mo_drop)⟩
theorem k_Mo_151 {R : Room} {s : State} {args : Array Value} {Ts : List Cond} (hts : ∀ w ∈ Ts, w.before args s = true) (hsub : ∀ w ∈ wG, w ∈ Ts) (hR : rm_Mo_put.frames + 1 ≤ R.frames ∧ 8 + (4 + 11) + rm_Mo_put.locals ≤ R.locals) : CallW R s args "FrameVerifierModel" "FrameVerifierModel" 151 y_Mo_put b_Mo_put 4 none w_Mo_put rm_Mo_put 0 0 2 := ⟨cb_G hts hsub m_Mo_put g_Mo_put (wg_t 941 (by decide +kernel) (by decide +kernel) : Cond.methodLink "FrameVerifierModel" 151 y_Mo_put ∈ wG) q_Mo_put rfl rfl hR, hts _ (hsub _ s_Mo_put), hts _ (hsub _ e_Mo_put)⟩
theorem k_Mo_154 {R : Room} {s : State} {args : Array Value} {Ts : List Cond} (hts : ∀ w ∈ Ts, w.before args s = true) (hsub : ∀ w ∈ wG, w ∈ Ts) (hR : rm_Mo_seen.frames + 1 ≤ R.frames ∧ 8 + (2 + 11) + rm_Mo_seen.locals ≤ R.locals) : CallB R s args "FrameVerifierModel" 154 y_Mo_seen b_Mo_seen 2 (some .int) w_Mo_seen rm_Mo_seen 0 0 2 ∧ (Cond.static y_Mo_seen).before args s = true := ⟨cb_G hts hsub m_Mo_seen g_Mo_seen (wg_t 965 (by decide +kernel) (by decide +kernel) : Cond.methodLink "FrameVerifierModel" 154 y_Mo_seen ∈ wG) q_Mo_seen rfl rfl hR, hts _ (hsub _ s_Mo_seen)⟩
theorem k_Mo_160 {R : Room} {s : State} {args : Array Value} {Ts : List Cond} (hts : ∀ w ∈ Ts, w.before args s = true) (hsub : ∀ w ∈ wG, w ∈ Ts) (hR : rm_Mo_calculate.frames + 1 ≤ R.frames ∧ 8 + (4 + 11) + rm_Mo_calculate.locals ≤ R.locals) : CallW R s args "FrameVerifierModel" "FrameVerifierModel" 160 y_Mo_calculate b_Mo_calculate 4 none w_Mo_calculate rm_Mo_calculate 0 0 1 := ⟨cb_G hts hsub m_Mo_calculate g_Mo_calculate (wg_t 945 (by decide +kernel) (by decide +kernel) : Cond.methodLink "FrameVerifierModel" 160 y_Mo_calculate ∈ wG) q_Mo_calculate rfl rfl hR, hts _ (hsub _ s_Mo_calculate), hts _ (hsub _ e_Mo_calculate)⟩
theorem k_Mo_163 {R : Room} {s : State} {args : Array Value} {Ts : List Cond} (hts : ∀ w ∈ Ts, w.before args s = true) (hsub : ∀ w ∈ wG, w ∈ Ts) (hR : rm_Mo_onArrays.frames + 1 ≤ R.frames ∧ 8 + (4 + 11) + rm_Mo_onArrays.locals ≤ R.locals) : CallW R s args "FrameVerifierModel" "FrameVerifierModel" 163 y_Mo_onArrays b_Mo_onArrays 4 none w_Mo_onArrays rm_Mo_onArrays 0 0 1 := ⟨cb_G hts hsub m_Mo_onArrays g_Mo_onArrays (wg_t 953 (by decide +kernel) (by decide +kernel) : Cond.methodLink "FrameVerifierModel" 163 y_Mo_onArrays ∈ wG) q_Mo_onArrays rfl rfl hR, hts _ (hsub _ s_Mo_onArrays), hts _ (hsub _ e_Mo_onArrays)⟩
theorem k_Mo_166 {R : Room} {s : State} {args : Array Value} {Ts : List Cond} (hts : ∀ w ∈ Ts, w.before args s = true) (hsub : ∀ w ∈ wG, w ∈ Ts) (hR : rm_Mo_call.frames + 1 ≤ R.frames ∧ 8 + (5 + 11) + rm_Mo_call.locals ≤ R.locals) : CallW R s args "FrameVerifierModel" "FrameVerifierModel" 166 y_Mo_call b_Mo_call 5 none w_Mo_call rm_Mo_call 0 0 1 := ⟨cb_G hts hsub m_Mo_call g_Mo_call (wg_t 957 (by decide +kernel) (by decide +kernel) : Cond.methodLink "FrameVerifierModel" 166 y_Mo_call ∈ wG) q_Mo_call rfl rfl hR, hts _ (hsub _ s_Mo_call), hts _ (hsub _ e_Mo_call)⟩
theorem k_Mo_169 {R : Room} {s : State} {args : Array Value} {Ts : List Cond} (hts : ∀ w ∈ Ts, w.before args s = true) (hsub : ∀ w ∈ wG, w ∈ Ts) (hR : rm_Mo_giveBack.frames + 1 ≤ R.frames ∧ 8 + (4 + 11) + rm_Mo_giveBack.locals ≤ R.locals) : CallW R s args "FrameVerifierModel" "FrameVerifierModel" 169 y_Mo_giveBack b_Mo_giveBack 4 none w_Mo_giveBack rm_Mo_giveBack 0 0 0 := ⟨cb_G hts hsub m_Mo_giveBack g_Mo_giveBack (wg_t 961 (by decide +kernel) (by decide +kernel) : Cond.methodLink "FrameVerifierModel" 169 y_Mo_giveBack ∈ wG) q_Mo_giveBack rfl rfl hR, hts _ (hsub _ s_Mo_giveBack), hts _ (hsub _ e_Mo_giveBack)⟩
theorem k_Mo_172 {R : Room} {s : State} {args : Array Value} {Ts : List Cond} (hts : ∀ w ∈ Ts, w.before args s = true) (hsub : ∀ w ∈ wG, w ∈ Ts) (hR : rm_Mo_onPlaces.frames + 1 ≤ R.frames ∧ 8 + (7 + 11) + rm_Mo_onPlaces.locals ≤ R.locals) : CallW R s args "FrameVerifierModel" "FrameVerifierModel" 172 y_Mo_onPlaces b_Mo_onPlaces 7 none w_Mo_onPlaces rm_Mo_onPlaces 0 0 2 := ⟨cb_G hts hsub m_Mo_onPlaces g_Mo_onPlaces (wg_t 968 (by decide +kernel) (by decide +kernel) : Cond.methodLink "FrameVerifierModel" 172 y_Mo_onPlaces ∈ wG) q_Mo_onPlaces rfl rfl hR, hts _ (hsub _ s_Mo_onPlaces), hts _ (hsub _ e_Mo_onPlaces)⟩
theorem k_Mo_178 {R : Room} {s : State} {args : Array Value} {Ts : List Cond} (hts : ∀ w ∈ Ts, w.before args s = true) (hsub : ∀ w ∈ wG, w ∈ Ts) (hR : rm_Mo_fitsValues.frames + 1 ≤ R.frames ∧ 8 + (4 + 11) + rm_Mo_fitsValues.locals ≤ R.locals) : CallW R s args "FrameVerifierModel" "FrameVerifierModel" 178 y_Mo_fitsValues b_Mo_fitsValues 4 (some .boolean) w_Mo_fitsValues rm_Mo_fitsValues 0 0 1 := ⟨cb_G hts hsub m_Mo_fitsValues g_Mo_fitsValues (wg_t 919 (by decide +kernel) (by decide +kernel) : Cond.methodLink "FrameVerifierModel" 178 y_Mo_fitsValues ∈ wG) q_Mo_fitsValues rfl rfl hR, hts _ (hsub _ s_Mo_fitsValues), hts _ (hsub _ e_Mo_fitsValues)⟩
theorem k_Mo_181 {R : Room} {s : State} {args : Array Value} {Ts : List Cond} (hts : ∀ w ∈ Ts, w.before args s = true) (hsub : ∀ w ∈ wG, w ∈ Ts) (hR : rm_Mo_trapOf.frames + 1 ≤ R.frames ∧ 8 + (3 + 11) + rm_Mo_trapOf.locals ≤ R.locals) : CallW R s args "FrameVerifierModel" "FrameVerifierModel" 181 y_Mo_trapOf b_Mo_trapOf 3 (some .int) w_Mo_trapOf rm_Mo_trapOf 0 0 2 := ⟨cb_G hts hsub m_Mo_trapOf g_Mo_trapOf (wg_t 923 (by decide +kernel) (by decide +kernel) : Cond.methodLink "FrameVerifierModel" 181 y_Mo_trapOf ∈ wG) q_Mo_trapOf rfl rfl hR, hts _ (hsub _ s_Mo_trapOf), hts _ (hsub _ e_Mo_trapOf)⟩
theorem k_Mo_184 {R : Room} {s : State} {args : Array Value} {Ts : List Cond} (hts : ∀ w ∈ Ts, w.before args s = true) (hsub : ∀ w ∈ wG, w ∈ Ts) (hR : rm_Mo_perform.frames + 1 ≤ R.frames ∧ 8 + (5 + 11) + rm_Mo_perform.locals ≤ R.locals) : CallW R s args "FrameVerifierModel" "FrameVerifierModel" 184 y_Mo_perform b_Mo_perform 5 none w_Mo_perform rm_Mo_perform 0 0 1 := ⟨cb_G hts hsub m_Mo_perform g_Mo_perform (wg_t 937 (by decide +kernel) (by decide +kernel) : Cond.methodLink "FrameVerifierModel" 184 y_Mo_perform ∈ wG) q_Mo_perform rfl rfl hR, hts _ (hsub _ s_Mo_perform), hts _ (hsub _ e_Mo_perform)⟩
theorem k_Mo_187 {R : Room} {s : State} {args : Array Value} {Ts : List Cond} (hts : ∀ w ∈ Ts, w.before args s = true) (hsub : ∀ w ∈ wG, w ∈ Ts) (hR : rm_Mo_stepOnce.frames + 1 ≤ R.frames ∧ 8 + (2 + 11) + rm_Mo_stepOnce.locals ≤ R.locals) : CallW R s args "FrameVerifierModel" "FrameVerifierModel" 187 y_Mo_stepOnce b_Mo_stepOnce 2 (some .boolean) w_Mo_stepOnce rm_Mo_stepOnce 0 0 0 := ⟨cb_G hts hsub m_Mo_stepOnce g_Mo_stepOnce (wg_t 915 (by decide +kernel) (by decide +kernel) : Cond.methodLink "FrameVerifierModel" 187 y_Mo_stepOnce ∈ wG) q_Mo_stepOnce rfl rfl hR, hts _ (hsub _ s_Mo_stepOnce), hts _ (hsub _ e_Mo_stepOnce)⟩
end
section
/-! contracts of 20.model; written by wip/whole/make.py -/
def fn_Mo_thrown (σ : mm_M)  : Option (Int32 × mm_M) :=
    (some ((σ 0 26), σ))
set_option maxRecDepth 100000 in
set_option maxHeartbeats 40000000 in
theorem c_Mo_thrown (l : Launch) (D : va_G) (ca : Nat → ClassId) (ax : Nat → Nat → Nat) (b : Nat) (σ : mm_M)   {r : Int32} {σ' : mm_M} (hf : fn_Mo_thrown σ  = some (r, σ')) : Met l y_Mo_thrown w_Mo_thrown rm_Mo_thrown (pc_w D cls b N_M (ce_M ca b) (kM D ca ax b) [.ref (b + 0)] σ) (qc_i D cls b N_M (ce_M ca b) r σ') 0 0 (mm_A b N_M) := by
  refine vv_go (cc := b_Mo_thrown) (maxL := 1) (ret := (some .int)) (fin := (r, σ')) (k := fn_Mo_thrown σ ) (by decide) rfl (by simp [Value.category]) (Nat.le_of_ble_eq_true rfl) hf ?_
  intro p e s m below meth c hlocks hret S hKK
  unfold fn_Mo_thrown
  refine v_aload_n S d_Mo_thrown_0 rfl rfl ?_
  refine v_get S (fun w h => List.mem_cons_of_mem _ (i_Mo w h)) hKK.1 0 (by decide) rfl rfl 26 (by decide) (S.2.2.2.2 _ (List.mem_cons_of_mem _ (wd_767))) (fun _ h => h) rfl d_Mo_thrown_1 ?_
  exact v_iret S hret hlocks d_Mo_thrown_4
def fn_Mo_add_15 (a0 : Int32) (a1 : Int32) (σ : mm_M) (s0 : Int32) : Option (Int32 × mm_M) :=
    (nm (mw σ 0 26 s0) (fun σ2 =>
    (if (σ2 0 26) = 0 then
    (if ((σ2 0 0) < 0 ∨ 100 ≤ (σ2 0 0).toNatClampNeg) then none else (nm (mw σ2 1 (σ2 0 0).toNatClampNeg a0) (fun σ5 =>
    (if ((σ5 0 0) < 0 ∨ 100 ≤ (σ5 0 0).toNatClampNeg) then none else (nm (mw σ5 2 (σ5 0 0).toNatClampNeg a1) (fun σ7 =>
    (nm (mw σ7 0 0 ((σ7 0 0) + (1 : Int32))) (fun σ8 =>
    (nm (mw σ8 0 7 (0 : Int32)) (fun σ9 =>
    (some (((σ9 0 0) - (1 : Int32)), σ9))))))))))))
    else
    (some ((0 : Int32), σ2)))))
def fn_Mo_add (σ : mm_M) (a0 : Int32) (a1 : Int32) : Option (Int32 × mm_M) :=
    (if (σ 0 0) = (100 : Int32) then
    (fn_Mo_add_15 a0 a1 σ (1 : Int32))
    else
    (fn_Mo_add_15 a0 a1 σ (0 : Int32)))
set_option maxRecDepth 100000 in
set_option maxHeartbeats 40000000 in
theorem c_Mo_add (l : Launch) (D : va_G) (ca : Nat → ClassId) (ax : Nat → Nat → Nat) (b : Nat) (σ : mm_M) (a0 : Int32) (a1 : Int32)  {r : Int32} {σ' : mm_M} (hf : fn_Mo_add σ a0 a1 = some (r, σ')) : Met l y_Mo_add w_Mo_add rm_Mo_add (pc_w D cls b N_M (ce_M ca b) (kM D ca ax b) [.ref (b + 0), .int a0, .int a1] σ) (qc_i D cls b N_M (ce_M ca b) r σ') 0 0 (mm_A b N_M) := by
  refine vv_go (cc := b_Mo_add) (maxL := 3) (ret := (some .int)) (fin := (r, σ')) (k := fn_Mo_add σ a0 a1) (by decide) rfl (by simp [Value.category]) (Nat.le_of_ble_eq_true rfl) hf ?_
  intro p e s m below meth c hlocks hret S hKK
  have C15 : ∀ (σ : mm_M) (s0 : Int32), vv p l e (headSpec w_Mo_add rm_Mo_add).room s m [.ref (b + 0), .int a0, .int a1].toArray below meth c D cls b N_M (ce_M ca b) 3 (MQ below (qc_i D cls b N_M (ce_M ca b) r σ') [.ref (b + 0), .int a0, .int a1].toArray s 0 0 (mm_A b N_M)) (r, σ') (fn_Mo_add_15 a0 a1 σ s0) σ 15 [some (.ref (b + 0)), some (.int a0), some (.int a1)] [.int s0, .ref (b + 0)] := by
    intro σ s0
    unfold fn_Mo_add_15
    refine v_puti S (fun w h => List.mem_cons_of_mem _ (i_Mo w h)) hKK.1 0 (by decide) rfl rfl 26 (by decide) (S.2.2.2.2 _ (List.mem_cons_of_mem _ (wd_767))) (fun _ h => h) t_Mo t_Mo_ok n_Mo rfl (ty := .int) rfl rfl rfl (Nat.le_of_ble_eq_true rfl) rfl d_Mo_add_15 ?_
    refine v_sg (fun σ2 eσ2 => ?_)
    refine v_aload_n S d_Mo_add_18 rfl rfl ?_
    refine v_get S (fun w h => List.mem_cons_of_mem _ (i_Mo w h)) hKK.1 0 (by decide) rfl rfl 26 (by decide) (S.2.2.2.2 _ (List.mem_cons_of_mem _ (wd_767))) (fun _ h => h) rfl d_Mo_add_19 ?_
    refine v_if_eq S d_Mo_add_22 (tgt := 27) (by decide) (fun h3 => ?_) (fun h3 => ?_)
    · refine v_aload_n S d_Mo_add_27 rfl rfl ?_
      refine v_get S (fun w h => List.mem_cons_of_mem _ (i_Mo w h)) hKK.1 0 (by decide) rfl rfl 1 (by decide) (S.2.2.2.2 _ (List.mem_cons_of_mem _ (wd_742))) (fun _ h => h) rfl d_Mo_add_28 ?_
      refine v_aload_n S d_Mo_add_31 rfl rfl ?_
      refine v_get S (fun w h => List.mem_cons_of_mem _ (i_Mo w h)) hKK.1 0 (by decide) rfl rfl 0 (by decide) (S.2.2.2.2 _ (List.mem_cons_of_mem _ (wd_741))) (fun _ h => h) rfl d_Mo_add_32 ?_
      refine v_iload_n S d_Mo_add_35 rfl rfl ?_
      refine v_iast1 S hKK.1 1 0 (by decide) (fun _ => rfl) rfl d_Mo_add_36 (fun h4 => ?_)
      refine v_sg (fun σ5 eσ5 => ?_)
      refine v_aload_n S d_Mo_add_37 rfl rfl ?_
      refine v_get S (fun w h => List.mem_cons_of_mem _ (i_Mo w h)) hKK.1 0 (by decide) rfl rfl 2 (by decide) (S.2.2.2.2 _ (List.mem_cons_of_mem _ (wd_743))) (fun _ h => h) rfl d_Mo_add_38 ?_
      refine v_aload_n S d_Mo_add_41 rfl rfl ?_
      refine v_get S (fun w h => List.mem_cons_of_mem _ (i_Mo w h)) hKK.1 0 (by decide) rfl rfl 0 (by decide) (S.2.2.2.2 _ (List.mem_cons_of_mem _ (wd_741))) (fun _ h => h) rfl d_Mo_add_42 ?_
      refine v_iload_n S d_Mo_add_45 rfl rfl ?_
      refine v_iast1 S hKK.1 2 0 (by decide) (fun _ => rfl) rfl d_Mo_add_46 (fun h6 => ?_)
      refine v_sg (fun σ7 eσ7 => ?_)
      refine v_aload_n S d_Mo_add_47 rfl rfl ?_
      refine v_dup S d_Mo_add_48 rfl ?_
      refine v_get S (fun w h => List.mem_cons_of_mem _ (i_Mo w h)) hKK.1 0 (by decide) rfl rfl 0 (by decide) (S.2.2.2.2 _ (List.mem_cons_of_mem _ (wd_741))) (fun _ h => h) rfl d_Mo_add_49 ?_
      refine v_iconst S d_Mo_add_52 (v := (1 : Int32)) (by decide) ?_
      refine v_iadd S d_Mo_add_53 ?_
      refine v_puti S (fun w h => List.mem_cons_of_mem _ (i_Mo w h)) hKK.1 0 (by decide) rfl rfl 0 (by decide) (S.2.2.2.2 _ (List.mem_cons_of_mem _ (wd_741))) (fun _ h => h) t_Mo t_Mo_ok n_Mo rfl (ty := .int) rfl rfl rfl (Nat.le_of_ble_eq_true rfl) rfl d_Mo_add_54 ?_
      refine v_sg (fun σ8 eσ8 => ?_)
      refine v_aload_n S d_Mo_add_57 rfl rfl ?_
      refine v_iconst S d_Mo_add_58 (v := (0 : Int32)) (by decide) ?_
      refine v_puti S (fun w h => List.mem_cons_of_mem _ (i_Mo w h)) hKK.1 0 (by decide) rfl rfl 7 (by decide) (S.2.2.2.2 _ (List.mem_cons_of_mem _ (wd_748))) (fun _ h => h) t_Mo t_Mo_ok n_Mo rfl (ty := .boolean) rfl rfl rfl (Nat.le_of_ble_eq_true rfl) rfl d_Mo_add_59 ?_
      refine v_sg (fun σ9 eσ9 => ?_)
      refine v_aload_n S d_Mo_add_62 rfl rfl ?_
      refine v_get S (fun w h => List.mem_cons_of_mem _ (i_Mo w h)) hKK.1 0 (by decide) rfl rfl 0 (by decide) (S.2.2.2.2 _ (List.mem_cons_of_mem _ (wd_741))) (fun _ h => h) rfl d_Mo_add_63 ?_
      refine v_iconst S d_Mo_add_66 (v := (1 : Int32)) (by decide) ?_
      refine v_isub S d_Mo_add_67 ?_
      exact v_iret S hret hlocks d_Mo_add_68
    · refine v_iconst S d_Mo_add_25 (v := (0 : Int32)) (by decide) ?_
      exact v_iret S hret hlocks d_Mo_add_26
  unfold fn_Mo_add
  refine v_aload_n S d_Mo_add_0 rfl rfl ?_
  refine v_aload_n S d_Mo_add_1 rfl rfl ?_
  refine v_get S (fun w h => List.mem_cons_of_mem _ (i_Mo w h)) hKK.1 0 (by decide) rfl rfl 0 (by decide) (S.2.2.2.2 _ (List.mem_cons_of_mem _ (wd_741))) (fun _ h => h) rfl d_Mo_add_2 ?_
  refine v_bipush S d_Mo_add_5 (v := (100 : Int32)) (by decide) ?_
  refine v_icmp_ne S d_Mo_add_7 (tgt := 14) (by decide) (fun h1 => ?_) (fun h1 => ?_)
  · refine v_iconst S d_Mo_add_14 (v := (0 : Int32)) (by decide) ?_
    refine v_sub (L2 := [some (.ref (b + 0)), some (.int a0), some (.int a1)]) (And.intro rfl (And.intro rfl (And.intro rfl True.intro))) ?_
    exact C15 σ (0 : Int32)
  · refine v_iconst S d_Mo_add_10 (v := (1 : Int32)) (by decide) ?_
    refine v_goto S d_Mo_add_11 (tgt := 15) (by decide) ?_
    refine v_sub (L2 := [some (.ref (b + 0)), some (.int a0), some (.int a1)]) (And.intro rfl (And.intro rfl (And.intro rfl True.intro))) ?_
    exact C15 σ (1 : Int32)
def fn_Mo_routine (σ : mm_M) (a0 : Int32) (a1 : Int32) (a2 : Int32) (a3 : Int32) : Option (Int32 × mm_M) :=
    (nm (mw σ 0 26 (0 : Int32)) (fun σ1 =>
    (if a0 < 0 then
    (if (0 : Int32) = 0 ∨ (0 : Int32) = 1 then some ((0 : Int32), σ1) else none)
    else
    (if (3 : Int32) < a0 then
    (if (0 : Int32) = 0 ∨ (0 : Int32) = 1 then some ((0 : Int32), σ1) else none)
    else
    (if a2 < 0 then
    (if (0 : Int32) = 0 ∨ (0 : Int32) = 1 then some ((0 : Int32), σ1) else none)
    else
    (if (3 : Int32) < a2 then
    (if (0 : Int32) = 0 ∨ (0 : Int32) = 1 then some ((0 : Int32), σ1) else none)
    else
    (if a3 < 0 then
    (if (0 : Int32) = 0 ∨ (0 : Int32) = 1 then some ((0 : Int32), σ1) else none)
    else
    (if a3 ≤ (15 : Int32) then
    (if (a0 < 0 ∨ 4 ≤ a0.toNatClampNeg) then none else (nm (mw σ1 3 a0.toNatClampNeg (1 : Int32)) (fun σ9 =>
    (if (a0 < 0 ∨ 4 ≤ a0.toNatClampNeg) then none else (nm (mw σ9 4 a0.toNatClampNeg a1) (fun σ11 =>
    (if (a0 < 0 ∨ 4 ≤ a0.toNatClampNeg) then none else (nm (mw σ11 5 a0.toNatClampNeg a2) (fun σ13 =>
    (if (a0 < 0 ∨ 4 ≤ a0.toNatClampNeg) then none else (nm (mw σ13 6 a0.toNatClampNeg a3) (fun σ15 =>
    (nm (mw σ15 0 7 (0 : Int32)) (fun σ16 =>
    (if (1 : Int32) = 0 ∨ (1 : Int32) = 1 then some ((1 : Int32), σ16) else none)))))))))))))))
    else
    (if (0 : Int32) = 0 ∨ (0 : Int32) = 1 then some ((0 : Int32), σ1) else none)))))))))
set_option maxRecDepth 100000 in
set_option maxHeartbeats 40000000 in
theorem c_Mo_routine (l : Launch) (D : va_G) (ca : Nat → ClassId) (ax : Nat → Nat → Nat) (b : Nat) (σ : mm_M) (a0 : Int32) (a1 : Int32) (a2 : Int32) (a3 : Int32)  {r : Int32} {σ' : mm_M} (hf : fn_Mo_routine σ a0 a1 a2 a3 = some (r, σ')) : Met l y_Mo_routine w_Mo_routine rm_Mo_routine (pc_w D cls b N_M (ce_M ca b) (kM D ca ax b) [.ref (b + 0), .int a0, .int a1, .int a2, .int a3] σ) (qc_i D cls b N_M (ce_M ca b) r σ') 0 0 (mm_A b N_M) := by
  refine vv_go (cc := b_Mo_routine) (maxL := 5) (ret := (some .boolean)) (fin := (r, σ')) (k := fn_Mo_routine σ a0 a1 a2 a3) (by decide) rfl (by simp [Value.category]) (Nat.le_of_ble_eq_true rfl) hf ?_
  intro p e s m below meth c hlocks hret S hKK
  unfold fn_Mo_routine
  refine v_aload_n S d_Mo_routine_0 rfl rfl ?_
  refine v_iconst S d_Mo_routine_1 (v := (0 : Int32)) (by decide) ?_
  refine v_puti S (fun w h => List.mem_cons_of_mem _ (i_Mo w h)) hKK.1 0 (by decide) rfl rfl 26 (by decide) (S.2.2.2.2 _ (List.mem_cons_of_mem _ (wd_767))) (fun _ h => h) t_Mo t_Mo_ok n_Mo rfl (ty := .int) rfl rfl rfl (Nat.le_of_ble_eq_true rfl) rfl d_Mo_routine_2 ?_
  refine v_sg (fun σ1 eσ1 => ?_)
  refine v_iload_n S d_Mo_routine_5 rfl rfl ?_
  refine v_if_lt S d_Mo_routine_6 (tgt := 35) (by decide) (fun h2 => ?_) (fun h2 => ?_)
  · refine v_iconst S d_Mo_routine_35 (v := (0 : Int32)) (by decide) ?_
    exact v_zret S hret hlocks d_Mo_routine_36
  · refine v_iload_n S d_Mo_routine_9 rfl rfl ?_
    refine v_iconst S d_Mo_routine_10 (v := (3 : Int32)) (by decide) ?_
    refine v_icmp_gt S d_Mo_routine_11 (tgt := 35) (by decide) (fun h3 => ?_) (fun h3 => ?_)
    · refine v_iconst S d_Mo_routine_35 (v := (0 : Int32)) (by decide) ?_
      exact v_zret S hret hlocks d_Mo_routine_36
    · refine v_iload_n S d_Mo_routine_14 rfl rfl ?_
      refine v_if_lt S d_Mo_routine_15 (tgt := 35) (by decide) (fun h4 => ?_) (fun h4 => ?_)
      · refine v_iconst S d_Mo_routine_35 (v := (0 : Int32)) (by decide) ?_
        exact v_zret S hret hlocks d_Mo_routine_36
      · refine v_iload_n S d_Mo_routine_18 rfl rfl ?_
        refine v_iconst S d_Mo_routine_19 (v := (3 : Int32)) (by decide) ?_
        refine v_icmp_gt S d_Mo_routine_20 (tgt := 35) (by decide) (fun h5 => ?_) (fun h5 => ?_)
        · refine v_iconst S d_Mo_routine_35 (v := (0 : Int32)) (by decide) ?_
          exact v_zret S hret hlocks d_Mo_routine_36
        · refine v_iload S d_Mo_routine_23 rfl ?_
          refine v_if_lt S d_Mo_routine_25 (tgt := 35) (by decide) (fun h6 => ?_) (fun h6 => ?_)
          · refine v_iconst S d_Mo_routine_35 (v := (0 : Int32)) (by decide) ?_
            exact v_zret S hret hlocks d_Mo_routine_36
          · refine v_iload S d_Mo_routine_28 rfl ?_
            refine v_bipush S d_Mo_routine_30 (v := (15 : Int32)) (by decide) ?_
            refine v_icmp_le S d_Mo_routine_32 (tgt := 37) (by decide) (fun h7 => ?_) (fun h7 => ?_)
            · refine v_aload_n S d_Mo_routine_37 rfl rfl ?_
              refine v_get S (fun w h => List.mem_cons_of_mem _ (i_Mo w h)) hKK.1 0 (by decide) rfl rfl 3 (by decide) (S.2.2.2.2 _ (List.mem_cons_of_mem _ (wd_744))) (fun _ h => h) rfl d_Mo_routine_38 ?_
              refine v_iload_n S d_Mo_routine_41 rfl rfl ?_
              refine v_iconst S d_Mo_routine_42 (v := (1 : Int32)) (by decide) ?_
              refine v_zast1 S hKK.1 3 1 (by decide) (fun _ => rfl) rfl (Or.inr rfl) d_Mo_routine_43 (fun h8 => ?_)
              refine v_sg (fun σ9 eσ9 => ?_)
              refine v_aload_n S d_Mo_routine_44 rfl rfl ?_
              refine v_get S (fun w h => List.mem_cons_of_mem _ (i_Mo w h)) hKK.1 0 (by decide) rfl rfl 4 (by decide) (S.2.2.2.2 _ (List.mem_cons_of_mem _ (wd_745))) (fun _ h => h) rfl d_Mo_routine_45 ?_
              refine v_iload_n S d_Mo_routine_48 rfl rfl ?_
              refine v_iload_n S d_Mo_routine_49 rfl rfl ?_
              refine v_iast1 S hKK.1 4 0 (by decide) (fun _ => rfl) rfl d_Mo_routine_50 (fun h10 => ?_)
              refine v_sg (fun σ11 eσ11 => ?_)
              refine v_aload_n S d_Mo_routine_51 rfl rfl ?_
              refine v_get S (fun w h => List.mem_cons_of_mem _ (i_Mo w h)) hKK.1 0 (by decide) rfl rfl 5 (by decide) (S.2.2.2.2 _ (List.mem_cons_of_mem _ (wd_746))) (fun _ h => h) rfl d_Mo_routine_52 ?_
              refine v_iload_n S d_Mo_routine_55 rfl rfl ?_
              refine v_iload_n S d_Mo_routine_56 rfl rfl ?_
              refine v_iast1 S hKK.1 5 0 (by decide) (fun _ => rfl) rfl d_Mo_routine_57 (fun h12 => ?_)
              refine v_sg (fun σ13 eσ13 => ?_)
              refine v_aload_n S d_Mo_routine_58 rfl rfl ?_
              refine v_get S (fun w h => List.mem_cons_of_mem _ (i_Mo w h)) hKK.1 0 (by decide) rfl rfl 6 (by decide) (S.2.2.2.2 _ (List.mem_cons_of_mem _ (wd_747))) (fun _ h => h) rfl d_Mo_routine_59 ?_
              refine v_iload_n S d_Mo_routine_62 rfl rfl ?_
              refine v_iload S d_Mo_routine_63 rfl ?_
              refine v_iast1 S hKK.1 6 0 (by decide) (fun _ => rfl) rfl d_Mo_routine_65 (fun h14 => ?_)
              refine v_sg (fun σ15 eσ15 => ?_)
              refine v_aload_n S d_Mo_routine_66 rfl rfl ?_
              refine v_iconst S d_Mo_routine_67 (v := (0 : Int32)) (by decide) ?_
              refine v_puti S (fun w h => List.mem_cons_of_mem _ (i_Mo w h)) hKK.1 0 (by decide) rfl rfl 7 (by decide) (S.2.2.2.2 _ (List.mem_cons_of_mem _ (wd_748))) (fun _ h => h) t_Mo t_Mo_ok n_Mo rfl (ty := .boolean) rfl rfl rfl (Nat.le_of_ble_eq_true rfl) rfl d_Mo_routine_68 ?_
              refine v_sg (fun σ16 eσ16 => ?_)
              refine v_iconst S d_Mo_routine_71 (v := (1 : Int32)) (by decide) ?_
              exact v_zret S hret hlocks d_Mo_routine_72
            · refine v_iconst S d_Mo_routine_35 (v := (0 : Int32)) (by decide) ?_
              exact v_zret S hret hlocks d_Mo_routine_36
def fn_Mo_kindOf (σ : mm_M) (a0 : Int32) (a1 : Int32) : Option (Int32 × mm_M) :=
    (if (a0 < 0 ∨ 4 ≤ a0.toNatClampNeg) then none else
    (if (((σ 6 a0.toNatClampNeg) >>> (a1 &&& 31)) &&& (1 : Int32)) = (1 : Int32) then
    (some ((2 : Int32), σ))
    else
    (some ((1 : Int32), σ))))
set_option maxRecDepth 100000 in
set_option maxHeartbeats 40000000 in
theorem c_Mo_kindOf (l : Launch) (D : va_G) (ca : Nat → ClassId) (ax : Nat → Nat → Nat) (b : Nat) (σ : mm_M) (a0 : Int32) (a1 : Int32)  {r : Int32} {σ' : mm_M} (hf : fn_Mo_kindOf σ a0 a1 = some (r, σ')) : Met l y_Mo_kindOf w_Mo_kindOf rm_Mo_kindOf (pc_w D cls b N_M (ce_M ca b) (kM D ca ax b) [.ref (b + 0), .int a0, .int a1] σ) (qc_i D cls b N_M (ce_M ca b) r σ') 0 0 (mm_A b N_M) := by
  refine vv_go (cc := b_Mo_kindOf) (maxL := 3) (ret := (some .int)) (fin := (r, σ')) (k := fn_Mo_kindOf σ a0 a1) (by decide) rfl (by simp [Value.category]) (Nat.le_of_ble_eq_true rfl) hf ?_
  intro p e s m below meth c hlocks hret S hKK
  unfold fn_Mo_kindOf
  refine v_aload_n S d_Mo_kindOf_0 rfl rfl ?_
  refine v_get S (fun w h => List.mem_cons_of_mem _ (i_Mo w h)) hKK.1 0 (by decide) rfl rfl 6 (by decide) (S.2.2.2.2 _ (List.mem_cons_of_mem _ (wd_747))) (fun _ h => h) rfl d_Mo_kindOf_1 ?_
  refine v_iload_n S d_Mo_kindOf_4 rfl rfl ?_
  refine v_iald S hKK.1 6 0 (by decide) rfl rfl d_Mo_kindOf_5 (fun h1 => ?_)
  refine v_iload_n S d_Mo_kindOf_6 rfl rfl ?_
  refine v_ishr S d_Mo_kindOf_7 ?_
  refine v_iconst S d_Mo_kindOf_8 (v := (1 : Int32)) (by decide) ?_
  refine v_iand S d_Mo_kindOf_9 ?_
  refine v_iconst S d_Mo_kindOf_10 (v := (1 : Int32)) (by decide) ?_
  refine v_icmp_ne S d_Mo_kindOf_11 (tgt := 18) (by decide) (fun h2 => ?_) (fun h2 => ?_)
  · refine v_iconst S d_Mo_kindOf_18 (v := (1 : Int32)) (by decide) ?_
    exact v_iret S hret hlocks d_Mo_kindOf_19
  · refine v_iconst S d_Mo_kindOf_14 (v := (2 : Int32)) (by decide) ?_
    refine v_goto S d_Mo_kindOf_15 (tgt := 19) (by decide) ?_
    exact v_iret S hret hlocks d_Mo_kindOf_19
def fn_Mo_isAddress (σ : mm_M) (a0 : Int32) : Option (Int32 × mm_M) :=
    (if a0 < 0 then
    (if (0 : Int32) = 0 ∨ (0 : Int32) = 1 then some ((0 : Int32), σ) else none)
    else
    (if (σ 0 0) ≤ a0 then
    (if (0 : Int32) = 0 ∨ (0 : Int32) = 1 then some ((0 : Int32), σ) else none)
    else
    (if (1 : Int32) = 0 ∨ (1 : Int32) = 1 then some ((1 : Int32), σ) else none)))
set_option maxRecDepth 100000 in
set_option maxHeartbeats 40000000 in
theorem c_Mo_isAddress (l : Launch) (D : va_G) (ca : Nat → ClassId) (ax : Nat → Nat → Nat) (b : Nat) (σ : mm_M) (a0 : Int32)  {r : Int32} {σ' : mm_M} (hf : fn_Mo_isAddress σ a0 = some (r, σ')) : Met l y_Mo_isAddress w_Mo_isAddress rm_Mo_isAddress (pc_w D cls b N_M (ce_M ca b) (kM D ca ax b) [.ref (b + 0), .int a0] σ) (qc_i D cls b N_M (ce_M ca b) r σ') 0 0 (mm_A b N_M) := by
  refine vv_go (cc := b_Mo_isAddress) (maxL := 2) (ret := (some .boolean)) (fin := (r, σ')) (k := fn_Mo_isAddress σ a0) (by decide) rfl (by simp [Value.category]) (Nat.le_of_ble_eq_true rfl) hf ?_
  intro p e s m below meth c hlocks hret S hKK
  unfold fn_Mo_isAddress
  refine v_iload_n S d_Mo_isAddress_0 rfl rfl ?_
  refine v_if_lt S d_Mo_isAddress_1 (tgt := 16) (by decide) (fun h1 => ?_) (fun h1 => ?_)
  · refine v_iconst S d_Mo_isAddress_16 (v := (0 : Int32)) (by decide) ?_
    exact v_zret S hret hlocks d_Mo_isAddress_17
  · refine v_iload_n S d_Mo_isAddress_4 rfl rfl ?_
    refine v_aload_n S d_Mo_isAddress_5 rfl rfl ?_
    refine v_get S (fun w h => List.mem_cons_of_mem _ (i_Mo w h)) hKK.1 0 (by decide) rfl rfl 0 (by decide) (S.2.2.2.2 _ (List.mem_cons_of_mem _ (wd_741))) (fun _ h => h) rfl d_Mo_isAddress_6 ?_
    refine v_icmp_ge S d_Mo_isAddress_9 (tgt := 16) (by decide) (fun h2 => ?_) (fun h2 => ?_)
    · refine v_iconst S d_Mo_isAddress_16 (v := (0 : Int32)) (by decide) ?_
      exact v_zret S hret hlocks d_Mo_isAddress_17
    · refine v_iconst S d_Mo_isAddress_12 (v := (1 : Int32)) (by decide) ?_
      refine v_goto S d_Mo_isAddress_13 (tgt := 17) (by decide) ?_
      exact v_zret S hret hlocks d_Mo_isAddress_17
def fn_Mo_take_58 (a0 : Int32) (σ : mm_M) (s0 : Int32) : Option (Int32 × mm_M) :=
    (if s0 = 0 ∨ s0 = 1 then
    (nm (mw σ 0 13 s0) (fun σ4 =>
    (if (((6 : Int32) + (σ4 0 11)) < 0 ∨ 12 ≤ ((6 : Int32) + (σ4 0 11)).toNatClampNeg) then none else
    (some ((σ4 10 ((6 : Int32) + (σ4 0 11)).toNatClampNeg), σ4)))))
    else none)
def fn_Mo_take_53 (a0 : Int32) (σ : mm_M)  : Option (Int32 × mm_M) :=
    (fn_Mo_take_58 a0 σ (1 : Int32))
def fn_Mo_take_57 (a0 : Int32) (σ : mm_M)  : Option (Int32 × mm_M) :=
    (fn_Mo_take_58 a0 σ (0 : Int32))
def fn_Mo_take (σ : mm_M) (a0 : Int32) : Option (Int32 × mm_M) :=
    (if (σ 0 11) = 0 then
    (nm (mw σ 0 13 (1 : Int32)) (fun σ10 =>
    (some ((3 : Int32), σ10))))
    else
    (nm (mw σ 0 11 ((σ 0 11) - (1 : Int32))) (fun σ2 =>
    (if (σ2 0 13) = 0 then
    (if a0 = (3 : Int32) then
    (fn_Mo_take_57 a0 σ2)
    else
    (if (((6 : Int32) + (σ2 0 11)) < 0 ∨ 12 ≤ ((6 : Int32) + (σ2 0 11)).toNatClampNeg) then none else
    (if (σ2 10 ((6 : Int32) + (σ2 0 11)).toNatClampNeg) = a0 then
    (fn_Mo_take_57 a0 σ2)
    else
    (fn_Mo_take_53 a0 σ2))))
    else
    (fn_Mo_take_53 a0 σ2)))))
set_option maxRecDepth 100000 in
set_option maxHeartbeats 40000000 in
theorem c_Mo_take (l : Launch) (D : va_G) (ca : Nat → ClassId) (ax : Nat → Nat → Nat) (b : Nat) (σ : mm_M) (a0 : Int32)  {r : Int32} {σ' : mm_M} (hf : fn_Mo_take σ a0 = some (r, σ')) : Met l y_Mo_take w_Mo_take rm_Mo_take (pc_w D cls b N_M (ce_M ca b) (kM D ca ax b) [.ref (b + 0), .int a0] σ) (qc_i D cls b N_M (ce_M ca b) r σ') 0 0 (mm_A b N_M) := by
  refine vv_go (cc := b_Mo_take) (maxL := 2) (ret := (some .int)) (fin := (r, σ')) (k := fn_Mo_take σ a0) (by decide) rfl (by simp [Value.category]) (Nat.le_of_ble_eq_true rfl) hf ?_
  intro p e s m below meth c hlocks hret S hKK
  have C58 : ∀ (σ : mm_M) (s0 : Int32), vv p l e (headSpec w_Mo_take rm_Mo_take).room s m [.ref (b + 0), .int a0].toArray below meth c D cls b N_M (ce_M ca b) 2 (MQ below (qc_i D cls b N_M (ce_M ca b) r σ') [.ref (b + 0), .int a0].toArray s 0 0 (mm_A b N_M)) (r, σ') (fn_Mo_take_58 a0 σ s0) σ 58 [some (.ref (b + 0))] [.int s0, .ref (b + 0)] := by
    intro σ s0
    unfold fn_Mo_take_58
    refine v_guard _ (fun h5 => ?_)
    refine v_puti S (fun w h => List.mem_cons_of_mem _ (i_Mo w h)) hKK.1 0 (by decide) rfl rfl 13 (by decide) (S.2.2.2.2 _ (List.mem_cons_of_mem _ (wd_754))) (fun _ h => h) t_Mo t_Mo_ok n_Mo rfl (ty := .boolean) rfl (nz_b h5) (fz_b h5) (Nat.le_of_ble_eq_true rfl) rfl d_Mo_take_58 ?_
    refine v_sg (fun σ4 eσ4 => ?_)
    refine v_aload_n S d_Mo_take_61 rfl rfl ?_
    refine v_get S (fun w h => List.mem_cons_of_mem _ (i_Mo w h)) hKK.1 0 (by decide) rfl rfl 12 (by decide) (S.2.2.2.2 _ (List.mem_cons_of_mem _ (wd_753))) (fun _ h => h) rfl d_Mo_take_62 ?_
    refine v_bipush S d_Mo_take_65 (v := (6 : Int32)) (by decide) ?_
    refine v_aload_n S d_Mo_take_67 rfl rfl ?_
    refine v_get S (fun w h => List.mem_cons_of_mem _ (i_Mo w h)) hKK.1 0 (by decide) rfl rfl 11 (by decide) (S.2.2.2.2 _ (List.mem_cons_of_mem _ (wd_752))) (fun _ h => h) rfl d_Mo_take_68 ?_
    refine v_iadd S d_Mo_take_71 ?_
    refine v_iald S hKK.1 10 0 (by decide) rfl rfl d_Mo_take_72 (fun h6 => ?_)
    exact v_iret S hret hlocks d_Mo_take_73
  have C53 : ∀ (σ : mm_M) , vv p l e (headSpec w_Mo_take rm_Mo_take).room s m [.ref (b + 0), .int a0].toArray below meth c D cls b N_M (ce_M ca b) 2 (MQ below (qc_i D cls b N_M (ce_M ca b) r σ') [.ref (b + 0), .int a0].toArray s 0 0 (mm_A b N_M)) (r, σ') (fn_Mo_take_53 a0 σ ) σ 53 [some (.ref (b + 0))] [.ref (b + 0)] := by
    intro σ
    unfold fn_Mo_take_53
    refine v_iconst S d_Mo_take_53 (v := (1 : Int32)) (by decide) ?_
    refine v_goto S d_Mo_take_54 (tgt := 58) (by decide) ?_
    refine v_sub (L2 := [some (.ref (b + 0))]) (And.intro rfl True.intro) ?_
    exact C58 σ (1 : Int32)
  have C57 : ∀ (σ : mm_M) , vv p l e (headSpec w_Mo_take rm_Mo_take).room s m [.ref (b + 0), .int a0].toArray below meth c D cls b N_M (ce_M ca b) 2 (MQ below (qc_i D cls b N_M (ce_M ca b) r σ') [.ref (b + 0), .int a0].toArray s 0 0 (mm_A b N_M)) (r, σ') (fn_Mo_take_57 a0 σ ) σ 57 [some (.ref (b + 0))] [.ref (b + 0)] := by
    intro σ
    unfold fn_Mo_take_57
    refine v_iconst S d_Mo_take_57 (v := (0 : Int32)) (by decide) ?_
    refine v_sub (L2 := [some (.ref (b + 0))]) (And.intro rfl True.intro) ?_
    exact C58 σ (0 : Int32)
  unfold fn_Mo_take
  refine v_aload_n S d_Mo_take_0 rfl rfl ?_
  refine v_get S (fun w h => List.mem_cons_of_mem _ (i_Mo w h)) hKK.1 0 (by decide) rfl rfl 11 (by decide) (S.2.2.2.2 _ (List.mem_cons_of_mem _ (wd_752))) (fun _ h => h) rfl d_Mo_take_1 ?_
  refine v_if_ne S d_Mo_take_4 (tgt := 14) (by decide) (fun h1 => ?_) (fun h1 => ?_)
  · refine v_aload_n S d_Mo_take_14 rfl rfl ?_
    refine v_dup S d_Mo_take_15 rfl ?_
    refine v_get S (fun w h => List.mem_cons_of_mem _ (i_Mo w h)) hKK.1 0 (by decide) rfl rfl 11 (by decide) (S.2.2.2.2 _ (List.mem_cons_of_mem _ (wd_752))) (fun _ h => h) rfl d_Mo_take_16 ?_
    refine v_iconst S d_Mo_take_19 (v := (1 : Int32)) (by decide) ?_
    refine v_isub S d_Mo_take_20 ?_
    refine v_puti S (fun w h => List.mem_cons_of_mem _ (i_Mo w h)) hKK.1 0 (by decide) rfl rfl 11 (by decide) (S.2.2.2.2 _ (List.mem_cons_of_mem _ (wd_752))) (fun _ h => h) t_Mo t_Mo_ok n_Mo rfl (ty := .int) rfl rfl rfl (Nat.le_of_ble_eq_true rfl) rfl d_Mo_take_21 ?_
    refine v_sg (fun σ2 eσ2 => ?_)
    refine v_aload_n S d_Mo_take_24 rfl rfl ?_
    refine v_aload_n S d_Mo_take_25 rfl rfl ?_
    refine v_get S (fun w h => List.mem_cons_of_mem _ (i_Mo w h)) hKK.1 0 (by decide) rfl rfl 13 (by decide) (S.2.2.2.2 _ (List.mem_cons_of_mem _ (wd_754))) (fun _ h => h) rfl d_Mo_take_26 ?_
    refine v_if_ne S d_Mo_take_29 (tgt := 53) (by decide) (fun h3 => ?_) (fun h3 => ?_)
    · refine v_sub (L2 := [some (.ref (b + 0))]) (And.intro rfl True.intro) ?_
      exact C53 σ2
    · refine v_iload_n S d_Mo_take_32 rfl rfl ?_
      refine v_iconst S d_Mo_take_33 (v := (3 : Int32)) (by decide) ?_
      refine v_icmp_eq S d_Mo_take_34 (tgt := 57) (by decide) (fun h7 => ?_) (fun h7 => ?_)
      · refine v_sub (L2 := [some (.ref (b + 0))]) (And.intro rfl True.intro) ?_
        exact C57 σ2
      · refine v_aload_n S d_Mo_take_37 rfl rfl ?_
        refine v_get S (fun w h => List.mem_cons_of_mem _ (i_Mo w h)) hKK.1 0 (by decide) rfl rfl 12 (by decide) (S.2.2.2.2 _ (List.mem_cons_of_mem _ (wd_753))) (fun _ h => h) rfl d_Mo_take_38 ?_
        refine v_bipush S d_Mo_take_41 (v := (6 : Int32)) (by decide) ?_
        refine v_aload_n S d_Mo_take_43 rfl rfl ?_
        refine v_get S (fun w h => List.mem_cons_of_mem _ (i_Mo w h)) hKK.1 0 (by decide) rfl rfl 11 (by decide) (S.2.2.2.2 _ (List.mem_cons_of_mem _ (wd_752))) (fun _ h => h) rfl d_Mo_take_44 ?_
        refine v_iadd S d_Mo_take_47 ?_
        refine v_iald S hKK.1 10 0 (by decide) rfl rfl d_Mo_take_48 (fun h8 => ?_)
        refine v_iload_n S d_Mo_take_49 rfl rfl ?_
        refine v_icmp_eq S d_Mo_take_50 (tgt := 57) (by decide) (fun h9 => ?_) (fun h9 => ?_)
        · refine v_sub (L2 := [some (.ref (b + 0))]) (And.intro rfl True.intro) ?_
          exact C57 σ2
        · refine v_sub (L2 := [some (.ref (b + 0))]) (And.intro rfl True.intro) ?_
          exact C53 σ2
  · refine v_aload_n S d_Mo_take_7 rfl rfl ?_
    refine v_iconst S d_Mo_take_8 (v := (1 : Int32)) (by decide) ?_
    refine v_puti S (fun w h => List.mem_cons_of_mem _ (i_Mo w h)) hKK.1 0 (by decide) rfl rfl 13 (by decide) (S.2.2.2.2 _ (List.mem_cons_of_mem _ (wd_754))) (fun _ h => h) t_Mo t_Mo_ok n_Mo rfl (ty := .boolean) rfl rfl rfl (Nat.le_of_ble_eq_true rfl) rfl d_Mo_take_9 ?_
    refine v_sg (fun σ10 eσ10 => ?_)
    refine v_iconst S d_Mo_take_12 (v := (3 : Int32)) (by decide) ?_
    exact v_iret S hret hlocks d_Mo_take_13
def fn_Mo_give (σ : mm_M) (a0 : Int32) : Option (mm_M) :=
    (if (σ 0 11) = (6 : Int32) then
    (nm (mw σ 0 13 (1 : Int32)) (fun σ5 =>
    (some σ5)))
    else
    (if (((6 : Int32) + (σ 0 11)) < 0 ∨ 12 ≤ ((6 : Int32) + (σ 0 11)).toNatClampNeg) then none else (nm (mw σ 10 ((6 : Int32) + (σ 0 11)).toNatClampNeg a0) (fun σ3 =>
    (nm (mw σ3 0 11 ((σ3 0 11) + (1 : Int32))) (fun σ4 =>
    (some σ4)))))))
set_option maxRecDepth 100000 in
set_option maxHeartbeats 40000000 in
theorem c_Mo_give (l : Launch) (D : va_G) (ca : Nat → ClassId) (ax : Nat → Nat → Nat) (b : Nat) (σ : mm_M) (a0 : Int32)  {σ' : mm_M} (hf : fn_Mo_give σ a0 = some σ') : Met l y_Mo_give w_Mo_give rm_Mo_give (pc_w D cls b N_M (ce_M ca b) (kM D ca ax b) [.ref (b + 0), .int a0] σ) (qc_v D cls b N_M (ce_M ca b) σ') 0 0 (mm_A b N_M) := by
  refine vv_go (cc := b_Mo_give) (maxL := 2) (ret := none) (fin := σ') (k := fn_Mo_give σ a0) (by decide) rfl (by simp [Value.category]) (Nat.le_of_ble_eq_true rfl) hf ?_
  intro p e s m below meth c hlocks hret S hKK
  unfold fn_Mo_give
  refine v_aload_n S d_Mo_give_0 rfl rfl ?_
  refine v_get S (fun w h => List.mem_cons_of_mem _ (i_Mo w h)) hKK.1 0 (by decide) rfl rfl 11 (by decide) (S.2.2.2.2 _ (List.mem_cons_of_mem _ (wd_752))) (fun _ h => h) rfl d_Mo_give_1 ?_
  refine v_bipush S d_Mo_give_4 (v := (6 : Int32)) (by decide) ?_
  refine v_icmp_ne S d_Mo_give_6 (tgt := 15) (by decide) (fun h1 => ?_) (fun h1 => ?_)
  · refine v_aload_n S d_Mo_give_15 rfl rfl ?_
    refine v_get S (fun w h => List.mem_cons_of_mem _ (i_Mo w h)) hKK.1 0 (by decide) rfl rfl 12 (by decide) (S.2.2.2.2 _ (List.mem_cons_of_mem _ (wd_753))) (fun _ h => h) rfl d_Mo_give_16 ?_
    refine v_bipush S d_Mo_give_19 (v := (6 : Int32)) (by decide) ?_
    refine v_aload_n S d_Mo_give_21 rfl rfl ?_
    refine v_get S (fun w h => List.mem_cons_of_mem _ (i_Mo w h)) hKK.1 0 (by decide) rfl rfl 11 (by decide) (S.2.2.2.2 _ (List.mem_cons_of_mem _ (wd_752))) (fun _ h => h) rfl d_Mo_give_22 ?_
    refine v_iadd S d_Mo_give_25 ?_
    refine v_iload_n S d_Mo_give_26 rfl rfl ?_
    refine v_iast1 S hKK.1 10 0 (by decide) (fun _ => rfl) rfl d_Mo_give_27 (fun h2 => ?_)
    refine v_sg (fun σ3 eσ3 => ?_)
    refine v_aload_n S d_Mo_give_28 rfl rfl ?_
    refine v_dup S d_Mo_give_29 rfl ?_
    refine v_get S (fun w h => List.mem_cons_of_mem _ (i_Mo w h)) hKK.1 0 (by decide) rfl rfl 11 (by decide) (S.2.2.2.2 _ (List.mem_cons_of_mem _ (wd_752))) (fun _ h => h) rfl d_Mo_give_30 ?_
    refine v_iconst S d_Mo_give_33 (v := (1 : Int32)) (by decide) ?_
    refine v_iadd S d_Mo_give_34 ?_
    refine v_puti S (fun w h => List.mem_cons_of_mem _ (i_Mo w h)) hKK.1 0 (by decide) rfl rfl 11 (by decide) (S.2.2.2.2 _ (List.mem_cons_of_mem _ (wd_752))) (fun _ h => h) t_Mo t_Mo_ok n_Mo rfl (ty := .int) rfl rfl rfl (Nat.le_of_ble_eq_true rfl) rfl d_Mo_give_35 ?_
    refine v_sg (fun σ4 eσ4 => ?_)
    exact v_vret S hret hlocks d_Mo_give_38
  · refine v_aload_n S d_Mo_give_9 rfl rfl ?_
    refine v_iconst S d_Mo_give_10 (v := (1 : Int32)) (by decide) ?_
    refine v_puti S (fun w h => List.mem_cons_of_mem _ (i_Mo w h)) hKK.1 0 (by decide) rfl rfl 13 (by decide) (S.2.2.2.2 _ (List.mem_cons_of_mem _ (wd_754))) (fun _ h => h) t_Mo t_Mo_ok n_Mo rfl (ty := .boolean) rfl rfl rfl (Nat.le_of_ble_eq_true rfl) rfl d_Mo_give_11 ?_
    refine v_sg (fun σ5 eσ5 => ?_)
    exact v_vret S hret hlocks d_Mo_give_14
def fn_Mo_goTo_16 (a0 : Int32) (σ : mm_M)  : Option (mm_M) :=
    (nm (mw σ 0 13 (1 : Int32)) (fun σ2 =>
    (nm (mw σ2 0 15 a0) (fun σ3 =>
    (some σ3)))))
def fn_Mo_goTo (σ : mm_M) (a0 : Int32) : Option (mm_M) :=
    (if (σ 0 13) = 0 then
    (bd (fn_Mo_isAddress σ a0) (fun r5 σ4 =>
    (if r5 = 0 then
    (fn_Mo_goTo_16 a0 σ4)
    else
    (nm (mw σ4 0 13 (0 : Int32)) (fun σ7 =>
    (nm (mw σ7 0 15 a0) (fun σ8 =>
    (some σ8))))))))
    else
    (fn_Mo_goTo_16 a0 σ))
set_option maxRecDepth 100000 in
set_option maxHeartbeats 40000000 in
theorem c_Mo_goTo (l : Launch) (D : va_G) (ca : Nat → ClassId) (ax : Nat → Nat → Nat) (b : Nat) (σ : mm_M) (a0 : Int32)  {σ' : mm_M} (hf : fn_Mo_goTo σ a0 = some σ') : Met l y_Mo_goTo w_Mo_goTo rm_Mo_goTo (pc_w D cls b N_M (ce_M ca b) (kM D ca ax b) [.ref (b + 0), .int a0] σ) (qc_v D cls b N_M (ce_M ca b) σ') 0 0 (mm_A b N_M) := by
  refine vv_go (cc := b_Mo_goTo) (maxL := 2) (ret := none) (fin := σ') (k := fn_Mo_goTo σ a0) (by decide) rfl (by simp [Value.category]) (Nat.le_of_ble_eq_true rfl) hf ?_
  intro p e s m below meth c hlocks hret S hKK
  have C16 : ∀ (σ : mm_M) , vv p l e (headSpec w_Mo_goTo rm_Mo_goTo).room s m [.ref (b + 0), .int a0].toArray below meth c D cls b N_M (ce_M ca b) 2 (MQ below (qc_v D cls b N_M (ce_M ca b) σ') [.ref (b + 0), .int a0].toArray s 0 0 (mm_A b N_M)) σ' (fn_Mo_goTo_16 a0 σ ) σ 16 [some (.ref (b + 0)), some (.int a0)] [.ref (b + 0)] := by
    intro σ
    unfold fn_Mo_goTo_16
    refine v_iconst S d_Mo_goTo_16 (v := (1 : Int32)) (by decide) ?_
    refine v_goto S d_Mo_goTo_17 (tgt := 21) (by decide) ?_
    refine v_puti S (fun w h => List.mem_cons_of_mem _ (i_Mo w h)) hKK.1 0 (by decide) rfl rfl 13 (by decide) (S.2.2.2.2 _ (List.mem_cons_of_mem _ (wd_754))) (fun _ h => h) t_Mo t_Mo_ok n_Mo rfl (ty := .boolean) rfl rfl rfl (Nat.le_of_ble_eq_true rfl) rfl d_Mo_goTo_21 ?_
    refine v_sg (fun σ2 eσ2 => ?_)
    refine v_aload_n S d_Mo_goTo_24 rfl rfl ?_
    refine v_iload_n S d_Mo_goTo_25 rfl rfl ?_
    refine v_puti S (fun w h => List.mem_cons_of_mem _ (i_Mo w h)) hKK.1 0 (by decide) rfl rfl 15 (by decide) (S.2.2.2.2 _ (List.mem_cons_of_mem _ (wd_756))) (fun _ h => h) t_Mo t_Mo_ok n_Mo rfl (ty := .int) rfl rfl rfl (Nat.le_of_ble_eq_true rfl) rfl d_Mo_goTo_26 ?_
    refine v_sg (fun σ3 eσ3 => ?_)
    exact v_vret S hret hlocks d_Mo_goTo_29
  unfold fn_Mo_goTo
  refine v_aload_n S d_Mo_goTo_0 rfl rfl ?_
  refine v_aload_n S d_Mo_goTo_1 rfl rfl ?_
  refine v_get S (fun w h => List.mem_cons_of_mem _ (i_Mo w h)) hKK.1 0 (by decide) rfl rfl 13 (by decide) (S.2.2.2.2 _ (List.mem_cons_of_mem _ (wd_754))) (fun _ h => h) rfl d_Mo_goTo_2 ?_
  refine v_if_ne S d_Mo_goTo_5 (tgt := 16) (by decide) (fun h1 => ?_) (fun h1 => ?_)
  · refine v_sub (L2 := [some (.ref (b + 0)), some (.int a0)]) (And.intro rfl (And.intro rfl True.intro)) ?_
    exact C16 σ
  · refine v_aload_n S d_Mo_goTo_8 rfl rfl ?_
    refine v_iload_n S d_Mo_goTo_9 rfl rfl ?_
    refine v_ci (rest := [.ref (b + 0)]) (fun _ _ hg H locs ls hsz hP hS => run_V (As := [.int a0]) (rest := [.ref (b + 0)]) S kM_ok hKK (c_Mo_isAddress l D ca ax b σ a0 hg) (k_Mo_76 S.2.2.2.2 (fun _ => List.mem_cons_of_mem _) ⟨Nat.le_of_ble_eq_true rfl, Nat.le_of_ble_eq_true rfl⟩) (rc_w hKK.1 hP 0 (by decide) rfl rfl) rfl rfl (by simp [Value.category]) d_Mo_goTo_10 hsz hP hS) (fun r5 σ4 _ => ?_)
    refine v_if_ne S d_Mo_goTo_13 (tgt := 20) (by decide) (fun h6 => ?_) (fun h6 => ?_)
    · refine v_iconst S d_Mo_goTo_20 (v := (0 : Int32)) (by decide) ?_
      refine v_puti S (fun w h => List.mem_cons_of_mem _ (i_Mo w h)) hKK.1 0 (by decide) rfl rfl 13 (by decide) (S.2.2.2.2 _ (List.mem_cons_of_mem _ (wd_754))) (fun _ h => h) t_Mo t_Mo_ok n_Mo rfl (ty := .boolean) rfl rfl rfl (Nat.le_of_ble_eq_true rfl) rfl d_Mo_goTo_21 ?_
      refine v_sg (fun σ7 eσ7 => ?_)
      refine v_aload_n S d_Mo_goTo_24 rfl rfl ?_
      refine v_iload_n S d_Mo_goTo_25 rfl rfl ?_
      refine v_puti S (fun w h => List.mem_cons_of_mem _ (i_Mo w h)) hKK.1 0 (by decide) rfl rfl 15 (by decide) (S.2.2.2.2 _ (List.mem_cons_of_mem _ (wd_756))) (fun _ h => h) t_Mo t_Mo_ok n_Mo rfl (ty := .int) rfl rfl rfl (Nat.le_of_ble_eq_true rfl) rfl d_Mo_goTo_26 ?_
      refine v_sg (fun σ8 eσ8 => ?_)
      exact v_vret S hret hlocks d_Mo_goTo_29
    · refine v_sub (L2 := [some (.ref (b + 0)), some (.int a0)]) (And.intro rfl (And.intro rfl True.intro)) ?_
      exact C16 σ4
def fn_Mo_tryLocal_63 (a0 : Int32) (a1 : Int32) (σ : mm_M) (s0 : Int32) : Option (mm_M) :=
    (if s0 = 0 ∨ s0 = 1 then
    (nm (mw σ 0 13 s0) (fun σ7 =>
    (if (a1 < 0 ∨ 12 ≤ a1.toNatClampNeg) then none else
    (bv (fn_Mo_give σ7 (σ7 10 a1.toNatClampNeg)) (fun σ10 =>
    (some σ10))))))
    else none)
def fn_Mo_tryLocal_62 (a0 : Int32) (a1 : Int32) (σ : mm_M)  : Option (mm_M) :=
    (fn_Mo_tryLocal_63 a0 a1 σ (0 : Int32))
def fn_Mo_tryLocal (σ : mm_M) (a0 : Int32) (a1 : Int32) : Option (mm_M) :=
    (if a1 < 0 then
    (nm (mw σ 0 13 (1 : Int32)) (fun σ2 =>
    (some σ2)))
    else
    (if a1 ≤ (5 : Int32) then
    (if a0 = (6 : Int32) then
    (bd (fn_Mo_take σ (3 : Int32)) (fun r14 σ13 =>
    (if (a1 < 0 ∨ 12 ≤ a1.toNatClampNeg) then none else (nm (mw σ13 10 a1.toNatClampNeg r14) (fun σ16 =>
    (some σ16))))))
    else
    (if (a1 < 0 ∨ 12 ≤ a1.toNatClampNeg) then none else
    (if (σ 10 a1.toNatClampNeg) = (1 : Int32) then
    (fn_Mo_tryLocal_62 a0 a1 σ)
    else
    (if (a1 < 0 ∨ 12 ≤ a1.toNatClampNeg) then none else
    (if (σ 10 a1.toNatClampNeg) = (2 : Int32) then
    (fn_Mo_tryLocal_62 a0 a1 σ)
    else
    (fn_Mo_tryLocal_63 a0 a1 σ (1 : Int32)))))))
    else
    (nm (mw σ 0 13 (1 : Int32)) (fun σ17 =>
    (some σ17)))))
set_option maxRecDepth 100000 in
set_option maxHeartbeats 40000000 in
theorem c_Mo_tryLocal (l : Launch) (D : va_G) (ca : Nat → ClassId) (ax : Nat → Nat → Nat) (b : Nat) (σ : mm_M) (a0 : Int32) (a1 : Int32)  {σ' : mm_M} (hf : fn_Mo_tryLocal σ a0 a1 = some σ') : Met l y_Mo_tryLocal w_Mo_tryLocal rm_Mo_tryLocal (pc_w D cls b N_M (ce_M ca b) (kM D ca ax b) [.ref (b + 0), .int a0, .int a1] σ) (qc_v D cls b N_M (ce_M ca b) σ') 0 0 (mm_A b N_M) := by
  refine vv_go (cc := b_Mo_tryLocal) (maxL := 3) (ret := none) (fin := σ') (k := fn_Mo_tryLocal σ a0 a1) (by decide) rfl (by simp [Value.category]) (Nat.le_of_ble_eq_true rfl) hf ?_
  intro p e s m below meth c hlocks hret S hKK
  have C63 : ∀ (σ : mm_M) (s0 : Int32), vv p l e (headSpec w_Mo_tryLocal rm_Mo_tryLocal).room s m [.ref (b + 0), .int a0, .int a1].toArray below meth c D cls b N_M (ce_M ca b) 3 (MQ below (qc_v D cls b N_M (ce_M ca b) σ') [.ref (b + 0), .int a0, .int a1].toArray s 0 0 (mm_A b N_M)) σ' (fn_Mo_tryLocal_63 a0 a1 σ s0) σ 63 [some (.ref (b + 0)), none, some (.int a1)] [.int s0, .ref (b + 0)] := by
    intro σ s0
    unfold fn_Mo_tryLocal_63
    refine v_guard _ (fun h8 => ?_)
    refine v_puti S (fun w h => List.mem_cons_of_mem _ (i_Mo w h)) hKK.1 0 (by decide) rfl rfl 13 (by decide) (S.2.2.2.2 _ (List.mem_cons_of_mem _ (wd_754))) (fun _ h => h) t_Mo t_Mo_ok n_Mo rfl (ty := .boolean) rfl (nz_b h8) (fz_b h8) (Nat.le_of_ble_eq_true rfl) rfl d_Mo_tryLocal_63 ?_
    refine v_sg (fun σ7 eσ7 => ?_)
    refine v_aload_n S d_Mo_tryLocal_66 rfl rfl ?_
    refine v_aload_n S d_Mo_tryLocal_67 rfl rfl ?_
    refine v_get S (fun w h => List.mem_cons_of_mem _ (i_Mo w h)) hKK.1 0 (by decide) rfl rfl 12 (by decide) (S.2.2.2.2 _ (List.mem_cons_of_mem _ (wd_753))) (fun _ h => h) rfl d_Mo_tryLocal_68 ?_
    refine v_iload_n S d_Mo_tryLocal_71 rfl rfl ?_
    refine v_iald S hKK.1 10 0 (by decide) rfl rfl d_Mo_tryLocal_72 (fun h9 => ?_)
    refine v_cv (rest := []) (fun _ hg H locs ls hsz hP hS => run_V (As := [.int (σ7 10 a1.toNatClampNeg)]) (rest := []) S kM_ok hKK (c_Mo_give l D ca ax b σ7 (σ7 10 a1.toNatClampNeg) hg) (k_Mo_90 S.2.2.2.2 (fun _ => List.mem_cons_of_mem _) ⟨Nat.le_of_ble_eq_true rfl, Nat.le_of_ble_eq_true rfl⟩) (rc_w hKK.1 hP 0 (by decide) rfl rfl) rfl rfl (Nat.zero_le _) d_Mo_tryLocal_73 hsz hP hS) (fun σ10 _ => ?_)
    exact v_vret S hret hlocks d_Mo_tryLocal_76
  have C62 : ∀ (σ : mm_M) , vv p l e (headSpec w_Mo_tryLocal rm_Mo_tryLocal).room s m [.ref (b + 0), .int a0, .int a1].toArray below meth c D cls b N_M (ce_M ca b) 3 (MQ below (qc_v D cls b N_M (ce_M ca b) σ') [.ref (b + 0), .int a0, .int a1].toArray s 0 0 (mm_A b N_M)) σ' (fn_Mo_tryLocal_62 a0 a1 σ ) σ 62 [some (.ref (b + 0)), none, some (.int a1)] [.ref (b + 0)] := by
    intro σ
    unfold fn_Mo_tryLocal_62
    refine v_iconst S d_Mo_tryLocal_62 (v := (0 : Int32)) (by decide) ?_
    refine v_sub (L2 := [some (.ref (b + 0)), none, some (.int a1)]) (And.intro rfl (And.intro rfl True.intro)) ?_
    exact C63 σ (0 : Int32)
  unfold fn_Mo_tryLocal
  refine v_iload_n S d_Mo_tryLocal_0 rfl rfl ?_
  refine v_if_lt S d_Mo_tryLocal_1 (tgt := 9) (by decide) (fun h1 => ?_) (fun h1 => ?_)
  · refine v_aload_n S d_Mo_tryLocal_9 rfl rfl ?_
    refine v_iconst S d_Mo_tryLocal_10 (v := (1 : Int32)) (by decide) ?_
    refine v_puti S (fun w h => List.mem_cons_of_mem _ (i_Mo w h)) hKK.1 0 (by decide) rfl rfl 13 (by decide) (S.2.2.2.2 _ (List.mem_cons_of_mem _ (wd_754))) (fun _ h => h) t_Mo t_Mo_ok n_Mo rfl (ty := .boolean) rfl rfl rfl (Nat.le_of_ble_eq_true rfl) rfl d_Mo_tryLocal_11 ?_
    refine v_sg (fun σ2 eσ2 => ?_)
    refine v_goto S d_Mo_tryLocal_14 (tgt := 76) (by decide) ?_
    exact v_vret S hret hlocks d_Mo_tryLocal_76
  · refine v_iload_n S d_Mo_tryLocal_4 rfl rfl ?_
    refine v_iconst S d_Mo_tryLocal_5 (v := (5 : Int32)) (by decide) ?_
    refine v_icmp_le S d_Mo_tryLocal_6 (tgt := 17) (by decide) (fun h3 => ?_) (fun h3 => ?_)
    · refine v_iload_n S d_Mo_tryLocal_17 rfl rfl ?_
      refine v_bipush S d_Mo_tryLocal_18 (v := (6 : Int32)) (by decide) ?_
      refine v_icmp_ne S d_Mo_tryLocal_20 (tgt := 37) (by decide) (fun h4 => ?_) (fun h4 => ?_)
      · refine v_aload_n S d_Mo_tryLocal_37 rfl rfl ?_
        refine v_aload_n S d_Mo_tryLocal_38 rfl rfl ?_
        refine v_get S (fun w h => List.mem_cons_of_mem _ (i_Mo w h)) hKK.1 0 (by decide) rfl rfl 12 (by decide) (S.2.2.2.2 _ (List.mem_cons_of_mem _ (wd_753))) (fun _ h => h) rfl d_Mo_tryLocal_39 ?_
        refine v_iload_n S d_Mo_tryLocal_42 rfl rfl ?_
        refine v_iald S hKK.1 10 0 (by decide) rfl rfl d_Mo_tryLocal_43 (fun h5 => ?_)
        refine v_iconst S d_Mo_tryLocal_44 (v := (1 : Int32)) (by decide) ?_
        refine v_icmp_eq S d_Mo_tryLocal_45 (tgt := 62) (by decide) (fun h6 => ?_) (fun h6 => ?_)
        · refine v_sub (L2 := [some (.ref (b + 0)), none, some (.int a1)]) (And.intro rfl (And.intro rfl True.intro)) ?_
          exact C62 σ
        · refine v_aload_n S d_Mo_tryLocal_48 rfl rfl ?_
          refine v_get S (fun w h => List.mem_cons_of_mem _ (i_Mo w h)) hKK.1 0 (by decide) rfl rfl 12 (by decide) (S.2.2.2.2 _ (List.mem_cons_of_mem _ (wd_753))) (fun _ h => h) rfl d_Mo_tryLocal_49 ?_
          refine v_iload_n S d_Mo_tryLocal_52 rfl rfl ?_
          refine v_iald S hKK.1 10 0 (by decide) rfl rfl d_Mo_tryLocal_53 (fun h11 => ?_)
          refine v_iconst S d_Mo_tryLocal_54 (v := (2 : Int32)) (by decide) ?_
          refine v_icmp_eq S d_Mo_tryLocal_55 (tgt := 62) (by decide) (fun h12 => ?_) (fun h12 => ?_)
          · refine v_sub (L2 := [some (.ref (b + 0)), none, some (.int a1)]) (And.intro rfl (And.intro rfl True.intro)) ?_
            exact C62 σ
          · refine v_iconst S d_Mo_tryLocal_58 (v := (1 : Int32)) (by decide) ?_
            refine v_goto S d_Mo_tryLocal_59 (tgt := 63) (by decide) ?_
            refine v_sub (L2 := [some (.ref (b + 0)), none, some (.int a1)]) (And.intro rfl (And.intro rfl True.intro)) ?_
            exact C63 σ (1 : Int32)
      · refine v_aload_n S d_Mo_tryLocal_23 rfl rfl ?_
        refine v_get S (fun w h => List.mem_cons_of_mem _ (i_Mo w h)) hKK.1 0 (by decide) rfl rfl 12 (by decide) (S.2.2.2.2 _ (List.mem_cons_of_mem _ (wd_753))) (fun _ h => h) rfl d_Mo_tryLocal_24 ?_
        refine v_iload_n S d_Mo_tryLocal_27 rfl rfl ?_
        refine v_aload_n S d_Mo_tryLocal_28 rfl rfl ?_
        refine v_iconst S d_Mo_tryLocal_29 (v := (3 : Int32)) (by decide) ?_
        refine v_ci (rest := [.int a1, .ref (b + 10)]) (fun _ _ hg H locs ls hsz hP hS => run_V (As := [.int (3 : Int32)]) (rest := [.int a1, .ref (b + 10)]) S kM_ok hKK (c_Mo_take l D ca ax b σ (3 : Int32) hg) (k_Mo_86 S.2.2.2.2 (fun _ => List.mem_cons_of_mem _) ⟨Nat.le_of_ble_eq_true rfl, Nat.le_of_ble_eq_true rfl⟩) (rc_w hKK.1 hP 0 (by decide) rfl rfl) rfl rfl (by simp [Value.category]) d_Mo_tryLocal_30 hsz hP hS) (fun r14 σ13 _ => ?_)
        refine v_iast1 S hKK.1 10 0 (by decide) (fun _ => rfl) rfl d_Mo_tryLocal_33 (fun h15 => ?_)
        refine v_sg (fun σ16 eσ16 => ?_)
        refine v_goto S d_Mo_tryLocal_34 (tgt := 76) (by decide) ?_
        exact v_vret S hret hlocks d_Mo_tryLocal_76
    · refine v_aload_n S d_Mo_tryLocal_9 rfl rfl ?_
      refine v_iconst S d_Mo_tryLocal_10 (v := (1 : Int32)) (by decide) ?_
      refine v_puti S (fun w h => List.mem_cons_of_mem _ (i_Mo w h)) hKK.1 0 (by decide) rfl rfl 13 (by decide) (S.2.2.2.2 _ (List.mem_cons_of_mem _ (wd_754))) (fun _ h => h) t_Mo t_Mo_ok n_Mo rfl (ty := .boolean) rfl rfl rfl (Nat.le_of_ble_eq_true rfl) rfl d_Mo_tryLocal_11 ?_
      refine v_sg (fun σ17 eσ17 => ?_)
      refine v_goto S d_Mo_tryLocal_14 (tgt := 76) (by decide) ?_
      exact v_vret S hret hlocks d_Mo_tryLocal_76
end
section
/-! contracts of 20.model; written by wip/whole/make.py -/
def fn_Mo_tryGo (σ : mm_M) (a0 : Int32) (a1 : Int32) : Option (mm_M) :=
    (if a0 = (9 : Int32) then
    (bv (fn_Mo_give σ (2 : Int32)) (fun σ15 =>
    (some σ15)))
    else
    (if a0 = (11 : Int32) then
    (bd (fn_Mo_take σ (1 : Int32)) (fun r13 σ12 =>
    (bv (fn_Mo_give σ12 (2 : Int32)) (fun σ14 =>
    (some σ14)))))
    else
    (if a0 = (7 : Int32) then
    (bv (fn_Mo_goTo σ a1) (fun σ11 =>
    (some σ11)))
    else
    (if a0 = (8 : Int32) then
    (bd (fn_Mo_take σ (1 : Int32)) (fun r9 σ8 =>
    (bv (fn_Mo_goTo σ8 a1) (fun σ10 =>
    (some σ10)))))
    else
    (bd (fn_Mo_take σ (2 : Int32)) (fun r6 σ5 =>
    (bv (fn_Mo_goTo σ5 a1) (fun σ7 =>
    (some σ7)))))))))
set_option maxRecDepth 100000 in
set_option maxHeartbeats 40000000 in
theorem c_Mo_tryGo (l : Launch) (D : va_G) (ca : Nat → ClassId) (ax : Nat → Nat → Nat) (b : Nat) (σ : mm_M) (a0 : Int32) (a1 : Int32)  {σ' : mm_M} (hf : fn_Mo_tryGo σ a0 a1 = some σ') : Met l y_Mo_tryGo w_Mo_tryGo rm_Mo_tryGo (pc_w D cls b N_M (ce_M ca b) (kM D ca ax b) [.ref (b + 0), .int a0, .int a1] σ) (qc_v D cls b N_M (ce_M ca b) σ') 0 0 (mm_A b N_M) := by
  refine vv_go (cc := b_Mo_tryGo) (maxL := 4) (ret := none) (fin := σ') (k := fn_Mo_tryGo σ a0 a1) (by decide) rfl (by simp [Value.category]) (Nat.le_of_ble_eq_true rfl) hf ?_
  intro p e s m below meth c hlocks hret S hKK
  unfold fn_Mo_tryGo
  refine v_iload_n S d_Mo_tryGo_0 rfl rfl ?_
  refine v_bipush S d_Mo_tryGo_1 (v := (9 : Int32)) (by decide) ?_
  refine v_icmp_ne S d_Mo_tryGo_3 (tgt := 14) (by decide) (fun h1 => ?_) (fun h1 => ?_)
  · refine v_iload_n S d_Mo_tryGo_14 rfl rfl ?_
    refine v_bipush S d_Mo_tryGo_15 (v := (11 : Int32)) (by decide) ?_
    refine v_icmp_ne S d_Mo_tryGo_17 (tgt := 34) (by decide) (fun h2 => ?_) (fun h2 => ?_)
    · refine v_iload_n S d_Mo_tryGo_34 rfl rfl ?_
      refine v_bipush S d_Mo_tryGo_35 (v := (7 : Int32)) (by decide) ?_
      refine v_icmp_ne S d_Mo_tryGo_37 (tgt := 44) (by decide) (fun h3 => ?_) (fun h3 => ?_)
      · refine v_aload_n S d_Mo_tryGo_44 rfl rfl ?_
        refine v_iload_n S d_Mo_tryGo_45 rfl rfl ?_
        refine v_bipush S d_Mo_tryGo_46 (v := (8 : Int32)) (by decide) ?_
        refine v_icmp_ne S d_Mo_tryGo_48 (tgt := 55) (by decide) (fun h4 => ?_) (fun h4 => ?_)
        · refine v_iconst S d_Mo_tryGo_55 (v := (2 : Int32)) (by decide) ?_
          refine v_ci (rest := []) (fun _ _ hg H locs ls hsz hP hS => run_V (As := [.int (2 : Int32)]) (rest := []) S kM_ok hKK (c_Mo_take l D ca ax b σ (2 : Int32) hg) (k_Mo_86 S.2.2.2.2 (fun _ => List.mem_cons_of_mem _) ⟨Nat.le_of_ble_eq_true rfl, Nat.le_of_ble_eq_true rfl⟩) (rc_w hKK.1 hP 0 (by decide) rfl rfl) rfl rfl (Nat.zero_le _) d_Mo_tryGo_56 hsz hP hS) (fun r6 σ5 _ => ?_)
          refine v_istore_nP S d_Mo_tryGo_59 rfl (by decide) (L2 := [some (.ref (b + 0)), some (.int a0), some (.int a1), some (.int r6)]) rfl ?_
          refine v_aload_n S d_Mo_tryGo_60 rfl rfl ?_
          refine v_iload_n S d_Mo_tryGo_61 rfl rfl ?_
          refine v_cv (rest := []) (fun _ hg H locs ls hsz hP hS => run_V (As := [.int a1]) (rest := []) S kM_ok hKK (c_Mo_goTo l D ca ax b σ5 a1 hg) (k_Mo_114 S.2.2.2.2 (fun _ => List.mem_cons_of_mem _) ⟨Nat.le_of_ble_eq_true rfl, Nat.le_of_ble_eq_true rfl⟩) (rc_w hKK.1 hP 0 (by decide) rfl rfl) rfl rfl (Nat.zero_le _) d_Mo_tryGo_62 hsz hP hS) (fun σ7 _ => ?_)
          exact v_vret S hret hlocks d_Mo_tryGo_65
        · refine v_iconst S d_Mo_tryGo_51 (v := (1 : Int32)) (by decide) ?_
          refine v_goto S d_Mo_tryGo_52 (tgt := 56) (by decide) ?_
          refine v_ci (rest := []) (fun _ _ hg H locs ls hsz hP hS => run_V (As := [.int (1 : Int32)]) (rest := []) S kM_ok hKK (c_Mo_take l D ca ax b σ (1 : Int32) hg) (k_Mo_86 S.2.2.2.2 (fun _ => List.mem_cons_of_mem _) ⟨Nat.le_of_ble_eq_true rfl, Nat.le_of_ble_eq_true rfl⟩) (rc_w hKK.1 hP 0 (by decide) rfl rfl) rfl rfl (Nat.zero_le _) d_Mo_tryGo_56 hsz hP hS) (fun r9 σ8 _ => ?_)
          refine v_istore_nP S d_Mo_tryGo_59 rfl (by decide) (L2 := [some (.ref (b + 0)), some (.int a0), some (.int a1), some (.int r9)]) rfl ?_
          refine v_aload_n S d_Mo_tryGo_60 rfl rfl ?_
          refine v_iload_n S d_Mo_tryGo_61 rfl rfl ?_
          refine v_cv (rest := []) (fun _ hg H locs ls hsz hP hS => run_V (As := [.int a1]) (rest := []) S kM_ok hKK (c_Mo_goTo l D ca ax b σ8 a1 hg) (k_Mo_114 S.2.2.2.2 (fun _ => List.mem_cons_of_mem _) ⟨Nat.le_of_ble_eq_true rfl, Nat.le_of_ble_eq_true rfl⟩) (rc_w hKK.1 hP 0 (by decide) rfl rfl) rfl rfl (Nat.zero_le _) d_Mo_tryGo_62 hsz hP hS) (fun σ10 _ => ?_)
          exact v_vret S hret hlocks d_Mo_tryGo_65
      · refine v_iconst S d_Mo_tryGo_40 (v := (3 : Int32)) (by decide) ?_
        refine v_goto S d_Mo_tryGo_41 (tgt := 59) (by decide) ?_
        refine v_istore_nP S d_Mo_tryGo_59 rfl (by decide) (L2 := [some (.ref (b + 0)), some (.int a0), some (.int a1), some (.int (3 : Int32))]) rfl ?_
        refine v_aload_n S d_Mo_tryGo_60 rfl rfl ?_
        refine v_iload_n S d_Mo_tryGo_61 rfl rfl ?_
        refine v_cv (rest := []) (fun _ hg H locs ls hsz hP hS => run_V (As := [.int a1]) (rest := []) S kM_ok hKK (c_Mo_goTo l D ca ax b σ a1 hg) (k_Mo_114 S.2.2.2.2 (fun _ => List.mem_cons_of_mem _) ⟨Nat.le_of_ble_eq_true rfl, Nat.le_of_ble_eq_true rfl⟩) (rc_w hKK.1 hP 0 (by decide) rfl rfl) rfl rfl (Nat.zero_le _) d_Mo_tryGo_62 hsz hP hS) (fun σ11 _ => ?_)
        exact v_vret S hret hlocks d_Mo_tryGo_65
    · refine v_aload_n S d_Mo_tryGo_20 rfl rfl ?_
      refine v_iconst S d_Mo_tryGo_21 (v := (1 : Int32)) (by decide) ?_
      refine v_ci (rest := []) (fun _ _ hg H locs ls hsz hP hS => run_V (As := [.int (1 : Int32)]) (rest := []) S kM_ok hKK (c_Mo_take l D ca ax b σ (1 : Int32) hg) (k_Mo_86 S.2.2.2.2 (fun _ => List.mem_cons_of_mem _) ⟨Nat.le_of_ble_eq_true rfl, Nat.le_of_ble_eq_true rfl⟩) (rc_w hKK.1 hP 0 (by decide) rfl rfl) rfl rfl (Nat.zero_le _) d_Mo_tryGo_22 hsz hP hS) (fun r13 σ12 _ => ?_)
      refine v_istore_nP S d_Mo_tryGo_25 rfl (by decide) (L2 := [some (.ref (b + 0)), some (.int a0), some (.int a1), some (.int r13)]) rfl ?_
      refine v_aload_n S d_Mo_tryGo_26 rfl rfl ?_
      refine v_iconst S d_Mo_tryGo_27 (v := (2 : Int32)) (by decide) ?_
      refine v_cv (rest := []) (fun _ hg H locs ls hsz hP hS => run_V (As := [.int (2 : Int32)]) (rest := []) S kM_ok hKK (c_Mo_give l D ca ax b σ12 (2 : Int32) hg) (k_Mo_90 S.2.2.2.2 (fun _ => List.mem_cons_of_mem _) ⟨Nat.le_of_ble_eq_true rfl, Nat.le_of_ble_eq_true rfl⟩) (rc_w hKK.1 hP 0 (by decide) rfl rfl) rfl rfl (Nat.zero_le _) d_Mo_tryGo_28 hsz hP hS) (fun σ14 _ => ?_)
      refine v_goto S d_Mo_tryGo_31 (tgt := 65) (by decide) ?_
      exact v_vret S hret hlocks d_Mo_tryGo_65
  · refine v_aload_n S d_Mo_tryGo_6 rfl rfl ?_
    refine v_iconst S d_Mo_tryGo_7 (v := (2 : Int32)) (by decide) ?_
    refine v_cv (rest := []) (fun _ hg H locs ls hsz hP hS => run_V (As := [.int (2 : Int32)]) (rest := []) S kM_ok hKK (c_Mo_give l D ca ax b σ (2 : Int32) hg) (k_Mo_90 S.2.2.2.2 (fun _ => List.mem_cons_of_mem _) ⟨Nat.le_of_ble_eq_true rfl, Nat.le_of_ble_eq_true rfl⟩) (rc_w hKK.1 hP 0 (by decide) rfl rfl) rfl rfl (Nat.zero_le _) d_Mo_tryGo_8 hsz hP hS) (fun σ15 _ => ?_)
    refine v_goto S d_Mo_tryGo_11 (tgt := 65) (by decide) ?_
    exact v_vret S hret hlocks d_Mo_tryGo_65
def fn_Mo_tryArray_31 (a0 : Int32) (σ : mm_M) (s0 : Int32) : Option (mm_M) :=
    (bd (fn_Mo_take σ (2 : Int32)) (fun r6 σ5 =>
    (if a0 = (13 : Int32) then
    (some σ5)
    else
    (bv (fn_Mo_give σ5 (1 : Int32)) (fun σ8 =>
    (some σ8))))))
def fn_Mo_tryArray_15 (a0 : Int32) (σ : mm_M) (s0 : Int32) : Option (mm_M) :=
    (if a0 = (14 : Int32) then
    (fn_Mo_tryArray_31 a0 σ (1 : Int32))
    else
    (bd (fn_Mo_take σ (1 : Int32)) (fun r4 σ3 =>
    (fn_Mo_tryArray_31 a0 σ3 r4))))
def fn_Mo_tryArray (σ : mm_M) (a0 : Int32) : Option (mm_M) :=
    (if a0 = (13 : Int32) then
    (bd (fn_Mo_take σ (1 : Int32)) (fun r10 σ9 =>
    (fn_Mo_tryArray_15 a0 σ9 r10)))
    else
    (fn_Mo_tryArray_15 a0 σ (1 : Int32)))
set_option maxRecDepth 100000 in
set_option maxHeartbeats 40000000 in
theorem c_Mo_tryArray (l : Launch) (D : va_G) (ca : Nat → ClassId) (ax : Nat → Nat → Nat) (b : Nat) (σ : mm_M) (a0 : Int32)  {σ' : mm_M} (hf : fn_Mo_tryArray σ a0 = some σ') : Met l y_Mo_tryArray w_Mo_tryArray rm_Mo_tryArray (pc_w D cls b N_M (ce_M ca b) (kM D ca ax b) [.ref (b + 0), .int a0] σ) (qc_v D cls b N_M (ce_M ca b) σ') 0 0 (mm_A b N_M) := by
  refine vv_go (cc := b_Mo_tryArray) (maxL := 5) (ret := none) (fin := σ') (k := fn_Mo_tryArray σ a0) (by decide) rfl (by simp [Value.category]) (Nat.le_of_ble_eq_true rfl) hf ?_
  intro p e s m below meth c hlocks hret S hKK
  have C31 : ∀ (σ : mm_M) (s0 : Int32), vv p l e (headSpec w_Mo_tryArray rm_Mo_tryArray).room s m [.ref (b + 0), .int a0].toArray below meth c D cls b N_M (ce_M ca b) 5 (MQ below (qc_v D cls b N_M (ce_M ca b) σ') [.ref (b + 0), .int a0].toArray s 0 0 (mm_A b N_M)) σ' (fn_Mo_tryArray_31 a0 σ s0) σ 31 [some (.ref (b + 0)), some (.int a0)] [.int s0] := by
    intro σ s0
    unfold fn_Mo_tryArray_31
    refine v_istore_nP S d_Mo_tryArray_31 rfl (by decide) (L2 := [some (.ref (b + 0)), some (.int a0), none, some (.int s0)]) rfl ?_
    refine v_aload_n S d_Mo_tryArray_32 rfl rfl ?_
    refine v_iconst S d_Mo_tryArray_33 (v := (2 : Int32)) (by decide) ?_
    refine v_ci (rest := []) (fun _ _ hg H locs ls hsz hP hS => run_V (As := [.int (2 : Int32)]) (rest := []) S kM_ok hKK (c_Mo_take l D ca ax b σ (2 : Int32) hg) (k_Mo_86 S.2.2.2.2 (fun _ => List.mem_cons_of_mem _) ⟨Nat.le_of_ble_eq_true rfl, Nat.le_of_ble_eq_true rfl⟩) (rc_w hKK.1 hP 0 (by decide) rfl rfl) rfl rfl (Nat.zero_le _) d_Mo_tryArray_34 hsz hP hS) (fun r6 σ5 _ => ?_)
    refine v_istoreP S d_Mo_tryArray_37 (by decide) (L2 := [some (.ref (b + 0)), some (.int a0), none, some (.int s0), some (.int r6)]) rfl ?_
    refine v_iload_n S d_Mo_tryArray_39 rfl rfl ?_
    refine v_bipush S d_Mo_tryArray_40 (v := (13 : Int32)) (by decide) ?_
    refine v_icmp_eq S d_Mo_tryArray_42 (tgt := 50) (by decide) (fun h7 => ?_) (fun h7 => ?_)
    · exact v_vret S hret hlocks d_Mo_tryArray_50
    · refine v_aload_n S d_Mo_tryArray_45 rfl rfl ?_
      refine v_iconst S d_Mo_tryArray_46 (v := (1 : Int32)) (by decide) ?_
      refine v_cv (rest := []) (fun _ hg H locs ls hsz hP hS => run_V (As := [.int (1 : Int32)]) (rest := []) S kM_ok hKK (c_Mo_give l D ca ax b σ5 (1 : Int32) hg) (k_Mo_90 S.2.2.2.2 (fun _ => List.mem_cons_of_mem _) ⟨Nat.le_of_ble_eq_true rfl, Nat.le_of_ble_eq_true rfl⟩) (rc_w hKK.1 hP 0 (by decide) rfl rfl) rfl rfl (Nat.zero_le _) d_Mo_tryArray_47 hsz hP hS) (fun σ8 _ => ?_)
      exact v_vret S hret hlocks d_Mo_tryArray_50
  have C15 : ∀ (σ : mm_M) (s0 : Int32), vv p l e (headSpec w_Mo_tryArray rm_Mo_tryArray).room s m [.ref (b + 0), .int a0].toArray below meth c D cls b N_M (ce_M ca b) 5 (MQ below (qc_v D cls b N_M (ce_M ca b) σ') [.ref (b + 0), .int a0].toArray s 0 0 (mm_A b N_M)) σ' (fn_Mo_tryArray_15 a0 σ s0) σ 15 [some (.ref (b + 0)), some (.int a0)] [.int s0] := by
    intro σ s0
    unfold fn_Mo_tryArray_15
    refine v_istore_nP S d_Mo_tryArray_15 rfl (by decide) (L2 := [some (.ref (b + 0)), some (.int a0), some (.int s0)]) rfl ?_
    refine v_iload_n S d_Mo_tryArray_16 rfl rfl ?_
    refine v_bipush S d_Mo_tryArray_17 (v := (14 : Int32)) (by decide) ?_
    refine v_icmp_ne S d_Mo_tryArray_19 (tgt := 26) (by decide) (fun h2 => ?_) (fun h2 => ?_)
    · refine v_aload_n S d_Mo_tryArray_26 rfl rfl ?_
      refine v_iconst S d_Mo_tryArray_27 (v := (1 : Int32)) (by decide) ?_
      refine v_ci (rest := []) (fun _ _ hg H locs ls hsz hP hS => run_V (As := [.int (1 : Int32)]) (rest := []) S kM_ok hKK (c_Mo_take l D ca ax b σ (1 : Int32) hg) (k_Mo_86 S.2.2.2.2 (fun _ => List.mem_cons_of_mem _) ⟨Nat.le_of_ble_eq_true rfl, Nat.le_of_ble_eq_true rfl⟩) (rc_w hKK.1 hP 0 (by decide) rfl rfl) rfl rfl (Nat.zero_le _) d_Mo_tryArray_28 hsz hP hS) (fun r4 σ3 _ => ?_)
      refine v_sub (L2 := [some (.ref (b + 0)), some (.int a0)]) (And.intro rfl (And.intro rfl True.intro)) ?_
      exact C31 σ3 r4
    · refine v_iconst S d_Mo_tryArray_22 (v := (1 : Int32)) (by decide) ?_
      refine v_goto S d_Mo_tryArray_23 (tgt := 31) (by decide) ?_
      refine v_sub (L2 := [some (.ref (b + 0)), some (.int a0)]) (And.intro rfl (And.intro rfl True.intro)) ?_
      exact C31 σ (1 : Int32)
  unfold fn_Mo_tryArray
  refine v_iload_n S d_Mo_tryArray_0 rfl rfl ?_
  refine v_bipush S d_Mo_tryArray_1 (v := (13 : Int32)) (by decide) ?_
  refine v_icmp_ne S d_Mo_tryArray_3 (tgt := 14) (by decide) (fun h1 => ?_) (fun h1 => ?_)
  · refine v_iconst S d_Mo_tryArray_14 (v := (1 : Int32)) (by decide) ?_
    refine v_sub (L2 := [some (.ref (b + 0)), some (.int a0)]) (And.intro rfl (And.intro rfl True.intro)) ?_
    exact C15 σ (1 : Int32)
  · refine v_aload_n S d_Mo_tryArray_6 rfl rfl ?_
    refine v_iconst S d_Mo_tryArray_7 (v := (1 : Int32)) (by decide) ?_
    refine v_ci (rest := []) (fun _ _ hg H locs ls hsz hP hS => run_V (As := [.int (1 : Int32)]) (rest := []) S kM_ok hKK (c_Mo_take l D ca ax b σ (1 : Int32) hg) (k_Mo_86 S.2.2.2.2 (fun _ => List.mem_cons_of_mem _) ⟨Nat.le_of_ble_eq_true rfl, Nat.le_of_ble_eq_true rfl⟩) (rc_w hKK.1 hP 0 (by decide) rfl rfl) rfl rfl (Nat.zero_le _) d_Mo_tryArray_8 hsz hP hS) (fun r10 σ9 _ => ?_)
    refine v_goto S d_Mo_tryArray_11 (tgt := 15) (by decide) ?_
    refine v_sub (L2 := [some (.ref (b + 0)), some (.int a0)]) (And.intro rfl (And.intro rfl True.intro)) ?_
    exact C15 σ9 r10
def fn_Mo_tryPlaces (σ : mm_M) (a0 : Int32) : Option (mm_M) :=
    (bd (fn_Mo_take σ (3 : Int32)) (fun r2 σ1 =>
    (if a0 = (15 : Int32) then
    (bv (fn_Mo_give σ1 r2) (fun σ9 =>
    (bv (fn_Mo_give σ9 r2) (fun σ10 =>
    (some σ10)))))
    else
    (if a0 = (16 : Int32) then
    (bd (fn_Mo_take σ1 (3 : Int32)) (fun r6 σ5 =>
    (bv (fn_Mo_give σ5 r2) (fun σ7 =>
    (bv (fn_Mo_give σ7 r6) (fun σ8 =>
    (some σ8)))))))
    else
    (some σ1)))))
set_option maxRecDepth 100000 in
set_option maxHeartbeats 40000000 in
theorem c_Mo_tryPlaces (l : Launch) (D : va_G) (ca : Nat → ClassId) (ax : Nat → Nat → Nat) (b : Nat) (σ : mm_M) (a0 : Int32)  {σ' : mm_M} (hf : fn_Mo_tryPlaces σ a0 = some σ') : Met l y_Mo_tryPlaces w_Mo_tryPlaces rm_Mo_tryPlaces (pc_w D cls b N_M (ce_M ca b) (kM D ca ax b) [.ref (b + 0), .int a0] σ) (qc_v D cls b N_M (ce_M ca b) σ') 0 0 (mm_A b N_M) := by
  refine vv_go (cc := b_Mo_tryPlaces) (maxL := 4) (ret := none) (fin := σ') (k := fn_Mo_tryPlaces σ a0) (by decide) rfl (by simp [Value.category]) (Nat.le_of_ble_eq_true rfl) hf ?_
  intro p e s m below meth c hlocks hret S hKK
  unfold fn_Mo_tryPlaces
  refine v_aload_n S d_Mo_tryPlaces_0 rfl rfl ?_
  refine v_iconst S d_Mo_tryPlaces_1 (v := (3 : Int32)) (by decide) ?_
  refine v_ci (rest := []) (fun _ _ hg H locs ls hsz hP hS => run_V (As := [.int (3 : Int32)]) (rest := []) S kM_ok hKK (c_Mo_take l D ca ax b σ (3 : Int32) hg) (k_Mo_86 S.2.2.2.2 (fun _ => List.mem_cons_of_mem _) ⟨Nat.le_of_ble_eq_true rfl, Nat.le_of_ble_eq_true rfl⟩) (rc_w hKK.1 hP 0 (by decide) rfl rfl) rfl rfl (Nat.zero_le _) d_Mo_tryPlaces_2 hsz hP hS) (fun r2 σ1 _ => ?_)
  refine v_istore_nP S d_Mo_tryPlaces_5 rfl (by decide) (L2 := [some (.ref (b + 0)), some (.int a0), some (.int r2)]) rfl ?_
  refine v_iload_n S d_Mo_tryPlaces_6 rfl rfl ?_
  refine v_bipush S d_Mo_tryPlaces_7 (v := (15 : Int32)) (by decide) ?_
  refine v_icmp_ne S d_Mo_tryPlaces_9 (tgt := 25) (by decide) (fun h3 => ?_) (fun h3 => ?_)
  · refine v_iload_n S d_Mo_tryPlaces_25 rfl rfl ?_
    refine v_bipush S d_Mo_tryPlaces_26 (v := (16 : Int32)) (by decide) ?_
    refine v_icmp_ne S d_Mo_tryPlaces_28 (tgt := 47) (by decide) (fun h4 => ?_) (fun h4 => ?_)
    · exact v_vret S hret hlocks d_Mo_tryPlaces_47
    · refine v_aload_n S d_Mo_tryPlaces_31 rfl rfl ?_
      refine v_iconst S d_Mo_tryPlaces_32 (v := (3 : Int32)) (by decide) ?_
      refine v_ci (rest := []) (fun _ _ hg H locs ls hsz hP hS => run_V (As := [.int (3 : Int32)]) (rest := []) S kM_ok hKK (c_Mo_take l D ca ax b σ1 (3 : Int32) hg) (k_Mo_86 S.2.2.2.2 (fun _ => List.mem_cons_of_mem _) ⟨Nat.le_of_ble_eq_true rfl, Nat.le_of_ble_eq_true rfl⟩) (rc_w hKK.1 hP 0 (by decide) rfl rfl) rfl rfl (Nat.zero_le _) d_Mo_tryPlaces_33 hsz hP hS) (fun r6 σ5 _ => ?_)
      refine v_istore_nP S d_Mo_tryPlaces_36 rfl (by decide) (L2 := [some (.ref (b + 0)), some (.int a0), some (.int r2), some (.int r6)]) rfl ?_
      refine v_aload_n S d_Mo_tryPlaces_37 rfl rfl ?_
      refine v_iload_n S d_Mo_tryPlaces_38 rfl rfl ?_
      refine v_cv (rest := []) (fun _ hg H locs ls hsz hP hS => run_V (As := [.int r2]) (rest := []) S kM_ok hKK (c_Mo_give l D ca ax b σ5 r2 hg) (k_Mo_90 S.2.2.2.2 (fun _ => List.mem_cons_of_mem _) ⟨Nat.le_of_ble_eq_true rfl, Nat.le_of_ble_eq_true rfl⟩) (rc_w hKK.1 hP 0 (by decide) rfl rfl) rfl rfl (Nat.zero_le _) d_Mo_tryPlaces_39 hsz hP hS) (fun σ7 _ => ?_)
      refine v_aload_n S d_Mo_tryPlaces_42 rfl rfl ?_
      refine v_iload_n S d_Mo_tryPlaces_43 rfl rfl ?_
      refine v_cv (rest := []) (fun _ hg H locs ls hsz hP hS => run_V (As := [.int r6]) (rest := []) S kM_ok hKK (c_Mo_give l D ca ax b σ7 r6 hg) (k_Mo_90 S.2.2.2.2 (fun _ => List.mem_cons_of_mem _) ⟨Nat.le_of_ble_eq_true rfl, Nat.le_of_ble_eq_true rfl⟩) (rc_w hKK.1 hP 0 (by decide) rfl rfl) rfl rfl (Nat.zero_le _) d_Mo_tryPlaces_44 hsz hP hS) (fun σ8 _ => ?_)
      exact v_vret S hret hlocks d_Mo_tryPlaces_47
  · refine v_aload_n S d_Mo_tryPlaces_12 rfl rfl ?_
    refine v_iload_n S d_Mo_tryPlaces_13 rfl rfl ?_
    refine v_cv (rest := []) (fun _ hg H locs ls hsz hP hS => run_V (As := [.int r2]) (rest := []) S kM_ok hKK (c_Mo_give l D ca ax b σ1 r2 hg) (k_Mo_90 S.2.2.2.2 (fun _ => List.mem_cons_of_mem _) ⟨Nat.le_of_ble_eq_true rfl, Nat.le_of_ble_eq_true rfl⟩) (rc_w hKK.1 hP 0 (by decide) rfl rfl) rfl rfl (Nat.zero_le _) d_Mo_tryPlaces_14 hsz hP hS) (fun σ9 _ => ?_)
    refine v_aload_n S d_Mo_tryPlaces_17 rfl rfl ?_
    refine v_iload_n S d_Mo_tryPlaces_18 rfl rfl ?_
    refine v_cv (rest := []) (fun _ hg H locs ls hsz hP hS => run_V (As := [.int r2]) (rest := []) S kM_ok hKK (c_Mo_give l D ca ax b σ9 r2 hg) (k_Mo_90 S.2.2.2.2 (fun _ => List.mem_cons_of_mem _) ⟨Nat.le_of_ble_eq_true rfl, Nat.le_of_ble_eq_true rfl⟩) (rc_w hKK.1 hP 0 (by decide) rfl rfl) rfl rfl (Nat.zero_le _) d_Mo_tryPlaces_19 hsz hP hS) (fun σ10 _ => ?_)
    refine v_goto S d_Mo_tryPlaces_22 (tgt := 47) (by decide) ?_
    exact v_vret S hret hlocks d_Mo_tryPlaces_47
def fn_Mo_tryCall_33 (a0 : Int32) : Nat → mm_M → Int32 → Option (mm_M)
  | 0, _, _ => none
  | n + 1, σ, l2 =>
    (if l2 < 0 then
    (bd (fn_Mo_kindOf σ a0 (3 : Int32)) (fun r11 σ10 =>
    (bv (fn_Mo_give σ10 r11) (fun σ12 =>
    (some σ12)))))
    else
    (bd (fn_Mo_kindOf σ a0 l2) (fun r14 σ13 =>
    (bd (fn_Mo_take σ13 r14) (fun r16 σ15 =>
    (fn_Mo_tryCall_33 a0 n σ15 (l2 + (-1 : Int32))))))))
def fn_Mo_tryCall (σ : mm_M) (a0 : Int32) : Option (mm_M) :=
    (if a0 < 0 then
    (nm (mw σ 0 13 (1 : Int32)) (fun σ2 =>
    (some σ2)))
    else
    (if (3 : Int32) < a0 then
    (nm (mw σ 0 13 (1 : Int32)) (fun σ4 =>
    (some σ4)))
    else
    (if (a0 < 0 ∨ 4 ≤ a0.toNatClampNeg) then none else
    (if (σ 3 a0.toNatClampNeg) = 0 then
    (nm (mw σ 0 13 (1 : Int32)) (fun σ18 =>
    (some σ18)))
    else
    (if (a0 < 0 ∨ 4 ≤ a0.toNatClampNeg) then none else
    (nm ((σ 5 a0.toNatClampNeg) - (1 : Int32)) (fun x8 =>
    (fn_Mo_tryCall_33 a0 fuel0 σ x8))))))))
set_option maxRecDepth 100000 in
set_option maxHeartbeats 40000000 in
theorem c_Mo_tryCall (l : Launch) (D : va_G) (ca : Nat → ClassId) (ax : Nat → Nat → Nat) (b : Nat) (σ : mm_M) (a0 : Int32)  {σ' : mm_M} (hf : fn_Mo_tryCall σ a0 = some σ') : Met l y_Mo_tryCall w_Mo_tryCall rm_Mo_tryCall (pc_w D cls b N_M (ce_M ca b) (kM D ca ax b) [.ref (b + 0), .int a0] σ) (qc_v D cls b N_M (ce_M ca b) σ') 0 0 (mm_A b N_M) := by
  refine vv_go (cc := b_Mo_tryCall) (maxL := 4) (ret := none) (fin := σ') (k := fn_Mo_tryCall σ a0) (by decide) rfl (by simp [Value.category]) (Nat.le_of_ble_eq_true rfl) hf ?_
  intro p e s m below meth c hlocks hret S hKK
  have C33 : ∀ (n : Nat) (σ : mm_M) (l2 : Int32), vv p l e (headSpec w_Mo_tryCall rm_Mo_tryCall).room s m [.ref (b + 0), .int a0].toArray below meth c D cls b N_M (ce_M ca b) 4 (MQ below (qc_v D cls b N_M (ce_M ca b) σ') [.ref (b + 0), .int a0].toArray s 0 0 (mm_A b N_M)) σ' (fn_Mo_tryCall_33 a0 n σ l2) σ 33 [some (.ref (b + 0)), some (.int a0), some (.int l2)] [] := by
    intro n
    induction n with
    | zero => intro σ l2  h; cases h
    | succ n ih =>
      intro σ l2
      show vv p l e (headSpec w_Mo_tryCall rm_Mo_tryCall).room s m [.ref (b + 0), .int a0].toArray below meth c D cls b N_M (ce_M ca b) 4 (MQ below (qc_v D cls b N_M (ce_M ca b) σ') [.ref (b + 0), .int a0].toArray s 0 0 (mm_A b N_M)) σ' (        (if l2 < 0 then
        (bd (fn_Mo_kindOf σ a0 (3 : Int32)) (fun r11 σ10 =>
        (bv (fn_Mo_give σ10 r11) (fun σ12 =>
        (some σ12)))))
        else
        (bd (fn_Mo_kindOf σ a0 l2) (fun r14 σ13 =>
        (bd (fn_Mo_take σ13 r14) (fun r16 σ15 =>
        (fn_Mo_tryCall_33 a0 n σ15 (l2 + (-1 : Int32))))))))) σ 33 [some (.ref (b + 0)), some (.int a0), some (.int l2)] []
      refine v_iload_n S d_Mo_tryCall_33 rfl rfl ?_
      refine v_if_lt S d_Mo_tryCall_34 (tgt := 54) (by decide) (fun h9 => ?_) (fun h9 => ?_)
      · refine v_aload_n S d_Mo_tryCall_54 rfl rfl ?_
        refine v_aload_n S d_Mo_tryCall_55 rfl rfl ?_
        refine v_iload_n S d_Mo_tryCall_56 rfl rfl ?_
        refine v_iconst S d_Mo_tryCall_57 (v := (3 : Int32)) (by decide) ?_
        refine v_ci (rest := [.ref (b + 0)]) (fun _ _ hg H locs ls hsz hP hS => run_V (As := [.int a0, .int (3 : Int32)]) (rest := [.ref (b + 0)]) S kM_ok hKK (c_Mo_kindOf l D ca ax b σ a0 (3 : Int32) hg) (k_Mo_110 S.2.2.2.2 (fun _ => List.mem_cons_of_mem _) ⟨Nat.le_of_ble_eq_true rfl, Nat.le_of_ble_eq_true rfl⟩) (rc_w hKK.1 hP 0 (by decide) rfl rfl) rfl rfl (by simp [Value.category]) d_Mo_tryCall_58 hsz hP hS) (fun r11 σ10 _ => ?_)
        refine v_cv (rest := []) (fun _ hg H locs ls hsz hP hS => run_V (As := [.int r11]) (rest := []) S kM_ok hKK (c_Mo_give l D ca ax b σ10 r11 hg) (k_Mo_90 S.2.2.2.2 (fun _ => List.mem_cons_of_mem _) ⟨Nat.le_of_ble_eq_true rfl, Nat.le_of_ble_eq_true rfl⟩) (rc_w hKK.1 hP 0 (by decide) rfl rfl) rfl rfl (Nat.zero_le _) d_Mo_tryCall_61 hsz hP hS) (fun σ12 _ => ?_)
        exact v_vret S hret hlocks d_Mo_tryCall_64
      · refine v_aload_n S d_Mo_tryCall_37 rfl rfl ?_
        refine v_aload_n S d_Mo_tryCall_38 rfl rfl ?_
        refine v_iload_n S d_Mo_tryCall_39 rfl rfl ?_
        refine v_iload_n S d_Mo_tryCall_40 rfl rfl ?_
        refine v_ci (rest := [.ref (b + 0)]) (fun _ _ hg H locs ls hsz hP hS => run_V (As := [.int a0, .int l2]) (rest := [.ref (b + 0)]) S kM_ok hKK (c_Mo_kindOf l D ca ax b σ a0 l2 hg) (k_Mo_110 S.2.2.2.2 (fun _ => List.mem_cons_of_mem _) ⟨Nat.le_of_ble_eq_true rfl, Nat.le_of_ble_eq_true rfl⟩) (rc_w hKK.1 hP 0 (by decide) rfl rfl) rfl rfl (by simp [Value.category]) d_Mo_tryCall_41 hsz hP hS) (fun r14 σ13 _ => ?_)
        refine v_ci (rest := []) (fun _ _ hg H locs ls hsz hP hS => run_V (As := [.int r14]) (rest := []) S kM_ok hKK (c_Mo_take l D ca ax b σ13 r14 hg) (k_Mo_86 S.2.2.2.2 (fun _ => List.mem_cons_of_mem _) ⟨Nat.le_of_ble_eq_true rfl, Nat.le_of_ble_eq_true rfl⟩) (rc_w hKK.1 hP 0 (by decide) rfl rfl) rfl rfl (Nat.zero_le _) d_Mo_tryCall_44 hsz hP hS) (fun r16 σ15 _ => ?_)
        refine v_istore_nP S d_Mo_tryCall_47 rfl (by decide) (L2 := [some (.ref (b + 0)), some (.int a0), some (.int l2), some (.int r16)]) rfl ?_
        refine v_iinc S d_Mo_tryCall_48 rfl (v := (l2 + (-1 : Int32))) (by first | rfl | decide) (by decide) (L2 := [some (.ref (b + 0)), some (.int a0), some (.int (l2 + (-1 : Int32))), some (.int r16)]) rfl ?_
        refine v_goto S d_Mo_tryCall_51 (tgt := 33) (by decide) ?_
        refine v_sub (L2 := [some (.ref (b + 0)), some (.int a0), some (.int (l2 + (-1 : Int32)))]) (And.intro rfl (And.intro rfl (And.intro rfl True.intro))) ?_
        exact ih σ15 (l2 + (-1 : Int32))
  unfold fn_Mo_tryCall
  refine v_iload_n S d_Mo_tryCall_0 rfl rfl ?_
  refine v_if_lt S d_Mo_tryCall_1 (tgt := 18) (by decide) (fun h1 => ?_) (fun h1 => ?_)
  · refine v_aload_n S d_Mo_tryCall_18 rfl rfl ?_
    refine v_iconst S d_Mo_tryCall_19 (v := (1 : Int32)) (by decide) ?_
    refine v_puti S (fun w h => List.mem_cons_of_mem _ (i_Mo w h)) hKK.1 0 (by decide) rfl rfl 13 (by decide) (S.2.2.2.2 _ (List.mem_cons_of_mem _ (wd_754))) (fun _ h => h) t_Mo t_Mo_ok n_Mo rfl (ty := .boolean) rfl rfl rfl (Nat.le_of_ble_eq_true rfl) rfl d_Mo_tryCall_20 ?_
    refine v_sg (fun σ2 eσ2 => ?_)
    exact v_vret S hret hlocks d_Mo_tryCall_23
  · refine v_iload_n S d_Mo_tryCall_4 rfl rfl ?_
    refine v_iconst S d_Mo_tryCall_5 (v := (3 : Int32)) (by decide) ?_
    refine v_icmp_gt S d_Mo_tryCall_6 (tgt := 18) (by decide) (fun h3 => ?_) (fun h3 => ?_)
    · refine v_aload_n S d_Mo_tryCall_18 rfl rfl ?_
      refine v_iconst S d_Mo_tryCall_19 (v := (1 : Int32)) (by decide) ?_
      refine v_puti S (fun w h => List.mem_cons_of_mem _ (i_Mo w h)) hKK.1 0 (by decide) rfl rfl 13 (by decide) (S.2.2.2.2 _ (List.mem_cons_of_mem _ (wd_754))) (fun _ h => h) t_Mo t_Mo_ok n_Mo rfl (ty := .boolean) rfl rfl rfl (Nat.le_of_ble_eq_true rfl) rfl d_Mo_tryCall_20 ?_
      refine v_sg (fun σ4 eσ4 => ?_)
      exact v_vret S hret hlocks d_Mo_tryCall_23
    · refine v_aload_n S d_Mo_tryCall_9 rfl rfl ?_
      refine v_get S (fun w h => List.mem_cons_of_mem _ (i_Mo w h)) hKK.1 0 (by decide) rfl rfl 3 (by decide) (S.2.2.2.2 _ (List.mem_cons_of_mem _ (wd_744))) (fun _ h => h) rfl d_Mo_tryCall_10 ?_
      refine v_iload_n S d_Mo_tryCall_13 rfl rfl ?_
      refine v_zald S hKK.1 3 1 (by decide) rfl rfl d_Mo_tryCall_14 (fun h5 => ?_)
      refine v_if_ne S d_Mo_tryCall_15 (tgt := 24) (by decide) (fun h6 => ?_) (fun h6 => ?_)
      · refine v_aload_n S d_Mo_tryCall_24 rfl rfl ?_
        refine v_get S (fun w h => List.mem_cons_of_mem _ (i_Mo w h)) hKK.1 0 (by decide) rfl rfl 5 (by decide) (S.2.2.2.2 _ (List.mem_cons_of_mem _ (wd_746))) (fun _ h => h) rfl d_Mo_tryCall_25 ?_
        refine v_iload_n S d_Mo_tryCall_28 rfl rfl ?_
        refine v_iald S hKK.1 5 0 (by decide) rfl rfl d_Mo_tryCall_29 (fun h7 => ?_)
        refine v_iconst S d_Mo_tryCall_30 (v := (1 : Int32)) (by decide) ?_
        refine v_isub S d_Mo_tryCall_31 ?_
        refine v_top (fun x8 ex8 => ?_)
        refine v_istore_nP S d_Mo_tryCall_32 rfl (by decide) (L2 := [some (.ref (b + 0)), some (.int a0), some (.int x8)]) rfl ?_
        refine v_sub (L2 := [some (.ref (b + 0)), some (.int a0), some (.int x8)]) (And.intro rfl (And.intro rfl (And.intro rfl True.intro))) ?_
        exact C33 fuel0 σ x8
      · refine v_aload_n S d_Mo_tryCall_18 rfl rfl ?_
        refine v_iconst S d_Mo_tryCall_19 (v := (1 : Int32)) (by decide) ?_
        refine v_puti S (fun w h => List.mem_cons_of_mem _ (i_Mo w h)) hKK.1 0 (by decide) rfl rfl 13 (by decide) (S.2.2.2.2 _ (List.mem_cons_of_mem _ (wd_754))) (fun _ h => h) t_Mo t_Mo_ok n_Mo rfl (ty := .boolean) rfl rfl rfl (Nat.le_of_ble_eq_true rfl) rfl d_Mo_tryCall_20 ?_
        refine v_sg (fun σ18 eσ18 => ?_)
        exact v_vret S hret hlocks d_Mo_tryCall_23
end
section
/-! contracts of 20.model; written by wip/whole/make.py -/
def fn_Mo_tryOut_214 (a0 : Int32) (a1 : Int32) (σ : mm_M)  : Option (mm_M) :=
    (if (σ 0 13) = 0 then
    (if (σ 0 14) = 0 then
    (nm (mw σ 0 13 (0 : Int32)) (fun σ17 =>
    (some σ17)))
    else
    (bd (fn_Mo_isAddress σ (a1 + (1 : Int32))) (fun r19 σ18 =>
    (if r19 = 0 then
    (nm (mw σ18 0 13 (1 : Int32)) (fun σ22 =>
    (some σ22)))
    else
    (nm (mw σ18 0 13 (0 : Int32)) (fun σ21 =>
    (some σ21)))))))
    else
    (nm (mw σ 0 13 (1 : Int32)) (fun σ15 =>
    (some σ15))))
def fn_Mo_tryOut_101 (a0 : Int32) (a1 : Int32) (σ : mm_M) (l3 : Int32) (l4 : Int32) : Option (mm_M) :=
    (bv (fn_Mo_tryLocal σ l3 l4) (fun σ13 =>
    (fn_Mo_tryOut_214 a0 a1 σ13)))
def fn_Mo_tryOut_173 (a0 : Int32) (a1 : Int32) (σ : mm_M) (l3 : Int32) (l4 : Int32) : Option (mm_M) :=
    (if l3 = (18 : Int32) then
    (bv (fn_Mo_tryCall σ l4) (fun σ34 =>
    (fn_Mo_tryOut_214 a0 a1 σ34)))
    else
    (if l3 = (19 : Int32) then
    (bd (fn_Mo_kindOf σ a0 (3 : Int32)) (fun r31 σ30 =>
    (bd (fn_Mo_take σ30 r31) (fun r33 σ32 =>
    (fn_Mo_tryOut_214 a0 a1 σ32)))))
    else
    (nm (mw σ 0 13 (1 : Int32)) (fun σ29 =>
    (fn_Mo_tryOut_214 a0 a1 σ29)))))
def fn_Mo_tryOut_153 (a0 : Int32) (a1 : Int32) (σ : mm_M) (l3 : Int32) (l4 : Int32) : Option (mm_M) :=
    (if l3 < (15 : Int32) then
    (fn_Mo_tryOut_173 a0 a1 σ l3 l4)
    else
    (if (17 : Int32) < l3 then
    (fn_Mo_tryOut_173 a0 a1 σ l3 l4)
    else
    (bv (fn_Mo_tryPlaces σ l3) (fun σ36 =>
    (fn_Mo_tryOut_214 a0 a1 σ36)))))
def fn_Mo_tryOut_133 (a0 : Int32) (a1 : Int32) (σ : mm_M) (l3 : Int32) (l4 : Int32) : Option (mm_M) :=
    (if l3 < (12 : Int32) then
    (fn_Mo_tryOut_153 a0 a1 σ l3 l4)
    else
    (if (14 : Int32) < l3 then
    (fn_Mo_tryOut_153 a0 a1 σ l3 l4)
    else
    (bv (fn_Mo_tryArray σ l3) (fun σ38 =>
    (fn_Mo_tryOut_214 a0 a1 σ38)))))
def fn_Mo_tryOut_78 (a0 : Int32) (a1 : Int32) (σ : mm_M) (l3 : Int32) (l4 : Int32) : Option (mm_M) :=
    (if l3 = 0 then
    (bv (fn_Mo_give σ (1 : Int32)) (fun σ41 =>
    (fn_Mo_tryOut_214 a0 a1 σ41)))
    else
    (if l3 = (5 : Int32) then
    (fn_Mo_tryOut_101 a0 a1 σ l3 l4)
    else
    (if l3 = (6 : Int32) then
    (fn_Mo_tryOut_101 a0 a1 σ l3 l4)
    else
    (if l3 < (7 : Int32) then
    (fn_Mo_tryOut_133 a0 a1 σ l3 l4)
    else
    (if (11 : Int32) < l3 then
    (fn_Mo_tryOut_133 a0 a1 σ l3 l4)
    else
    (bv (fn_Mo_tryGo σ l3 l4) (fun σ40 =>
    (fn_Mo_tryOut_214 a0 a1 σ40))))))))
def fn_Mo_tryOut_38 (a0 : Int32) (a1 : Int32) (σ : mm_M) (l3 : Int32) (l4 : Int32) (s0 : Int32) : Option (mm_M) :=
    (if s0 = 0 ∨ s0 = 1 then
    (nm (mw σ 0 14 s0) (fun σ7 =>
    (nm (mw σ7 0 15 (-1 : Int32)) (fun σ9 =>
    (if l3 < (1 : Int32) then
    (fn_Mo_tryOut_78 a0 a1 σ9 l3 l4)
    else
    (if (4 : Int32) < l3 then
    (fn_Mo_tryOut_78 a0 a1 σ9 l3 l4)
    else
    (bd (fn_Mo_take σ9 (1 : Int32)) (fun r44 σ43 =>
    (bd (fn_Mo_take σ43 (1 : Int32)) (fun r46 σ45 =>
    (bv (fn_Mo_give σ45 (1 : Int32)) (fun σ47 =>
    (fn_Mo_tryOut_214 a0 a1 σ47)))))))))))))
    else none)
def fn_Mo_tryOut_37 (a0 : Int32) (a1 : Int32) (σ : mm_M) (l3 : Int32) (l4 : Int32) : Option (mm_M) :=
    (fn_Mo_tryOut_38 a0 a1 σ l3 l4 (0 : Int32))
def fn_Mo_tryOut (σ : mm_M) (a0 : Int32) (a1 : Int32) : Option (mm_M) :=
    (if (a1 < 0 ∨ 100 ≤ a1.toNatClampNeg) then none else
    (nm (σ 1 a1.toNatClampNeg) (fun x2 =>
    (if (a1 < 0 ∨ 100 ≤ a1.toNatClampNeg) then none else
    (nm (σ 2 a1.toNatClampNeg) (fun x4 =>
    (nm (mw σ 0 13 (0 : Int32)) (fun σ5 =>
    (if x2 = (7 : Int32) then
    (fn_Mo_tryOut_37 a0 a1 σ5 x2 x4)
    else
    (if x2 = (19 : Int32) then
    (fn_Mo_tryOut_37 a0 a1 σ5 x2 x4)
    else
    (fn_Mo_tryOut_38 a0 a1 σ5 x2 x4 (1 : Int32))))))))))))
set_option maxRecDepth 100000 in
set_option maxHeartbeats 40000000 in
theorem c_Mo_tryOut (l : Launch) (D : va_G) (ca : Nat → ClassId) (ax : Nat → Nat → Nat) (b : Nat) (σ : mm_M) (a0 : Int32) (a1 : Int32)  {σ' : mm_M} (hf : fn_Mo_tryOut σ a0 a1 = some σ') : Met l y_Mo_tryOut w_Mo_tryOut rm_Mo_tryOut (pc_w D cls b N_M (ce_M ca b) (kM D ca ax b) [.ref (b + 0), .int a0, .int a1] σ) (qc_v D cls b N_M (ce_M ca b) σ') 0 0 (mm_A b N_M) := by
  refine vv_go (cc := b_Mo_tryOut) (maxL := 7) (ret := none) (fin := σ') (k := fn_Mo_tryOut σ a0 a1) (by decide) rfl (by simp [Value.category]) (Nat.le_of_ble_eq_true rfl) hf ?_
  intro p e s m below meth c hlocks hret S hKK
  have C214 : ∀ (σ : mm_M) , vv p l e (headSpec w_Mo_tryOut rm_Mo_tryOut).room s m [.ref (b + 0), .int a0, .int a1].toArray below meth c D cls b N_M (ce_M ca b) 7 (MQ below (qc_v D cls b N_M (ce_M ca b) σ') [.ref (b + 0), .int a0, .int a1].toArray s 0 0 (mm_A b N_M)) σ' (fn_Mo_tryOut_214 a0 a1 σ ) σ 214 [some (.ref (b + 0)), none, some (.int a1)] [] := by
    intro σ
    unfold fn_Mo_tryOut_214
    refine v_aload_n S d_Mo_tryOut_214 rfl rfl ?_
    refine v_aload_n S d_Mo_tryOut_215 rfl rfl ?_
    refine v_get S (fun w h => List.mem_cons_of_mem _ (i_Mo w h)) hKK.1 0 (by decide) rfl rfl 13 (by decide) (S.2.2.2.2 _ (List.mem_cons_of_mem _ (wd_754))) (fun _ h => h) rfl d_Mo_tryOut_216 ?_
    refine v_if_ne S d_Mo_tryOut_219 (tgt := 239) (by decide) (fun h14 => ?_) (fun h14 => ?_)
    · refine v_iconst S d_Mo_tryOut_239 (v := (1 : Int32)) (by decide) ?_
      refine v_goto S d_Mo_tryOut_240 (tgt := 244) (by decide) ?_
      refine v_puti S (fun w h => List.mem_cons_of_mem _ (i_Mo w h)) hKK.1 0 (by decide) rfl rfl 13 (by decide) (S.2.2.2.2 _ (List.mem_cons_of_mem _ (wd_754))) (fun _ h => h) t_Mo t_Mo_ok n_Mo rfl (ty := .boolean) rfl rfl rfl (Nat.le_of_ble_eq_true rfl) rfl d_Mo_tryOut_244 ?_
      refine v_sg (fun σ15 eσ15 => ?_)
      exact v_vret S hret hlocks d_Mo_tryOut_247
    · refine v_aload_n S d_Mo_tryOut_222 rfl rfl ?_
      refine v_get S (fun w h => List.mem_cons_of_mem _ (i_Mo w h)) hKK.1 0 (by decide) rfl rfl 14 (by decide) (S.2.2.2.2 _ (List.mem_cons_of_mem _ (wd_755))) (fun _ h => h) rfl d_Mo_tryOut_223 ?_
      refine v_if_eq S d_Mo_tryOut_226 (tgt := 243) (by decide) (fun h16 => ?_) (fun h16 => ?_)
      · refine v_iconst S d_Mo_tryOut_243 (v := (0 : Int32)) (by decide) ?_
        refine v_puti S (fun w h => List.mem_cons_of_mem _ (i_Mo w h)) hKK.1 0 (by decide) rfl rfl 13 (by decide) (S.2.2.2.2 _ (List.mem_cons_of_mem _ (wd_754))) (fun _ h => h) t_Mo t_Mo_ok n_Mo rfl (ty := .boolean) rfl rfl rfl (Nat.le_of_ble_eq_true rfl) rfl d_Mo_tryOut_244 ?_
        refine v_sg (fun σ17 eσ17 => ?_)
        exact v_vret S hret hlocks d_Mo_tryOut_247
      · refine v_aload_n S d_Mo_tryOut_229 rfl rfl ?_
        refine v_iload_n S d_Mo_tryOut_230 rfl rfl ?_
        refine v_iconst S d_Mo_tryOut_231 (v := (1 : Int32)) (by decide) ?_
        refine v_iadd S d_Mo_tryOut_232 ?_
        refine v_ci (rest := [.ref (b + 0)]) (fun _ _ hg H locs ls hsz hP hS => run_V (As := [.int (a1 + (1 : Int32))]) (rest := [.ref (b + 0)]) S kM_ok hKK (c_Mo_isAddress l D ca ax b σ (a1 + (1 : Int32)) hg) (k_Mo_76 S.2.2.2.2 (fun _ => List.mem_cons_of_mem _) ⟨Nat.le_of_ble_eq_true rfl, Nat.le_of_ble_eq_true rfl⟩) (rc_w hKK.1 hP 0 (by decide) rfl rfl) rfl rfl (by simp [Value.category]) d_Mo_tryOut_233 hsz hP hS) (fun r19 σ18 _ => ?_)
        refine v_if_ne S d_Mo_tryOut_236 (tgt := 243) (by decide) (fun h20 => ?_) (fun h20 => ?_)
        · refine v_iconst S d_Mo_tryOut_243 (v := (0 : Int32)) (by decide) ?_
          refine v_puti S (fun w h => List.mem_cons_of_mem _ (i_Mo w h)) hKK.1 0 (by decide) rfl rfl 13 (by decide) (S.2.2.2.2 _ (List.mem_cons_of_mem _ (wd_754))) (fun _ h => h) t_Mo t_Mo_ok n_Mo rfl (ty := .boolean) rfl rfl rfl (Nat.le_of_ble_eq_true rfl) rfl d_Mo_tryOut_244 ?_
          refine v_sg (fun σ21 eσ21 => ?_)
          exact v_vret S hret hlocks d_Mo_tryOut_247
        · refine v_iconst S d_Mo_tryOut_239 (v := (1 : Int32)) (by decide) ?_
          refine v_goto S d_Mo_tryOut_240 (tgt := 244) (by decide) ?_
          refine v_puti S (fun w h => List.mem_cons_of_mem _ (i_Mo w h)) hKK.1 0 (by decide) rfl rfl 13 (by decide) (S.2.2.2.2 _ (List.mem_cons_of_mem _ (wd_754))) (fun _ h => h) t_Mo t_Mo_ok n_Mo rfl (ty := .boolean) rfl rfl rfl (Nat.le_of_ble_eq_true rfl) rfl d_Mo_tryOut_244 ?_
          refine v_sg (fun σ22 eσ22 => ?_)
          exact v_vret S hret hlocks d_Mo_tryOut_247
  have C101 : ∀ (σ : mm_M) (l3 : Int32) (l4 : Int32), vv p l e (headSpec w_Mo_tryOut rm_Mo_tryOut).room s m [.ref (b + 0), .int a0, .int a1].toArray below meth c D cls b N_M (ce_M ca b) 7 (MQ below (qc_v D cls b N_M (ce_M ca b) σ') [.ref (b + 0), .int a0, .int a1].toArray s 0 0 (mm_A b N_M)) σ' (fn_Mo_tryOut_101 a0 a1 σ l3 l4) σ 101 [some (.ref (b + 0)), none, some (.int a1), some (.int l3), some (.int l4)] [] := by
    intro σ l3 l4
    unfold fn_Mo_tryOut_101
    refine v_aload_n S d_Mo_tryOut_101 rfl rfl ?_
    refine v_iload_n S d_Mo_tryOut_102 rfl rfl ?_
    refine v_iload S d_Mo_tryOut_103 rfl ?_
    refine v_cv (rest := []) (fun _ hg H locs ls hsz hP hS => run_V (As := [.int l3, .int l4]) (rest := []) S kM_ok hKK (c_Mo_tryLocal l D ca ax b σ l3 l4 hg) (k_Mo_94 S.2.2.2.2 (fun _ => List.mem_cons_of_mem _) ⟨Nat.le_of_ble_eq_true rfl, Nat.le_of_ble_eq_true rfl⟩) (rc_w hKK.1 hP 0 (by decide) rfl rfl) rfl rfl (Nat.zero_le _) d_Mo_tryOut_105 hsz hP hS) (fun σ13 _ => ?_)
    refine v_goto S d_Mo_tryOut_108 (tgt := 214) (by decide) ?_
    refine v_sub (L2 := [some (.ref (b + 0)), none, some (.int a1)]) (And.intro rfl (And.intro rfl True.intro)) ?_
    exact C214 σ13
  have C173 : ∀ (σ : mm_M) (l3 : Int32) (l4 : Int32), vv p l e (headSpec w_Mo_tryOut rm_Mo_tryOut).room s m [.ref (b + 0), .int a0, .int a1].toArray below meth c D cls b N_M (ce_M ca b) 7 (MQ below (qc_v D cls b N_M (ce_M ca b) σ') [.ref (b + 0), .int a0, .int a1].toArray s 0 0 (mm_A b N_M)) σ' (fn_Mo_tryOut_173 a0 a1 σ l3 l4) σ 173 [some (.ref (b + 0)), some (.int a0), some (.int a1), some (.int l3), some (.int l4)] [] := by
    intro σ l3 l4
    unfold fn_Mo_tryOut_173
    refine v_iload_n S d_Mo_tryOut_173 rfl rfl ?_
    refine v_bipush S d_Mo_tryOut_174 (v := (18 : Int32)) (by decide) ?_
    refine v_icmp_ne S d_Mo_tryOut_176 (tgt := 188) (by decide) (fun h27 => ?_) (fun h27 => ?_)
    · refine v_iload_n S d_Mo_tryOut_188 rfl rfl ?_
      refine v_bipush S d_Mo_tryOut_189 (v := (19 : Int32)) (by decide) ?_
      refine v_icmp_ne S d_Mo_tryOut_191 (tgt := 209) (by decide) (fun h28 => ?_) (fun h28 => ?_)
      · refine v_aload_n S d_Mo_tryOut_209 rfl rfl ?_
        refine v_iconst S d_Mo_tryOut_210 (v := (1 : Int32)) (by decide) ?_
        refine v_puti S (fun w h => List.mem_cons_of_mem _ (i_Mo w h)) hKK.1 0 (by decide) rfl rfl 13 (by decide) (S.2.2.2.2 _ (List.mem_cons_of_mem _ (wd_754))) (fun _ h => h) t_Mo t_Mo_ok n_Mo rfl (ty := .boolean) rfl rfl rfl (Nat.le_of_ble_eq_true rfl) rfl d_Mo_tryOut_211 ?_
        refine v_sg (fun σ29 eσ29 => ?_)
        refine v_sub (L2 := [some (.ref (b + 0)), none, some (.int a1)]) (And.intro rfl (And.intro rfl True.intro)) ?_
        exact C214 σ29
      · refine v_aload_n S d_Mo_tryOut_194 rfl rfl ?_
        refine v_aload_n S d_Mo_tryOut_195 rfl rfl ?_
        refine v_iload_n S d_Mo_tryOut_196 rfl rfl ?_
        refine v_iconst S d_Mo_tryOut_197 (v := (3 : Int32)) (by decide) ?_
        refine v_ci (rest := [.ref (b + 0)]) (fun _ _ hg H locs ls hsz hP hS => run_V (As := [.int a0, .int (3 : Int32)]) (rest := [.ref (b + 0)]) S kM_ok hKK (c_Mo_kindOf l D ca ax b σ a0 (3 : Int32) hg) (k_Mo_110 S.2.2.2.2 (fun _ => List.mem_cons_of_mem _) ⟨Nat.le_of_ble_eq_true rfl, Nat.le_of_ble_eq_true rfl⟩) (rc_w hKK.1 hP 0 (by decide) rfl rfl) rfl rfl (by simp [Value.category]) d_Mo_tryOut_198 hsz hP hS) (fun r31 σ30 _ => ?_)
        refine v_ci (rest := []) (fun _ _ hg H locs ls hsz hP hS => run_V (As := [.int r31]) (rest := []) S kM_ok hKK (c_Mo_take l D ca ax b σ30 r31 hg) (k_Mo_86 S.2.2.2.2 (fun _ => List.mem_cons_of_mem _) ⟨Nat.le_of_ble_eq_true rfl, Nat.le_of_ble_eq_true rfl⟩) (rc_w hKK.1 hP 0 (by decide) rfl rfl) rfl rfl (Nat.zero_le _) d_Mo_tryOut_201 hsz hP hS) (fun r33 σ32 _ => ?_)
        refine v_istoreP S d_Mo_tryOut_204 (by decide) (L2 := [some (.ref (b + 0)), some (.int a0), some (.int a1), some (.int l3), some (.int l4), some (.int r33)]) rfl ?_
        refine v_goto S d_Mo_tryOut_206 (tgt := 214) (by decide) ?_
        refine v_sub (L2 := [some (.ref (b + 0)), none, some (.int a1)]) (And.intro rfl (And.intro rfl True.intro)) ?_
        exact C214 σ32
    · refine v_aload_n S d_Mo_tryOut_179 rfl rfl ?_
      refine v_iload S d_Mo_tryOut_180 rfl ?_
      refine v_cv (rest := []) (fun _ hg H locs ls hsz hP hS => run_V (As := [.int l4]) (rest := []) S kM_ok hKK (c_Mo_tryCall l D ca ax b σ l4 hg) (k_Mo_107 S.2.2.2.2 (fun _ => List.mem_cons_of_mem _) ⟨Nat.le_of_ble_eq_true rfl, Nat.le_of_ble_eq_true rfl⟩) (rc_w hKK.1 hP 0 (by decide) rfl rfl) rfl rfl (Nat.zero_le _) d_Mo_tryOut_182 hsz hP hS) (fun σ34 _ => ?_)
      refine v_goto S d_Mo_tryOut_185 (tgt := 214) (by decide) ?_
      refine v_sub (L2 := [some (.ref (b + 0)), none, some (.int a1)]) (And.intro rfl (And.intro rfl True.intro)) ?_
      exact C214 σ34
  have C153 : ∀ (σ : mm_M) (l3 : Int32) (l4 : Int32), vv p l e (headSpec w_Mo_tryOut rm_Mo_tryOut).room s m [.ref (b + 0), .int a0, .int a1].toArray below meth c D cls b N_M (ce_M ca b) 7 (MQ below (qc_v D cls b N_M (ce_M ca b) σ') [.ref (b + 0), .int a0, .int a1].toArray s 0 0 (mm_A b N_M)) σ' (fn_Mo_tryOut_153 a0 a1 σ l3 l4) σ 153 [some (.ref (b + 0)), some (.int a0), some (.int a1), some (.int l3), some (.int l4)] [] := by
    intro σ l3 l4
    unfold fn_Mo_tryOut_153
    refine v_iload_n S d_Mo_tryOut_153 rfl rfl ?_
    refine v_bipush S d_Mo_tryOut_154 (v := (15 : Int32)) (by decide) ?_
    refine v_icmp_lt S d_Mo_tryOut_156 (tgt := 173) (by decide) (fun h26 => ?_) (fun h26 => ?_)
    · refine v_sub (L2 := [some (.ref (b + 0)), some (.int a0), some (.int a1), some (.int l3), some (.int l4)]) (And.intro rfl (And.intro rfl (And.intro rfl (And.intro rfl (And.intro rfl True.intro))))) ?_
      exact C173 σ l3 l4
    · refine v_iload_n S d_Mo_tryOut_159 rfl rfl ?_
      refine v_bipush S d_Mo_tryOut_160 (v := (17 : Int32)) (by decide) ?_
      refine v_icmp_gt S d_Mo_tryOut_162 (tgt := 173) (by decide) (fun h35 => ?_) (fun h35 => ?_)
      · refine v_sub (L2 := [some (.ref (b + 0)), some (.int a0), some (.int a1), some (.int l3), some (.int l4)]) (And.intro rfl (And.intro rfl (And.intro rfl (And.intro rfl (And.intro rfl True.intro))))) ?_
        exact C173 σ l3 l4
      · refine v_aload_n S d_Mo_tryOut_165 rfl rfl ?_
        refine v_iload_n S d_Mo_tryOut_166 rfl rfl ?_
        refine v_cv (rest := []) (fun _ hg H locs ls hsz hP hS => run_V (As := [.int l3]) (rest := []) S kM_ok hKK (c_Mo_tryPlaces l D ca ax b σ l3 hg) (k_Mo_104 S.2.2.2.2 (fun _ => List.mem_cons_of_mem _) ⟨Nat.le_of_ble_eq_true rfl, Nat.le_of_ble_eq_true rfl⟩) (rc_w hKK.1 hP 0 (by decide) rfl rfl) rfl rfl (Nat.zero_le _) d_Mo_tryOut_167 hsz hP hS) (fun σ36 _ => ?_)
        refine v_goto S d_Mo_tryOut_170 (tgt := 214) (by decide) ?_
        refine v_sub (L2 := [some (.ref (b + 0)), none, some (.int a1)]) (And.intro rfl (And.intro rfl True.intro)) ?_
        exact C214 σ36
  have C133 : ∀ (σ : mm_M) (l3 : Int32) (l4 : Int32), vv p l e (headSpec w_Mo_tryOut rm_Mo_tryOut).room s m [.ref (b + 0), .int a0, .int a1].toArray below meth c D cls b N_M (ce_M ca b) 7 (MQ below (qc_v D cls b N_M (ce_M ca b) σ') [.ref (b + 0), .int a0, .int a1].toArray s 0 0 (mm_A b N_M)) σ' (fn_Mo_tryOut_133 a0 a1 σ l3 l4) σ 133 [some (.ref (b + 0)), some (.int a0), some (.int a1), some (.int l3), some (.int l4)] [] := by
    intro σ l3 l4
    unfold fn_Mo_tryOut_133
    refine v_iload_n S d_Mo_tryOut_133 rfl rfl ?_
    refine v_bipush S d_Mo_tryOut_134 (v := (12 : Int32)) (by decide) ?_
    refine v_icmp_lt S d_Mo_tryOut_136 (tgt := 153) (by decide) (fun h25 => ?_) (fun h25 => ?_)
    · refine v_sub (L2 := [some (.ref (b + 0)), some (.int a0), some (.int a1), some (.int l3), some (.int l4)]) (And.intro rfl (And.intro rfl (And.intro rfl (And.intro rfl (And.intro rfl True.intro))))) ?_
      exact C153 σ l3 l4
    · refine v_iload_n S d_Mo_tryOut_139 rfl rfl ?_
      refine v_bipush S d_Mo_tryOut_140 (v := (14 : Int32)) (by decide) ?_
      refine v_icmp_gt S d_Mo_tryOut_142 (tgt := 153) (by decide) (fun h37 => ?_) (fun h37 => ?_)
      · refine v_sub (L2 := [some (.ref (b + 0)), some (.int a0), some (.int a1), some (.int l3), some (.int l4)]) (And.intro rfl (And.intro rfl (And.intro rfl (And.intro rfl (And.intro rfl True.intro))))) ?_
        exact C153 σ l3 l4
      · refine v_aload_n S d_Mo_tryOut_145 rfl rfl ?_
        refine v_iload_n S d_Mo_tryOut_146 rfl rfl ?_
        refine v_cv (rest := []) (fun _ hg H locs ls hsz hP hS => run_V (As := [.int l3]) (rest := []) S kM_ok hKK (c_Mo_tryArray l D ca ax b σ l3 hg) (k_Mo_101 S.2.2.2.2 (fun _ => List.mem_cons_of_mem _) ⟨Nat.le_of_ble_eq_true rfl, Nat.le_of_ble_eq_true rfl⟩) (rc_w hKK.1 hP 0 (by decide) rfl rfl) rfl rfl (Nat.zero_le _) d_Mo_tryOut_147 hsz hP hS) (fun σ38 _ => ?_)
        refine v_goto S d_Mo_tryOut_150 (tgt := 214) (by decide) ?_
        refine v_sub (L2 := [some (.ref (b + 0)), none, some (.int a1)]) (And.intro rfl (And.intro rfl True.intro)) ?_
        exact C214 σ38
  have C78 : ∀ (σ : mm_M) (l3 : Int32) (l4 : Int32), vv p l e (headSpec w_Mo_tryOut rm_Mo_tryOut).room s m [.ref (b + 0), .int a0, .int a1].toArray below meth c D cls b N_M (ce_M ca b) 7 (MQ below (qc_v D cls b N_M (ce_M ca b) σ') [.ref (b + 0), .int a0, .int a1].toArray s 0 0 (mm_A b N_M)) σ' (fn_Mo_tryOut_78 a0 a1 σ l3 l4) σ 78 [some (.ref (b + 0)), some (.int a0), some (.int a1), some (.int l3), some (.int l4)] [] := by
    intro σ l3 l4
    unfold fn_Mo_tryOut_78
    refine v_iload_n S d_Mo_tryOut_78 rfl rfl ?_
    refine v_if_ne S d_Mo_tryOut_79 (tgt := 90) (by decide) (fun h11 => ?_) (fun h11 => ?_)
    · refine v_iload_n S d_Mo_tryOut_90 rfl rfl ?_
      refine v_iconst S d_Mo_tryOut_91 (v := (5 : Int32)) (by decide) ?_
      refine v_icmp_eq S d_Mo_tryOut_92 (tgt := 101) (by decide) (fun h12 => ?_) (fun h12 => ?_)
      · refine v_sub (L2 := [some (.ref (b + 0)), none, some (.int a1), some (.int l3), some (.int l4)]) (And.intro rfl (And.intro rfl (And.intro rfl (And.intro rfl True.intro)))) ?_
        exact C101 σ l3 l4
      · refine v_iload_n S d_Mo_tryOut_95 rfl rfl ?_
        refine v_bipush S d_Mo_tryOut_96 (v := (6 : Int32)) (by decide) ?_
        refine v_icmp_ne S d_Mo_tryOut_98 (tgt := 111) (by decide) (fun h23 => ?_) (fun h23 => ?_)
        · refine v_iload_n S d_Mo_tryOut_111 rfl rfl ?_
          refine v_bipush S d_Mo_tryOut_112 (v := (7 : Int32)) (by decide) ?_
          refine v_icmp_lt S d_Mo_tryOut_114 (tgt := 133) (by decide) (fun h24 => ?_) (fun h24 => ?_)
          · refine v_sub (L2 := [some (.ref (b + 0)), some (.int a0), some (.int a1), some (.int l3), some (.int l4)]) (And.intro rfl (And.intro rfl (And.intro rfl (And.intro rfl (And.intro rfl True.intro))))) ?_
            exact C133 σ l3 l4
          · refine v_iload_n S d_Mo_tryOut_117 rfl rfl ?_
            refine v_bipush S d_Mo_tryOut_118 (v := (11 : Int32)) (by decide) ?_
            refine v_icmp_gt S d_Mo_tryOut_120 (tgt := 133) (by decide) (fun h39 => ?_) (fun h39 => ?_)
            · refine v_sub (L2 := [some (.ref (b + 0)), some (.int a0), some (.int a1), some (.int l3), some (.int l4)]) (And.intro rfl (And.intro rfl (And.intro rfl (And.intro rfl (And.intro rfl True.intro))))) ?_
              exact C133 σ l3 l4
            · refine v_aload_n S d_Mo_tryOut_123 rfl rfl ?_
              refine v_iload_n S d_Mo_tryOut_124 rfl rfl ?_
              refine v_iload S d_Mo_tryOut_125 rfl ?_
              refine v_cv (rest := []) (fun _ hg H locs ls hsz hP hS => run_V (As := [.int l3, .int l4]) (rest := []) S kM_ok hKK (c_Mo_tryGo l D ca ax b σ l3 l4 hg) (k_Mo_98 S.2.2.2.2 (fun _ => List.mem_cons_of_mem _) ⟨Nat.le_of_ble_eq_true rfl, Nat.le_of_ble_eq_true rfl⟩) (rc_w hKK.1 hP 0 (by decide) rfl rfl) rfl rfl (Nat.zero_le _) d_Mo_tryOut_127 hsz hP hS) (fun σ40 _ => ?_)
              refine v_goto S d_Mo_tryOut_130 (tgt := 214) (by decide) ?_
              refine v_sub (L2 := [some (.ref (b + 0)), none, some (.int a1)]) (And.intro rfl (And.intro rfl True.intro)) ?_
              exact C214 σ40
        · refine v_sub (L2 := [some (.ref (b + 0)), none, some (.int a1), some (.int l3), some (.int l4)]) (And.intro rfl (And.intro rfl (And.intro rfl (And.intro rfl True.intro)))) ?_
          exact C101 σ l3 l4
    · refine v_aload_n S d_Mo_tryOut_82 rfl rfl ?_
      refine v_iconst S d_Mo_tryOut_83 (v := (1 : Int32)) (by decide) ?_
      refine v_cv (rest := []) (fun _ hg H locs ls hsz hP hS => run_V (As := [.int (1 : Int32)]) (rest := []) S kM_ok hKK (c_Mo_give l D ca ax b σ (1 : Int32) hg) (k_Mo_90 S.2.2.2.2 (fun _ => List.mem_cons_of_mem _) ⟨Nat.le_of_ble_eq_true rfl, Nat.le_of_ble_eq_true rfl⟩) (rc_w hKK.1 hP 0 (by decide) rfl rfl) rfl rfl (Nat.zero_le _) d_Mo_tryOut_84 hsz hP hS) (fun σ41 _ => ?_)
      refine v_goto S d_Mo_tryOut_87 (tgt := 214) (by decide) ?_
      refine v_sub (L2 := [some (.ref (b + 0)), none, some (.int a1)]) (And.intro rfl (And.intro rfl True.intro)) ?_
      exact C214 σ41
  have C38 : ∀ (σ : mm_M) (l3 : Int32) (l4 : Int32) (s0 : Int32), vv p l e (headSpec w_Mo_tryOut rm_Mo_tryOut).room s m [.ref (b + 0), .int a0, .int a1].toArray below meth c D cls b N_M (ce_M ca b) 7 (MQ below (qc_v D cls b N_M (ce_M ca b) σ') [.ref (b + 0), .int a0, .int a1].toArray s 0 0 (mm_A b N_M)) σ' (fn_Mo_tryOut_38 a0 a1 σ l3 l4 s0) σ 38 [some (.ref (b + 0)), some (.int a0), some (.int a1), some (.int l3), some (.int l4)] [.int s0, .ref (b + 0)] := by
    intro σ l3 l4 s0
    unfold fn_Mo_tryOut_38
    refine v_guard _ (fun h8 => ?_)
    refine v_puti S (fun w h => List.mem_cons_of_mem _ (i_Mo w h)) hKK.1 0 (by decide) rfl rfl 14 (by decide) (S.2.2.2.2 _ (List.mem_cons_of_mem _ (wd_755))) (fun _ h => h) t_Mo t_Mo_ok n_Mo rfl (ty := .boolean) rfl (nz_b h8) (fz_b h8) (Nat.le_of_ble_eq_true rfl) rfl d_Mo_tryOut_38 ?_
    refine v_sg (fun σ7 eσ7 => ?_)
    refine v_aload_n S d_Mo_tryOut_41 rfl rfl ?_
    refine v_iconst S d_Mo_tryOut_42 (v := (-1 : Int32)) (by decide) ?_
    refine v_puti S (fun w h => List.mem_cons_of_mem _ (i_Mo w h)) hKK.1 0 (by decide) rfl rfl 15 (by decide) (S.2.2.2.2 _ (List.mem_cons_of_mem _ (wd_756))) (fun _ h => h) t_Mo t_Mo_ok n_Mo rfl (ty := .int) rfl rfl rfl (Nat.le_of_ble_eq_true rfl) rfl d_Mo_tryOut_43 ?_
    refine v_sg (fun σ9 eσ9 => ?_)
    refine v_iload_n S d_Mo_tryOut_46 rfl rfl ?_
    refine v_iconst S d_Mo_tryOut_47 (v := (1 : Int32)) (by decide) ?_
    refine v_icmp_lt S d_Mo_tryOut_48 (tgt := 78) (by decide) (fun h10 => ?_) (fun h10 => ?_)
    · refine v_sub (L2 := [some (.ref (b + 0)), some (.int a0), some (.int a1), some (.int l3), some (.int l4)]) (And.intro rfl (And.intro rfl (And.intro rfl (And.intro rfl (And.intro rfl True.intro))))) ?_
      exact C78 σ9 l3 l4
    · refine v_iload_n S d_Mo_tryOut_51 rfl rfl ?_
      refine v_iconst S d_Mo_tryOut_52 (v := (4 : Int32)) (by decide) ?_
      refine v_icmp_gt S d_Mo_tryOut_53 (tgt := 78) (by decide) (fun h42 => ?_) (fun h42 => ?_)
      · refine v_sub (L2 := [some (.ref (b + 0)), some (.int a0), some (.int a1), some (.int l3), some (.int l4)]) (And.intro rfl (And.intro rfl (And.intro rfl (And.intro rfl (And.intro rfl True.intro))))) ?_
        exact C78 σ9 l3 l4
      · refine v_aload_n S d_Mo_tryOut_56 rfl rfl ?_
        refine v_iconst S d_Mo_tryOut_57 (v := (1 : Int32)) (by decide) ?_
        refine v_ci (rest := []) (fun _ _ hg H locs ls hsz hP hS => run_V (As := [.int (1 : Int32)]) (rest := []) S kM_ok hKK (c_Mo_take l D ca ax b σ9 (1 : Int32) hg) (k_Mo_86 S.2.2.2.2 (fun _ => List.mem_cons_of_mem _) ⟨Nat.le_of_ble_eq_true rfl, Nat.le_of_ble_eq_true rfl⟩) (rc_w hKK.1 hP 0 (by decide) rfl rfl) rfl rfl (Nat.zero_le _) d_Mo_tryOut_58 hsz hP hS) (fun r44 σ43 _ => ?_)
        refine v_istoreP S d_Mo_tryOut_61 (by decide) (L2 := [some (.ref (b + 0)), some (.int a0), some (.int a1), some (.int l3), some (.int l4), some (.int r44)]) rfl ?_
        refine v_aload_n S d_Mo_tryOut_63 rfl rfl ?_
        refine v_iconst S d_Mo_tryOut_64 (v := (1 : Int32)) (by decide) ?_
        refine v_ci (rest := []) (fun _ _ hg H locs ls hsz hP hS => run_V (As := [.int (1 : Int32)]) (rest := []) S kM_ok hKK (c_Mo_take l D ca ax b σ43 (1 : Int32) hg) (k_Mo_86 S.2.2.2.2 (fun _ => List.mem_cons_of_mem _) ⟨Nat.le_of_ble_eq_true rfl, Nat.le_of_ble_eq_true rfl⟩) (rc_w hKK.1 hP 0 (by decide) rfl rfl) rfl rfl (Nat.zero_le _) d_Mo_tryOut_65 hsz hP hS) (fun r46 σ45 _ => ?_)
        refine v_istoreP S d_Mo_tryOut_68 (by decide) (L2 := [some (.ref (b + 0)), some (.int a0), some (.int a1), some (.int l3), some (.int l4), some (.int r44), some (.int r46)]) rfl ?_
        refine v_aload_n S d_Mo_tryOut_70 rfl rfl ?_
        refine v_iconst S d_Mo_tryOut_71 (v := (1 : Int32)) (by decide) ?_
        refine v_cv (rest := []) (fun _ hg H locs ls hsz hP hS => run_V (As := [.int (1 : Int32)]) (rest := []) S kM_ok hKK (c_Mo_give l D ca ax b σ45 (1 : Int32) hg) (k_Mo_90 S.2.2.2.2 (fun _ => List.mem_cons_of_mem _) ⟨Nat.le_of_ble_eq_true rfl, Nat.le_of_ble_eq_true rfl⟩) (rc_w hKK.1 hP 0 (by decide) rfl rfl) rfl rfl (Nat.zero_le _) d_Mo_tryOut_72 hsz hP hS) (fun σ47 _ => ?_)
        refine v_goto S d_Mo_tryOut_75 (tgt := 214) (by decide) ?_
        refine v_sub (L2 := [some (.ref (b + 0)), none, some (.int a1)]) (And.intro rfl (And.intro rfl True.intro)) ?_
        exact C214 σ47
  have C37 : ∀ (σ : mm_M) (l3 : Int32) (l4 : Int32), vv p l e (headSpec w_Mo_tryOut rm_Mo_tryOut).room s m [.ref (b + 0), .int a0, .int a1].toArray below meth c D cls b N_M (ce_M ca b) 7 (MQ below (qc_v D cls b N_M (ce_M ca b) σ') [.ref (b + 0), .int a0, .int a1].toArray s 0 0 (mm_A b N_M)) σ' (fn_Mo_tryOut_37 a0 a1 σ l3 l4) σ 37 [some (.ref (b + 0)), some (.int a0), some (.int a1), some (.int l3), some (.int l4)] [.ref (b + 0)] := by
    intro σ l3 l4
    unfold fn_Mo_tryOut_37
    refine v_iconst S d_Mo_tryOut_37 (v := (0 : Int32)) (by decide) ?_
    refine v_sub (L2 := [some (.ref (b + 0)), some (.int a0), some (.int a1), some (.int l3), some (.int l4)]) (And.intro rfl (And.intro rfl (And.intro rfl (And.intro rfl (And.intro rfl True.intro))))) ?_
    exact C38 σ l3 l4 (0 : Int32)
  unfold fn_Mo_tryOut
  refine v_aload_n S d_Mo_tryOut_0 rfl rfl ?_
  refine v_get S (fun w h => List.mem_cons_of_mem _ (i_Mo w h)) hKK.1 0 (by decide) rfl rfl 1 (by decide) (S.2.2.2.2 _ (List.mem_cons_of_mem _ (wd_742))) (fun _ h => h) rfl d_Mo_tryOut_1 ?_
  refine v_iload_n S d_Mo_tryOut_4 rfl rfl ?_
  refine v_iald S hKK.1 1 0 (by decide) rfl rfl d_Mo_tryOut_5 (fun h1 => ?_)
  refine v_top (fun x2 ex2 => ?_)
  refine v_istore_nP S d_Mo_tryOut_6 rfl (by decide) (L2 := [some (.ref (b + 0)), some (.int a0), some (.int a1), some (.int x2)]) rfl ?_
  refine v_aload_n S d_Mo_tryOut_7 rfl rfl ?_
  refine v_get S (fun w h => List.mem_cons_of_mem _ (i_Mo w h)) hKK.1 0 (by decide) rfl rfl 2 (by decide) (S.2.2.2.2 _ (List.mem_cons_of_mem _ (wd_743))) (fun _ h => h) rfl d_Mo_tryOut_8 ?_
  refine v_iload_n S d_Mo_tryOut_11 rfl rfl ?_
  refine v_iald S hKK.1 2 0 (by decide) rfl rfl d_Mo_tryOut_12 (fun h3 => ?_)
  refine v_top (fun x4 ex4 => ?_)
  refine v_istoreP S d_Mo_tryOut_13 (by decide) (L2 := [some (.ref (b + 0)), some (.int a0), some (.int a1), some (.int x2), some (.int x4)]) rfl ?_
  refine v_aload_n S d_Mo_tryOut_15 rfl rfl ?_
  refine v_iconst S d_Mo_tryOut_16 (v := (0 : Int32)) (by decide) ?_
  refine v_puti S (fun w h => List.mem_cons_of_mem _ (i_Mo w h)) hKK.1 0 (by decide) rfl rfl 13 (by decide) (S.2.2.2.2 _ (List.mem_cons_of_mem _ (wd_754))) (fun _ h => h) t_Mo t_Mo_ok n_Mo rfl (ty := .boolean) rfl rfl rfl (Nat.le_of_ble_eq_true rfl) rfl d_Mo_tryOut_17 ?_
  refine v_sg (fun σ5 eσ5 => ?_)
  refine v_aload_n S d_Mo_tryOut_20 rfl rfl ?_
  refine v_iload_n S d_Mo_tryOut_21 rfl rfl ?_
  refine v_bipush S d_Mo_tryOut_22 (v := (7 : Int32)) (by decide) ?_
  refine v_icmp_eq S d_Mo_tryOut_24 (tgt := 37) (by decide) (fun h6 => ?_) (fun h6 => ?_)
  · refine v_sub (L2 := [some (.ref (b + 0)), some (.int a0), some (.int a1), some (.int x2), some (.int x4)]) (And.intro rfl (And.intro rfl (And.intro rfl (And.intro rfl (And.intro rfl True.intro))))) ?_
    exact C37 σ5 x2 x4
  · refine v_iload_n S d_Mo_tryOut_27 rfl rfl ?_
    refine v_bipush S d_Mo_tryOut_28 (v := (19 : Int32)) (by decide) ?_
    refine v_icmp_eq S d_Mo_tryOut_30 (tgt := 37) (by decide) (fun h48 => ?_) (fun h48 => ?_)
    · refine v_sub (L2 := [some (.ref (b + 0)), some (.int a0), some (.int a1), some (.int x2), some (.int x4)]) (And.intro rfl (And.intro rfl (And.intro rfl (And.intro rfl (And.intro rfl True.intro))))) ?_
      exact C37 σ5 x2 x4
    · refine v_iconst S d_Mo_tryOut_33 (v := (1 : Int32)) (by decide) ?_
      refine v_goto S d_Mo_tryOut_34 (tgt := 38) (by decide) ?_
      refine v_sub (L2 := [some (.ref (b + 0)), some (.int a0), some (.int a1), some (.int x2), some (.int x4)]) (And.intro rfl (And.intro rfl (And.intro rfl (And.intro rfl (And.intro rfl True.intro))))) ?_
      exact C38 σ5 x2 x4 (1 : Int32)
end
section
/-! contracts of 20.model; written by wip/whole/make.py -/
def fn_Mo_meet_190 (a0 : Int32) (a1 : Int32) (σ : mm_M) (l3 : Int32) (l4 : Int32) : Option (mm_M) :=
    (if (l3 < 0 ∨ 400 ≤ l3.toNatClampNeg) then none else
    (if (σ 9 l3.toNatClampNeg) = 0 then
    (if l4 = 0 then
    (if (l3 < 0 ∨ 400 ≤ l3.toNatClampNeg) then none else (nm (mw σ 9 l3.toNatClampNeg (0 : Int32)) (fun σ19 =>
    (some σ19))))
    else
    (if (l3 < 0 ∨ 400 ≤ l3.toNatClampNeg) then none else (nm (mw σ 9 l3.toNatClampNeg (1 : Int32)) (fun σ21 =>
    (some σ21)))))
    else
    (if (l3 < 0 ∨ 400 ≤ l3.toNatClampNeg) then none else (nm (mw σ 9 l3.toNatClampNeg (1 : Int32)) (fun σ16 =>
    (some σ16))))))
def fn_Mo_meet_95 (a0 : Int32) (a1 : Int32) : Nat → mm_M → Int32 → Int32 → Int32 → Int32 → Option (mm_M)
  | 0, _, _, _, _, _ => none
  | n + 1, σ, l3, l4, l5, l6 =>
    (if ((6 : Int32) + (σ 0 11)) ≤ l6 then
    (fn_Mo_meet_190 a0 a1 σ l3 l4)
    else
    (if ((((12 : Int32) * l3) + l6) < 0 ∨ 4800 ≤ (((12 : Int32) * l3) + l6).toNatClampNeg) then none else
    (nm (σ 8 (((12 : Int32) * l3) + l6).toNatClampNeg) (fun x23 =>
    (if l5 = 0 then
    (if (l6 < 0 ∨ 12 ≤ l6.toNatClampNeg) then none else
    (if x23 = (σ 10 l6.toNatClampNeg) then
    (if (l6 < 0 ∨ 12 ≤ l6.toNatClampNeg) then none else
    (nm (σ 10 l6.toNatClampNeg) (fun x52 =>
    (if l4 = 0 then
    (if x52 = x23 then
    (if ((((12 : Int32) * l3) + l6) < 0 ∨ 4800 ≤ (((12 : Int32) * l3) + l6).toNatClampNeg) then none else (nm (mw σ 8 (((12 : Int32) * l3) + l6).toNatClampNeg x52) (fun σ59 =>
    (fn_Mo_meet_95 a0 a1 n σ59 l3 (0 : Int32) l5 (l6 + (1 : Int32))))))
    else
    (if ((((12 : Int32) * l3) + l6) < 0 ∨ 4800 ≤ (((12 : Int32) * l3) + l6).toNatClampNeg) then none else (nm (mw σ 8 (((12 : Int32) * l3) + l6).toNatClampNeg x52) (fun σ62 =>
    (fn_Mo_meet_95 a0 a1 n σ62 l3 (1 : Int32) l5 (l6 + (1 : Int32)))))))
    else
    (if ((((12 : Int32) * l3) + l6) < 0 ∨ 4800 ≤ (((12 : Int32) * l3) + l6).toNatClampNeg) then none else (nm (mw σ 8 (((12 : Int32) * l3) + l6).toNatClampNeg x52) (fun σ55 =>
    (fn_Mo_meet_95 a0 a1 n σ55 l3 (1 : Int32) l5 (l6 + (1 : Int32))))))))))
    else
    (if l4 = 0 then
    (if (3 : Int32) = x23 then
    (if ((((12 : Int32) * l3) + l6) < 0 ∨ 4800 ≤ (((12 : Int32) * l3) + l6).toNatClampNeg) then none else (nm (mw σ 8 (((12 : Int32) * l3) + l6).toNatClampNeg (3 : Int32)) (fun σ46 =>
    (fn_Mo_meet_95 a0 a1 n σ46 l3 (0 : Int32) l5 (l6 + (1 : Int32))))))
    else
    (if ((((12 : Int32) * l3) + l6) < 0 ∨ 4800 ≤ (((12 : Int32) * l3) + l6).toNatClampNeg) then none else (nm (mw σ 8 (((12 : Int32) * l3) + l6).toNatClampNeg (3 : Int32)) (fun σ49 =>
    (fn_Mo_meet_95 a0 a1 n σ49 l3 (1 : Int32) l5 (l6 + (1 : Int32)))))))
    else
    (if ((((12 : Int32) * l3) + l6) < 0 ∨ 4800 ≤ (((12 : Int32) * l3) + l6).toNatClampNeg) then none else (nm (mw σ 8 (((12 : Int32) * l3) + l6).toNatClampNeg (3 : Int32)) (fun σ42 =>
    (fn_Mo_meet_95 a0 a1 n σ42 l3 (1 : Int32) l5 (l6 + (1 : Int32)))))))))
    else
    (if (l6 < 0 ∨ 12 ≤ l6.toNatClampNeg) then none else
    (nm (σ 10 l6.toNatClampNeg) (fun x26 =>
    (if l4 = 0 then
    (if x26 = x23 then
    (if ((((12 : Int32) * l3) + l6) < 0 ∨ 4800 ≤ (((12 : Int32) * l3) + l6).toNatClampNeg) then none else (nm (mw σ 8 (((12 : Int32) * l3) + l6).toNatClampNeg x26) (fun σ33 =>
    (fn_Mo_meet_95 a0 a1 n σ33 l3 (0 : Int32) l5 (l6 + (1 : Int32))))))
    else
    (if ((((12 : Int32) * l3) + l6) < 0 ∨ 4800 ≤ (((12 : Int32) * l3) + l6).toNatClampNeg) then none else (nm (mw σ 8 (((12 : Int32) * l3) + l6).toNatClampNeg x26) (fun σ36 =>
    (fn_Mo_meet_95 a0 a1 n σ36 l3 (1 : Int32) l5 (l6 + (1 : Int32)))))))
    else
    (if ((((12 : Int32) * l3) + l6) < 0 ∨ 4800 ≤ (((12 : Int32) * l3) + l6).toNatClampNeg) then none else (nm (mw σ 8 (((12 : Int32) * l3) + l6).toNatClampNeg x26) (fun σ29 =>
    (fn_Mo_meet_95 a0 a1 n σ29 l3 (1 : Int32) l5 (l6 + (1 : Int32)))))))))))))))
def fn_Mo_meet (σ : mm_M) (a0 : Int32) (a1 : Int32) : Option (mm_M) :=
    (nm (((100 : Int32) * a0) + a1) (fun x1 =>
    (if (x1 < 0 ∨ 400 ≤ x1.toNatClampNeg) then none else
    (if (σ 7 x1.toNatClampNeg) = (-2 : Int32) then
    (some σ)
    else
    (if (x1 < 0 ∨ 400 ≤ x1.toNatClampNeg) then none else
    (if (σ 7 x1.toNatClampNeg) = (σ 0 11) then
    (if (x1 < 0 ∨ 400 ≤ x1.toNatClampNeg) then none else
    (if (σ 7 x1.toNatClampNeg) = (-1 : Int32) then
    (if (x1 < 0 ∨ 400 ≤ x1.toNatClampNeg) then none else
    (if (σ 7 x1.toNatClampNeg) = (-1 : Int32) then
    (if (x1 < 0 ∨ 400 ≤ x1.toNatClampNeg) then none else (nm (mw σ 7 x1.toNatClampNeg (σ 0 11)) (fun σ65 =>
    (fn_Mo_meet_95 a0 a1 fuel0 σ65 x1 (0 : Int32) (1 : Int32) (0 : Int32)))))
    else
    (if (x1 < 0 ∨ 400 ≤ x1.toNatClampNeg) then none else (nm (mw σ 7 x1.toNatClampNeg (σ 0 11)) (fun σ11 =>
    (fn_Mo_meet_95 a0 a1 fuel0 σ11 x1 (0 : Int32) (0 : Int32) (0 : Int32)))))))
    else
    (if (x1 < 0 ∨ 400 ≤ x1.toNatClampNeg) then none else
    (if (σ 7 x1.toNatClampNeg) = (-1 : Int32) then
    (if (x1 < 0 ∨ 400 ≤ x1.toNatClampNeg) then none else (nm (mw σ 7 x1.toNatClampNeg (σ 0 11)) (fun σ71 =>
    (fn_Mo_meet_95 a0 a1 fuel0 σ71 x1 (0 : Int32) (1 : Int32) (0 : Int32)))))
    else
    (if (x1 < 0 ∨ 400 ≤ x1.toNatClampNeg) then none else (nm (mw σ 7 x1.toNatClampNeg (σ 0 11)) (fun σ69 =>
    (fn_Mo_meet_95 a0 a1 fuel0 σ69 x1 (0 : Int32) (0 : Int32) (0 : Int32)))))))))
    else
    (if (x1 < 0 ∨ 400 ≤ x1.toNatClampNeg) then none else
    (if (σ 7 x1.toNatClampNeg) = (-1 : Int32) then
    (if (x1 < 0 ∨ 400 ≤ x1.toNatClampNeg) then none else
    (if (σ 7 x1.toNatClampNeg) = (-1 : Int32) then
    (if (x1 < 0 ∨ 400 ≤ x1.toNatClampNeg) then none else (nm (mw σ 7 x1.toNatClampNeg (σ 0 11)) (fun σ79 =>
    (fn_Mo_meet_95 a0 a1 fuel0 σ79 x1 (1 : Int32) (1 : Int32) (0 : Int32)))))
    else
    (if (x1 < 0 ∨ 400 ≤ x1.toNatClampNeg) then none else (nm (mw σ 7 x1.toNatClampNeg (σ 0 11)) (fun σ77 =>
    (fn_Mo_meet_95 a0 a1 fuel0 σ77 x1 (1 : Int32) (0 : Int32) (0 : Int32)))))))
    else
    (if (x1 < 0 ∨ 400 ≤ x1.toNatClampNeg) then none else (nm (mw σ 7 x1.toNatClampNeg (-2 : Int32)) (fun σ81 =>
    (fn_Mo_meet_190 a0 a1 σ81 x1 (1 : Int32)))))))))))))
set_option maxRecDepth 100000 in
set_option maxHeartbeats 40000000 in
theorem c_Mo_meet (l : Launch) (D : va_G) (ca : Nat → ClassId) (ax : Nat → Nat → Nat) (b : Nat) (σ : mm_M) (a0 : Int32) (a1 : Int32)  {σ' : mm_M} (hf : fn_Mo_meet σ a0 a1 = some σ') : Met l y_Mo_meet w_Mo_meet rm_Mo_meet (pc_w D cls b N_M (ce_M ca b) (kM D ca ax b) [.ref (b + 0), .int a0, .int a1] σ) (qc_v D cls b N_M (ce_M ca b) σ') 0 0 (mm_A b N_M) := by
  refine vv_go (cc := b_Mo_meet) (maxL := 9) (ret := none) (fin := σ') (k := fn_Mo_meet σ a0 a1) (by decide) rfl (by simp [Value.category]) (Nat.le_of_ble_eq_true rfl) hf ?_
  intro p e s m below meth c hlocks hret S hKK
  have C190 : ∀ (σ : mm_M) (l3 : Int32) (l4 : Int32), vv p l e (headSpec w_Mo_meet rm_Mo_meet).room s m [.ref (b + 0), .int a0, .int a1].toArray below meth c D cls b N_M (ce_M ca b) 9 (MQ below (qc_v D cls b N_M (ce_M ca b) σ') [.ref (b + 0), .int a0, .int a1].toArray s 0 0 (mm_A b N_M)) σ' (fn_Mo_meet_190 a0 a1 σ l3 l4) σ 190 [some (.ref (b + 0)), none, none, some (.int l3), some (.int l4)] [] := by
    intro σ l3 l4
    unfold fn_Mo_meet_190
    refine v_aload_n S d_Mo_meet_190 rfl rfl ?_
    refine v_get S (fun w h => List.mem_cons_of_mem _ (i_Mo w h)) hKK.1 0 (by decide) rfl rfl 10 (by decide) (S.2.2.2.2 _ (List.mem_cons_of_mem _ (wd_751))) (fun _ h => h) rfl d_Mo_meet_191 ?_
    refine v_iload_n S d_Mo_meet_194 rfl rfl ?_
    refine v_aload_n S d_Mo_meet_195 rfl rfl ?_
    refine v_get S (fun w h => List.mem_cons_of_mem _ (i_Mo w h)) hKK.1 0 (by decide) rfl rfl 10 (by decide) (S.2.2.2.2 _ (List.mem_cons_of_mem _ (wd_751))) (fun _ h => h) rfl d_Mo_meet_196 ?_
    refine v_iload_n S d_Mo_meet_199 rfl rfl ?_
    refine v_zald S hKK.1 9 1 (by decide) rfl rfl d_Mo_meet_200 (fun h13 => ?_)
    refine v_if_ne S d_Mo_meet_201 (tgt := 209) (by decide) (fun h14 => ?_) (fun h14 => ?_)
    · refine v_iconst S d_Mo_meet_209 (v := (1 : Int32)) (by decide) ?_
      refine v_goto S d_Mo_meet_210 (tgt := 214) (by decide) ?_
      refine v_zast1 S hKK.1 9 1 (by decide) (fun _ => rfl) rfl (Or.inr rfl) d_Mo_meet_214 (fun h15 => ?_)
      refine v_sg (fun σ16 eσ16 => ?_)
      exact v_vret S hret hlocks d_Mo_meet_215
    · refine v_iload S d_Mo_meet_204 rfl ?_
      refine v_if_eq S d_Mo_meet_206 (tgt := 213) (by decide) (fun h17 => ?_) (fun h17 => ?_)
      · refine v_iconst S d_Mo_meet_213 (v := (0 : Int32)) (by decide) ?_
        refine v_zast1 S hKK.1 9 1 (by decide) (fun _ => rfl) rfl (Or.inl rfl) d_Mo_meet_214 (fun h18 => ?_)
        refine v_sg (fun σ19 eσ19 => ?_)
        exact v_vret S hret hlocks d_Mo_meet_215
      · refine v_iconst S d_Mo_meet_209 (v := (1 : Int32)) (by decide) ?_
        refine v_goto S d_Mo_meet_210 (tgt := 214) (by decide) ?_
        refine v_zast1 S hKK.1 9 1 (by decide) (fun _ => rfl) rfl (Or.inr rfl) d_Mo_meet_214 (fun h20 => ?_)
        refine v_sg (fun σ21 eσ21 => ?_)
        exact v_vret S hret hlocks d_Mo_meet_215
  have C95 : ∀ (n : Nat) (σ : mm_M) (l3 : Int32) (l4 : Int32) (l5 : Int32) (l6 : Int32), vv p l e (headSpec w_Mo_meet rm_Mo_meet).room s m [.ref (b + 0), .int a0, .int a1].toArray below meth c D cls b N_M (ce_M ca b) 9 (MQ below (qc_v D cls b N_M (ce_M ca b) σ') [.ref (b + 0), .int a0, .int a1].toArray s 0 0 (mm_A b N_M)) σ' (fn_Mo_meet_95 a0 a1 n σ l3 l4 l5 l6) σ 95 [some (.ref (b + 0)), none, none, some (.int l3), some (.int l4), some (.int l5), some (.int l6)] [] := by
    intro n
    induction n with
    | zero => intro σ l3 l4 l5 l6  h; cases h
    | succ n ih =>
      intro σ l3 l4 l5 l6
      show vv p l e (headSpec w_Mo_meet rm_Mo_meet).room s m [.ref (b + 0), .int a0, .int a1].toArray below meth c D cls b N_M (ce_M ca b) 9 (MQ below (qc_v D cls b N_M (ce_M ca b) σ') [.ref (b + 0), .int a0, .int a1].toArray s 0 0 (mm_A b N_M)) σ' (        (if ((6 : Int32) + (σ 0 11)) ≤ l6 then
        (fn_Mo_meet_190 a0 a1 σ l3 l4)
        else
        (if ((((12 : Int32) * l3) + l6) < 0 ∨ 4800 ≤ (((12 : Int32) * l3) + l6).toNatClampNeg) then none else
        (nm (σ 8 (((12 : Int32) * l3) + l6).toNatClampNeg) (fun x23 =>
        (if l5 = 0 then
        (if (l6 < 0 ∨ 12 ≤ l6.toNatClampNeg) then none else
        (if x23 = (σ 10 l6.toNatClampNeg) then
        (if (l6 < 0 ∨ 12 ≤ l6.toNatClampNeg) then none else
        (nm (σ 10 l6.toNatClampNeg) (fun x52 =>
        (if l4 = 0 then
        (if x52 = x23 then
        (if ((((12 : Int32) * l3) + l6) < 0 ∨ 4800 ≤ (((12 : Int32) * l3) + l6).toNatClampNeg) then none else (nm (mw σ 8 (((12 : Int32) * l3) + l6).toNatClampNeg x52) (fun σ59 =>
        (fn_Mo_meet_95 a0 a1 n σ59 l3 (0 : Int32) l5 (l6 + (1 : Int32))))))
        else
        (if ((((12 : Int32) * l3) + l6) < 0 ∨ 4800 ≤ (((12 : Int32) * l3) + l6).toNatClampNeg) then none else (nm (mw σ 8 (((12 : Int32) * l3) + l6).toNatClampNeg x52) (fun σ62 =>
        (fn_Mo_meet_95 a0 a1 n σ62 l3 (1 : Int32) l5 (l6 + (1 : Int32)))))))
        else
        (if ((((12 : Int32) * l3) + l6) < 0 ∨ 4800 ≤ (((12 : Int32) * l3) + l6).toNatClampNeg) then none else (nm (mw σ 8 (((12 : Int32) * l3) + l6).toNatClampNeg x52) (fun σ55 =>
        (fn_Mo_meet_95 a0 a1 n σ55 l3 (1 : Int32) l5 (l6 + (1 : Int32))))))))))
        else
        (if l4 = 0 then
        (if (3 : Int32) = x23 then
        (if ((((12 : Int32) * l3) + l6) < 0 ∨ 4800 ≤ (((12 : Int32) * l3) + l6).toNatClampNeg) then none else (nm (mw σ 8 (((12 : Int32) * l3) + l6).toNatClampNeg (3 : Int32)) (fun σ46 =>
        (fn_Mo_meet_95 a0 a1 n σ46 l3 (0 : Int32) l5 (l6 + (1 : Int32))))))
        else
        (if ((((12 : Int32) * l3) + l6) < 0 ∨ 4800 ≤ (((12 : Int32) * l3) + l6).toNatClampNeg) then none else (nm (mw σ 8 (((12 : Int32) * l3) + l6).toNatClampNeg (3 : Int32)) (fun σ49 =>
        (fn_Mo_meet_95 a0 a1 n σ49 l3 (1 : Int32) l5 (l6 + (1 : Int32)))))))
        else
        (if ((((12 : Int32) * l3) + l6) < 0 ∨ 4800 ≤ (((12 : Int32) * l3) + l6).toNatClampNeg) then none else (nm (mw σ 8 (((12 : Int32) * l3) + l6).toNatClampNeg (3 : Int32)) (fun σ42 =>
        (fn_Mo_meet_95 a0 a1 n σ42 l3 (1 : Int32) l5 (l6 + (1 : Int32)))))))))
        else
        (if (l6 < 0 ∨ 12 ≤ l6.toNatClampNeg) then none else
        (nm (σ 10 l6.toNatClampNeg) (fun x26 =>
        (if l4 = 0 then
        (if x26 = x23 then
        (if ((((12 : Int32) * l3) + l6) < 0 ∨ 4800 ≤ (((12 : Int32) * l3) + l6).toNatClampNeg) then none else (nm (mw σ 8 (((12 : Int32) * l3) + l6).toNatClampNeg x26) (fun σ33 =>
        (fn_Mo_meet_95 a0 a1 n σ33 l3 (0 : Int32) l5 (l6 + (1 : Int32))))))
        else
        (if ((((12 : Int32) * l3) + l6) < 0 ∨ 4800 ≤ (((12 : Int32) * l3) + l6).toNatClampNeg) then none else (nm (mw σ 8 (((12 : Int32) * l3) + l6).toNatClampNeg x26) (fun σ36 =>
        (fn_Mo_meet_95 a0 a1 n σ36 l3 (1 : Int32) l5 (l6 + (1 : Int32)))))))
        else
        (if ((((12 : Int32) * l3) + l6) < 0 ∨ 4800 ≤ (((12 : Int32) * l3) + l6).toNatClampNeg) then none else (nm (mw σ 8 (((12 : Int32) * l3) + l6).toNatClampNeg x26) (fun σ29 =>
        (fn_Mo_meet_95 a0 a1 n σ29 l3 (1 : Int32) l5 (l6 + (1 : Int32)))))))))))))))) σ 95 [some (.ref (b + 0)), none, none, some (.int l3), some (.int l4), some (.int l5), some (.int l6)] []
      refine v_iload S d_Mo_meet_95 rfl ?_
      refine v_bipush S d_Mo_meet_97 (v := (6 : Int32)) (by decide) ?_
      refine v_aload_n S d_Mo_meet_99 rfl rfl ?_
      refine v_get S (fun w h => List.mem_cons_of_mem _ (i_Mo w h)) hKK.1 0 (by decide) rfl rfl 11 (by decide) (S.2.2.2.2 _ (List.mem_cons_of_mem _ (wd_752))) (fun _ h => h) rfl d_Mo_meet_100 ?_
      refine v_iadd S d_Mo_meet_103 ?_
      refine v_icmp_ge S d_Mo_meet_104 (tgt := 190) (by decide) (fun h12 => ?_) (fun h12 => ?_)
      · refine v_sub (L2 := [some (.ref (b + 0)), none, none, some (.int l3), some (.int l4)]) (And.intro rfl (And.intro rfl (And.intro rfl True.intro))) ?_
        exact C190 σ l3 l4
      · refine v_aload_n S d_Mo_meet_107 rfl rfl ?_
        refine v_get S (fun w h => List.mem_cons_of_mem _ (i_Mo w h)) hKK.1 0 (by decide) rfl rfl 9 (by decide) (S.2.2.2.2 _ (List.mem_cons_of_mem _ (wd_750))) (fun _ h => h) rfl d_Mo_meet_108 ?_
        refine v_bipush S d_Mo_meet_111 (v := (12 : Int32)) (by decide) ?_
        refine v_iload_n S d_Mo_meet_113 rfl rfl ?_
        refine v_imul S d_Mo_meet_114 ?_
        refine v_iload S d_Mo_meet_115 rfl ?_
        refine v_iadd S d_Mo_meet_117 ?_
        refine v_iald S hKK.1 8 0 (by decide) rfl rfl d_Mo_meet_118 (fun h22 => ?_)
        refine v_top (fun x23 ex23 => ?_)
        refine v_istoreP S d_Mo_meet_119 (by decide) (L2 := [some (.ref (b + 0)), none, none, some (.int l3), some (.int l4), some (.int l5), some (.int l6), some (.int x23)]) rfl ?_
        refine v_iload S d_Mo_meet_121 rfl ?_
        refine v_if_ne S d_Mo_meet_123 (tgt := 138) (by decide) (fun h24 => ?_) (fun h24 => ?_)
        · refine v_aload_n S d_Mo_meet_138 rfl rfl ?_
          refine v_get S (fun w h => List.mem_cons_of_mem _ (i_Mo w h)) hKK.1 0 (by decide) rfl rfl 12 (by decide) (S.2.2.2.2 _ (List.mem_cons_of_mem _ (wd_753))) (fun _ h => h) rfl d_Mo_meet_139 ?_
          refine v_iload S d_Mo_meet_142 rfl ?_
          refine v_iald S hKK.1 10 0 (by decide) rfl rfl d_Mo_meet_144 (fun h25 => ?_)
          refine v_goto S d_Mo_meet_145 (tgt := 149) (by decide) ?_
          refine v_top (fun x26 ex26 => ?_)
          refine v_istoreP S d_Mo_meet_149 (by decide) (L2 := [some (.ref (b + 0)), none, none, some (.int l3), some (.int l4), some (.int l5), some (.int l6), some (.int x23), some (.int x26)]) rfl ?_
          refine v_iload S d_Mo_meet_151 rfl ?_
          refine v_if_ne S d_Mo_meet_153 (tgt := 163) (by decide) (fun h27 => ?_) (fun h27 => ?_)
          · refine v_iconst S d_Mo_meet_163 (v := (1 : Int32)) (by decide) ?_
            refine v_goto S d_Mo_meet_164 (tgt := 168) (by decide) ?_
            refine v_istoreP S d_Mo_meet_168 (by decide) (L2 := [some (.ref (b + 0)), none, none, some (.int l3), some (.int (1 : Int32)), some (.int l5), some (.int l6), some (.int x23), some (.int x26)]) rfl ?_
            refine v_aload_n S d_Mo_meet_170 rfl rfl ?_
            refine v_get S (fun w h => List.mem_cons_of_mem _ (i_Mo w h)) hKK.1 0 (by decide) rfl rfl 9 (by decide) (S.2.2.2.2 _ (List.mem_cons_of_mem _ (wd_750))) (fun _ h => h) rfl d_Mo_meet_171 ?_
            refine v_bipush S d_Mo_meet_174 (v := (12 : Int32)) (by decide) ?_
            refine v_iload_n S d_Mo_meet_176 rfl rfl ?_
            refine v_imul S d_Mo_meet_177 ?_
            refine v_iload S d_Mo_meet_178 rfl ?_
            refine v_iadd S d_Mo_meet_180 ?_
            refine v_iload S d_Mo_meet_181 rfl ?_
            refine v_iast1 S hKK.1 8 0 (by decide) (fun _ => rfl) rfl d_Mo_meet_183 (fun h28 => ?_)
            refine v_sg (fun σ29 eσ29 => ?_)
            refine v_iinc S d_Mo_meet_184 rfl (v := (l6 + (1 : Int32))) (by first | rfl | decide) (by decide) (L2 := [some (.ref (b + 0)), none, none, some (.int l3), some (.int (1 : Int32)), some (.int l5), some (.int (l6 + (1 : Int32))), some (.int x23), some (.int x26)]) rfl ?_
            refine v_goto S d_Mo_meet_187 (tgt := 95) (by decide) ?_
            refine v_sub (L2 := [some (.ref (b + 0)), none, none, some (.int l3), some (.int (1 : Int32)), some (.int l5), some (.int (l6 + (1 : Int32)))]) (And.intro rfl (And.intro rfl (And.intro rfl (And.intro rfl (And.intro rfl True.intro))))) ?_
            exact ih σ29 l3 (1 : Int32) l5 (l6 + (1 : Int32))
          · refine v_iload S d_Mo_meet_156 rfl ?_
            refine v_iload S d_Mo_meet_158 rfl ?_
            refine v_icmp_eq S d_Mo_meet_160 (tgt := 167) (by decide) (fun h31 => ?_) (fun h31 => ?_)
            · refine v_iconst S d_Mo_meet_167 (v := (0 : Int32)) (by decide) ?_
              refine v_istoreP S d_Mo_meet_168 (by decide) (L2 := [some (.ref (b + 0)), none, none, some (.int l3), some (.int (0 : Int32)), some (.int l5), some (.int l6), some (.int x23), some (.int x26)]) rfl ?_
              refine v_aload_n S d_Mo_meet_170 rfl rfl ?_
              refine v_get S (fun w h => List.mem_cons_of_mem _ (i_Mo w h)) hKK.1 0 (by decide) rfl rfl 9 (by decide) (S.2.2.2.2 _ (List.mem_cons_of_mem _ (wd_750))) (fun _ h => h) rfl d_Mo_meet_171 ?_
              refine v_bipush S d_Mo_meet_174 (v := (12 : Int32)) (by decide) ?_
              refine v_iload_n S d_Mo_meet_176 rfl rfl ?_
              refine v_imul S d_Mo_meet_177 ?_
              refine v_iload S d_Mo_meet_178 rfl ?_
              refine v_iadd S d_Mo_meet_180 ?_
              refine v_iload S d_Mo_meet_181 rfl ?_
              refine v_iast1 S hKK.1 8 0 (by decide) (fun _ => rfl) rfl d_Mo_meet_183 (fun h32 => ?_)
              refine v_sg (fun σ33 eσ33 => ?_)
              refine v_iinc S d_Mo_meet_184 rfl (v := (l6 + (1 : Int32))) (by first | rfl | decide) (by decide) (L2 := [some (.ref (b + 0)), none, none, some (.int l3), some (.int (0 : Int32)), some (.int l5), some (.int (l6 + (1 : Int32))), some (.int x23), some (.int x26)]) rfl ?_
              refine v_goto S d_Mo_meet_187 (tgt := 95) (by decide) ?_
              refine v_sub (L2 := [some (.ref (b + 0)), none, none, some (.int l3), some (.int (0 : Int32)), some (.int l5), some (.int (l6 + (1 : Int32)))]) (And.intro rfl (And.intro rfl (And.intro rfl (And.intro rfl (And.intro rfl True.intro))))) ?_
              exact ih σ33 l3 (0 : Int32) l5 (l6 + (1 : Int32))
            · refine v_iconst S d_Mo_meet_163 (v := (1 : Int32)) (by decide) ?_
              refine v_goto S d_Mo_meet_164 (tgt := 168) (by decide) ?_
              refine v_istoreP S d_Mo_meet_168 (by decide) (L2 := [some (.ref (b + 0)), none, none, some (.int l3), some (.int (1 : Int32)), some (.int l5), some (.int l6), some (.int x23), some (.int x26)]) rfl ?_
              refine v_aload_n S d_Mo_meet_170 rfl rfl ?_
              refine v_get S (fun w h => List.mem_cons_of_mem _ (i_Mo w h)) hKK.1 0 (by decide) rfl rfl 9 (by decide) (S.2.2.2.2 _ (List.mem_cons_of_mem _ (wd_750))) (fun _ h => h) rfl d_Mo_meet_171 ?_
              refine v_bipush S d_Mo_meet_174 (v := (12 : Int32)) (by decide) ?_
              refine v_iload_n S d_Mo_meet_176 rfl rfl ?_
              refine v_imul S d_Mo_meet_177 ?_
              refine v_iload S d_Mo_meet_178 rfl ?_
              refine v_iadd S d_Mo_meet_180 ?_
              refine v_iload S d_Mo_meet_181 rfl ?_
              refine v_iast1 S hKK.1 8 0 (by decide) (fun _ => rfl) rfl d_Mo_meet_183 (fun h35 => ?_)
              refine v_sg (fun σ36 eσ36 => ?_)
              refine v_iinc S d_Mo_meet_184 rfl (v := (l6 + (1 : Int32))) (by first | rfl | decide) (by decide) (L2 := [some (.ref (b + 0)), none, none, some (.int l3), some (.int (1 : Int32)), some (.int l5), some (.int (l6 + (1 : Int32))), some (.int x23), some (.int x26)]) rfl ?_
              refine v_goto S d_Mo_meet_187 (tgt := 95) (by decide) ?_
              refine v_sub (L2 := [some (.ref (b + 0)), none, none, some (.int l3), some (.int (1 : Int32)), some (.int l5), some (.int (l6 + (1 : Int32)))]) (And.intro rfl (And.intro rfl (And.intro rfl (And.intro rfl (And.intro rfl True.intro))))) ?_
              exact ih σ36 l3 (1 : Int32) l5 (l6 + (1 : Int32))
        · refine v_iload S d_Mo_meet_126 rfl ?_
          refine v_aload_n S d_Mo_meet_128 rfl rfl ?_
          refine v_get S (fun w h => List.mem_cons_of_mem _ (i_Mo w h)) hKK.1 0 (by decide) rfl rfl 12 (by decide) (S.2.2.2.2 _ (List.mem_cons_of_mem _ (wd_753))) (fun _ h => h) rfl d_Mo_meet_129 ?_
          refine v_iload S d_Mo_meet_132 rfl ?_
          refine v_iald S hKK.1 10 0 (by decide) rfl rfl d_Mo_meet_134 (fun h38 => ?_)
          refine v_icmp_ne S d_Mo_meet_135 (tgt := 148) (by decide) (fun h39 => ?_) (fun h39 => ?_)
          · refine v_iconst S d_Mo_meet_148 (v := (3 : Int32)) (by decide) ?_
            refine v_istoreP S d_Mo_meet_149 (by decide) (L2 := [some (.ref (b + 0)), none, none, some (.int l3), some (.int l4), some (.int l5), some (.int l6), some (.int x23), some (.int (3 : Int32))]) rfl ?_
            refine v_iload S d_Mo_meet_151 rfl ?_
            refine v_if_ne S d_Mo_meet_153 (tgt := 163) (by decide) (fun h40 => ?_) (fun h40 => ?_)
            · refine v_iconst S d_Mo_meet_163 (v := (1 : Int32)) (by decide) ?_
              refine v_goto S d_Mo_meet_164 (tgt := 168) (by decide) ?_
              refine v_istoreP S d_Mo_meet_168 (by decide) (L2 := [some (.ref (b + 0)), none, none, some (.int l3), some (.int (1 : Int32)), some (.int l5), some (.int l6), some (.int x23), some (.int (3 : Int32))]) rfl ?_
              refine v_aload_n S d_Mo_meet_170 rfl rfl ?_
              refine v_get S (fun w h => List.mem_cons_of_mem _ (i_Mo w h)) hKK.1 0 (by decide) rfl rfl 9 (by decide) (S.2.2.2.2 _ (List.mem_cons_of_mem _ (wd_750))) (fun _ h => h) rfl d_Mo_meet_171 ?_
              refine v_bipush S d_Mo_meet_174 (v := (12 : Int32)) (by decide) ?_
              refine v_iload_n S d_Mo_meet_176 rfl rfl ?_
              refine v_imul S d_Mo_meet_177 ?_
              refine v_iload S d_Mo_meet_178 rfl ?_
              refine v_iadd S d_Mo_meet_180 ?_
              refine v_iload S d_Mo_meet_181 rfl ?_
              refine v_iast1 S hKK.1 8 0 (by decide) (fun _ => rfl) rfl d_Mo_meet_183 (fun h41 => ?_)
              refine v_sg (fun σ42 eσ42 => ?_)
              refine v_iinc S d_Mo_meet_184 rfl (v := (l6 + (1 : Int32))) (by first | rfl | decide) (by decide) (L2 := [some (.ref (b + 0)), none, none, some (.int l3), some (.int (1 : Int32)), some (.int l5), some (.int (l6 + (1 : Int32))), some (.int x23), some (.int (3 : Int32))]) rfl ?_
              refine v_goto S d_Mo_meet_187 (tgt := 95) (by decide) ?_
              refine v_sub (L2 := [some (.ref (b + 0)), none, none, some (.int l3), some (.int (1 : Int32)), some (.int l5), some (.int (l6 + (1 : Int32)))]) (And.intro rfl (And.intro rfl (And.intro rfl (And.intro rfl (And.intro rfl True.intro))))) ?_
              exact ih σ42 l3 (1 : Int32) l5 (l6 + (1 : Int32))
            · refine v_iload S d_Mo_meet_156 rfl ?_
              refine v_iload S d_Mo_meet_158 rfl ?_
              refine v_icmp_eq S d_Mo_meet_160 (tgt := 167) (by decide) (fun h44 => ?_) (fun h44 => ?_)
              · refine v_iconst S d_Mo_meet_167 (v := (0 : Int32)) (by decide) ?_
                refine v_istoreP S d_Mo_meet_168 (by decide) (L2 := [some (.ref (b + 0)), none, none, some (.int l3), some (.int (0 : Int32)), some (.int l5), some (.int l6), some (.int x23), some (.int (3 : Int32))]) rfl ?_
                refine v_aload_n S d_Mo_meet_170 rfl rfl ?_
                refine v_get S (fun w h => List.mem_cons_of_mem _ (i_Mo w h)) hKK.1 0 (by decide) rfl rfl 9 (by decide) (S.2.2.2.2 _ (List.mem_cons_of_mem _ (wd_750))) (fun _ h => h) rfl d_Mo_meet_171 ?_
                refine v_bipush S d_Mo_meet_174 (v := (12 : Int32)) (by decide) ?_
                refine v_iload_n S d_Mo_meet_176 rfl rfl ?_
                refine v_imul S d_Mo_meet_177 ?_
                refine v_iload S d_Mo_meet_178 rfl ?_
                refine v_iadd S d_Mo_meet_180 ?_
                refine v_iload S d_Mo_meet_181 rfl ?_
                refine v_iast1 S hKK.1 8 0 (by decide) (fun _ => rfl) rfl d_Mo_meet_183 (fun h45 => ?_)
                refine v_sg (fun σ46 eσ46 => ?_)
                refine v_iinc S d_Mo_meet_184 rfl (v := (l6 + (1 : Int32))) (by first | rfl | decide) (by decide) (L2 := [some (.ref (b + 0)), none, none, some (.int l3), some (.int (0 : Int32)), some (.int l5), some (.int (l6 + (1 : Int32))), some (.int x23), some (.int (3 : Int32))]) rfl ?_
                refine v_goto S d_Mo_meet_187 (tgt := 95) (by decide) ?_
                refine v_sub (L2 := [some (.ref (b + 0)), none, none, some (.int l3), some (.int (0 : Int32)), some (.int l5), some (.int (l6 + (1 : Int32)))]) (And.intro rfl (And.intro rfl (And.intro rfl (And.intro rfl (And.intro rfl True.intro))))) ?_
                exact ih σ46 l3 (0 : Int32) l5 (l6 + (1 : Int32))
              · refine v_iconst S d_Mo_meet_163 (v := (1 : Int32)) (by decide) ?_
                refine v_goto S d_Mo_meet_164 (tgt := 168) (by decide) ?_
                refine v_istoreP S d_Mo_meet_168 (by decide) (L2 := [some (.ref (b + 0)), none, none, some (.int l3), some (.int (1 : Int32)), some (.int l5), some (.int l6), some (.int x23), some (.int (3 : Int32))]) rfl ?_
                refine v_aload_n S d_Mo_meet_170 rfl rfl ?_
                refine v_get S (fun w h => List.mem_cons_of_mem _ (i_Mo w h)) hKK.1 0 (by decide) rfl rfl 9 (by decide) (S.2.2.2.2 _ (List.mem_cons_of_mem _ (wd_750))) (fun _ h => h) rfl d_Mo_meet_171 ?_
                refine v_bipush S d_Mo_meet_174 (v := (12 : Int32)) (by decide) ?_
                refine v_iload_n S d_Mo_meet_176 rfl rfl ?_
                refine v_imul S d_Mo_meet_177 ?_
                refine v_iload S d_Mo_meet_178 rfl ?_
                refine v_iadd S d_Mo_meet_180 ?_
                refine v_iload S d_Mo_meet_181 rfl ?_
                refine v_iast1 S hKK.1 8 0 (by decide) (fun _ => rfl) rfl d_Mo_meet_183 (fun h48 => ?_)
                refine v_sg (fun σ49 eσ49 => ?_)
                refine v_iinc S d_Mo_meet_184 rfl (v := (l6 + (1 : Int32))) (by first | rfl | decide) (by decide) (L2 := [some (.ref (b + 0)), none, none, some (.int l3), some (.int (1 : Int32)), some (.int l5), some (.int (l6 + (1 : Int32))), some (.int x23), some (.int (3 : Int32))]) rfl ?_
                refine v_goto S d_Mo_meet_187 (tgt := 95) (by decide) ?_
                refine v_sub (L2 := [some (.ref (b + 0)), none, none, some (.int l3), some (.int (1 : Int32)), some (.int l5), some (.int (l6 + (1 : Int32)))]) (And.intro rfl (And.intro rfl (And.intro rfl (And.intro rfl (And.intro rfl True.intro))))) ?_
                exact ih σ49 l3 (1 : Int32) l5 (l6 + (1 : Int32))
          · refine v_aload_n S d_Mo_meet_138 rfl rfl ?_
            refine v_get S (fun w h => List.mem_cons_of_mem _ (i_Mo w h)) hKK.1 0 (by decide) rfl rfl 12 (by decide) (S.2.2.2.2 _ (List.mem_cons_of_mem _ (wd_753))) (fun _ h => h) rfl d_Mo_meet_139 ?_
            refine v_iload S d_Mo_meet_142 rfl ?_
            refine v_iald S hKK.1 10 0 (by decide) rfl rfl d_Mo_meet_144 (fun h51 => ?_)
            refine v_goto S d_Mo_meet_145 (tgt := 149) (by decide) ?_
            refine v_top (fun x52 ex52 => ?_)
            refine v_istoreP S d_Mo_meet_149 (by decide) (L2 := [some (.ref (b + 0)), none, none, some (.int l3), some (.int l4), some (.int l5), some (.int l6), some (.int x23), some (.int x52)]) rfl ?_
            refine v_iload S d_Mo_meet_151 rfl ?_
            refine v_if_ne S d_Mo_meet_153 (tgt := 163) (by decide) (fun h53 => ?_) (fun h53 => ?_)
            · refine v_iconst S d_Mo_meet_163 (v := (1 : Int32)) (by decide) ?_
              refine v_goto S d_Mo_meet_164 (tgt := 168) (by decide) ?_
              refine v_istoreP S d_Mo_meet_168 (by decide) (L2 := [some (.ref (b + 0)), none, none, some (.int l3), some (.int (1 : Int32)), some (.int l5), some (.int l6), some (.int x23), some (.int x52)]) rfl ?_
              refine v_aload_n S d_Mo_meet_170 rfl rfl ?_
              refine v_get S (fun w h => List.mem_cons_of_mem _ (i_Mo w h)) hKK.1 0 (by decide) rfl rfl 9 (by decide) (S.2.2.2.2 _ (List.mem_cons_of_mem _ (wd_750))) (fun _ h => h) rfl d_Mo_meet_171 ?_
              refine v_bipush S d_Mo_meet_174 (v := (12 : Int32)) (by decide) ?_
              refine v_iload_n S d_Mo_meet_176 rfl rfl ?_
              refine v_imul S d_Mo_meet_177 ?_
              refine v_iload S d_Mo_meet_178 rfl ?_
              refine v_iadd S d_Mo_meet_180 ?_
              refine v_iload S d_Mo_meet_181 rfl ?_
              refine v_iast1 S hKK.1 8 0 (by decide) (fun _ => rfl) rfl d_Mo_meet_183 (fun h54 => ?_)
              refine v_sg (fun σ55 eσ55 => ?_)
              refine v_iinc S d_Mo_meet_184 rfl (v := (l6 + (1 : Int32))) (by first | rfl | decide) (by decide) (L2 := [some (.ref (b + 0)), none, none, some (.int l3), some (.int (1 : Int32)), some (.int l5), some (.int (l6 + (1 : Int32))), some (.int x23), some (.int x52)]) rfl ?_
              refine v_goto S d_Mo_meet_187 (tgt := 95) (by decide) ?_
              refine v_sub (L2 := [some (.ref (b + 0)), none, none, some (.int l3), some (.int (1 : Int32)), some (.int l5), some (.int (l6 + (1 : Int32)))]) (And.intro rfl (And.intro rfl (And.intro rfl (And.intro rfl (And.intro rfl True.intro))))) ?_
              exact ih σ55 l3 (1 : Int32) l5 (l6 + (1 : Int32))
            · refine v_iload S d_Mo_meet_156 rfl ?_
              refine v_iload S d_Mo_meet_158 rfl ?_
              refine v_icmp_eq S d_Mo_meet_160 (tgt := 167) (by decide) (fun h57 => ?_) (fun h57 => ?_)
              · refine v_iconst S d_Mo_meet_167 (v := (0 : Int32)) (by decide) ?_
                refine v_istoreP S d_Mo_meet_168 (by decide) (L2 := [some (.ref (b + 0)), none, none, some (.int l3), some (.int (0 : Int32)), some (.int l5), some (.int l6), some (.int x23), some (.int x52)]) rfl ?_
                refine v_aload_n S d_Mo_meet_170 rfl rfl ?_
                refine v_get S (fun w h => List.mem_cons_of_mem _ (i_Mo w h)) hKK.1 0 (by decide) rfl rfl 9 (by decide) (S.2.2.2.2 _ (List.mem_cons_of_mem _ (wd_750))) (fun _ h => h) rfl d_Mo_meet_171 ?_
                refine v_bipush S d_Mo_meet_174 (v := (12 : Int32)) (by decide) ?_
                refine v_iload_n S d_Mo_meet_176 rfl rfl ?_
                refine v_imul S d_Mo_meet_177 ?_
                refine v_iload S d_Mo_meet_178 rfl ?_
                refine v_iadd S d_Mo_meet_180 ?_
                refine v_iload S d_Mo_meet_181 rfl ?_
                refine v_iast1 S hKK.1 8 0 (by decide) (fun _ => rfl) rfl d_Mo_meet_183 (fun h58 => ?_)
                refine v_sg (fun σ59 eσ59 => ?_)
                refine v_iinc S d_Mo_meet_184 rfl (v := (l6 + (1 : Int32))) (by first | rfl | decide) (by decide) (L2 := [some (.ref (b + 0)), none, none, some (.int l3), some (.int (0 : Int32)), some (.int l5), some (.int (l6 + (1 : Int32))), some (.int x23), some (.int x52)]) rfl ?_
                refine v_goto S d_Mo_meet_187 (tgt := 95) (by decide) ?_
                refine v_sub (L2 := [some (.ref (b + 0)), none, none, some (.int l3), some (.int (0 : Int32)), some (.int l5), some (.int (l6 + (1 : Int32)))]) (And.intro rfl (And.intro rfl (And.intro rfl (And.intro rfl (And.intro rfl True.intro))))) ?_
                exact ih σ59 l3 (0 : Int32) l5 (l6 + (1 : Int32))
              · refine v_iconst S d_Mo_meet_163 (v := (1 : Int32)) (by decide) ?_
                refine v_goto S d_Mo_meet_164 (tgt := 168) (by decide) ?_
                refine v_istoreP S d_Mo_meet_168 (by decide) (L2 := [some (.ref (b + 0)), none, none, some (.int l3), some (.int (1 : Int32)), some (.int l5), some (.int l6), some (.int x23), some (.int x52)]) rfl ?_
                refine v_aload_n S d_Mo_meet_170 rfl rfl ?_
                refine v_get S (fun w h => List.mem_cons_of_mem _ (i_Mo w h)) hKK.1 0 (by decide) rfl rfl 9 (by decide) (S.2.2.2.2 _ (List.mem_cons_of_mem _ (wd_750))) (fun _ h => h) rfl d_Mo_meet_171 ?_
                refine v_bipush S d_Mo_meet_174 (v := (12 : Int32)) (by decide) ?_
                refine v_iload_n S d_Mo_meet_176 rfl rfl ?_
                refine v_imul S d_Mo_meet_177 ?_
                refine v_iload S d_Mo_meet_178 rfl ?_
                refine v_iadd S d_Mo_meet_180 ?_
                refine v_iload S d_Mo_meet_181 rfl ?_
                refine v_iast1 S hKK.1 8 0 (by decide) (fun _ => rfl) rfl d_Mo_meet_183 (fun h61 => ?_)
                refine v_sg (fun σ62 eσ62 => ?_)
                refine v_iinc S d_Mo_meet_184 rfl (v := (l6 + (1 : Int32))) (by first | rfl | decide) (by decide) (L2 := [some (.ref (b + 0)), none, none, some (.int l3), some (.int (1 : Int32)), some (.int l5), some (.int (l6 + (1 : Int32))), some (.int x23), some (.int x52)]) rfl ?_
                refine v_goto S d_Mo_meet_187 (tgt := 95) (by decide) ?_
                refine v_sub (L2 := [some (.ref (b + 0)), none, none, some (.int l3), some (.int (1 : Int32)), some (.int l5), some (.int (l6 + (1 : Int32)))]) (And.intro rfl (And.intro rfl (And.intro rfl (And.intro rfl (And.intro rfl True.intro))))) ?_
                exact ih σ62 l3 (1 : Int32) l5 (l6 + (1 : Int32))
  unfold fn_Mo_meet
  refine v_bipush S d_Mo_meet_0 (v := (100 : Int32)) (by decide) ?_
  refine v_iload_n S d_Mo_meet_2 rfl rfl ?_
  refine v_imul S d_Mo_meet_3 ?_
  refine v_iload_n S d_Mo_meet_4 rfl rfl ?_
  refine v_iadd S d_Mo_meet_5 ?_
  refine v_top (fun x1 ex1 => ?_)
  refine v_istore_nP S d_Mo_meet_6 rfl (by decide) (L2 := [some (.ref (b + 0)), some (.int a0), some (.int a1), some (.int x1)]) rfl ?_
  refine v_aload_n S d_Mo_meet_7 rfl rfl ?_
  refine v_get S (fun w h => List.mem_cons_of_mem _ (i_Mo w h)) hKK.1 0 (by decide) rfl rfl 8 (by decide) (S.2.2.2.2 _ (List.mem_cons_of_mem _ (wd_749))) (fun _ h => h) rfl d_Mo_meet_8 ?_
  refine v_iload_n S d_Mo_meet_11 rfl rfl ?_
  refine v_iald S hKK.1 7 0 (by decide) rfl rfl d_Mo_meet_12 (fun h2 => ?_)
  refine v_bipush S d_Mo_meet_13 (v := (-2 : Int32)) (by decide) ?_
  refine v_icmp_ne S d_Mo_meet_15 (tgt := 19) (by decide) (fun h3 => ?_) (fun h3 => ?_)
  · refine v_aload_n S d_Mo_meet_19 rfl rfl ?_
    refine v_get S (fun w h => List.mem_cons_of_mem _ (i_Mo w h)) hKK.1 0 (by decide) rfl rfl 8 (by decide) (S.2.2.2.2 _ (List.mem_cons_of_mem _ (wd_749))) (fun _ h => h) rfl d_Mo_meet_20 ?_
    refine v_iload_n S d_Mo_meet_23 rfl rfl ?_
    refine v_iald S hKK.1 7 0 (by decide) rfl rfl d_Mo_meet_24 (fun h4 => ?_)
    refine v_aload_n S d_Mo_meet_25 rfl rfl ?_
    refine v_get S (fun w h => List.mem_cons_of_mem _ (i_Mo w h)) hKK.1 0 (by decide) rfl rfl 11 (by decide) (S.2.2.2.2 _ (List.mem_cons_of_mem _ (wd_752))) (fun _ h => h) rfl d_Mo_meet_26 ?_
    refine v_icmp_eq S d_Mo_meet_29 (tgt := 36) (by decide) (fun h5 => ?_) (fun h5 => ?_)
    · refine v_iconst S d_Mo_meet_36 (v := (0 : Int32)) (by decide) ?_
      refine v_istoreP S d_Mo_meet_37 (by decide) (L2 := [some (.ref (b + 0)), some (.int a0), some (.int a1), some (.int x1), some (.int (0 : Int32))]) rfl ?_
      refine v_aload_n S d_Mo_meet_39 rfl rfl ?_
      refine v_get S (fun w h => List.mem_cons_of_mem _ (i_Mo w h)) hKK.1 0 (by decide) rfl rfl 8 (by decide) (S.2.2.2.2 _ (List.mem_cons_of_mem _ (wd_749))) (fun _ h => h) rfl d_Mo_meet_40 ?_
      refine v_iload_n S d_Mo_meet_43 rfl rfl ?_
      refine v_iald S hKK.1 7 0 (by decide) rfl rfl d_Mo_meet_44 (fun h6 => ?_)
      refine v_iconst S d_Mo_meet_45 (v := (-1 : Int32)) (by decide) ?_
      refine v_icmp_eq S d_Mo_meet_46 (tgt := 65) (by decide) (fun h7 => ?_) (fun h7 => ?_)
      · refine v_aload_n S d_Mo_meet_65 rfl rfl ?_
        refine v_get S (fun w h => List.mem_cons_of_mem _ (i_Mo w h)) hKK.1 0 (by decide) rfl rfl 8 (by decide) (S.2.2.2.2 _ (List.mem_cons_of_mem _ (wd_749))) (fun _ h => h) rfl d_Mo_meet_66 ?_
        refine v_iload_n S d_Mo_meet_69 rfl rfl ?_
        refine v_iald S hKK.1 7 0 (by decide) rfl rfl d_Mo_meet_70 (fun h8 => ?_)
        refine v_iconst S d_Mo_meet_71 (v := (-1 : Int32)) (by decide) ?_
        refine v_icmp_ne S d_Mo_meet_72 (tgt := 79) (by decide) (fun h9 => ?_) (fun h9 => ?_)
        · refine v_iconst S d_Mo_meet_79 (v := (0 : Int32)) (by decide) ?_
          refine v_istoreP S d_Mo_meet_80 (by decide) (L2 := [some (.ref (b + 0)), some (.int a0), some (.int a1), some (.int x1), some (.int (0 : Int32)), some (.int (0 : Int32))]) rfl ?_
          refine v_aload_n S d_Mo_meet_82 rfl rfl ?_
          refine v_get S (fun w h => List.mem_cons_of_mem _ (i_Mo w h)) hKK.1 0 (by decide) rfl rfl 8 (by decide) (S.2.2.2.2 _ (List.mem_cons_of_mem _ (wd_749))) (fun _ h => h) rfl d_Mo_meet_83 ?_
          refine v_iload_n S d_Mo_meet_86 rfl rfl ?_
          refine v_aload_n S d_Mo_meet_87 rfl rfl ?_
          refine v_get S (fun w h => List.mem_cons_of_mem _ (i_Mo w h)) hKK.1 0 (by decide) rfl rfl 11 (by decide) (S.2.2.2.2 _ (List.mem_cons_of_mem _ (wd_752))) (fun _ h => h) rfl d_Mo_meet_88 ?_
          refine v_iast1 S hKK.1 7 0 (by decide) (fun _ => rfl) rfl d_Mo_meet_91 (fun h10 => ?_)
          refine v_sg (fun σ11 eσ11 => ?_)
          refine v_iconst S d_Mo_meet_92 (v := (0 : Int32)) (by decide) ?_
          refine v_istoreP S d_Mo_meet_93 (by decide) (L2 := [some (.ref (b + 0)), some (.int a0), some (.int a1), some (.int x1), some (.int (0 : Int32)), some (.int (0 : Int32)), some (.int (0 : Int32))]) rfl ?_
          refine v_sub (L2 := [some (.ref (b + 0)), none, none, some (.int x1), some (.int (0 : Int32)), some (.int (0 : Int32)), some (.int (0 : Int32))]) (And.intro rfl (And.intro rfl (And.intro rfl (And.intro rfl (And.intro rfl True.intro))))) ?_
          exact C95 fuel0 σ11 x1 (0 : Int32) (0 : Int32) (0 : Int32)
        · refine v_iconst S d_Mo_meet_75 (v := (1 : Int32)) (by decide) ?_
          refine v_goto S d_Mo_meet_76 (tgt := 80) (by decide) ?_
          refine v_istoreP S d_Mo_meet_80 (by decide) (L2 := [some (.ref (b + 0)), some (.int a0), some (.int a1), some (.int x1), some (.int (0 : Int32)), some (.int (1 : Int32))]) rfl ?_
          refine v_aload_n S d_Mo_meet_82 rfl rfl ?_
          refine v_get S (fun w h => List.mem_cons_of_mem _ (i_Mo w h)) hKK.1 0 (by decide) rfl rfl 8 (by decide) (S.2.2.2.2 _ (List.mem_cons_of_mem _ (wd_749))) (fun _ h => h) rfl d_Mo_meet_83 ?_
          refine v_iload_n S d_Mo_meet_86 rfl rfl ?_
          refine v_aload_n S d_Mo_meet_87 rfl rfl ?_
          refine v_get S (fun w h => List.mem_cons_of_mem _ (i_Mo w h)) hKK.1 0 (by decide) rfl rfl 11 (by decide) (S.2.2.2.2 _ (List.mem_cons_of_mem _ (wd_752))) (fun _ h => h) rfl d_Mo_meet_88 ?_
          refine v_iast1 S hKK.1 7 0 (by decide) (fun _ => rfl) rfl d_Mo_meet_91 (fun h64 => ?_)
          refine v_sg (fun σ65 eσ65 => ?_)
          refine v_iconst S d_Mo_meet_92 (v := (0 : Int32)) (by decide) ?_
          refine v_istoreP S d_Mo_meet_93 (by decide) (L2 := [some (.ref (b + 0)), some (.int a0), some (.int a1), some (.int x1), some (.int (0 : Int32)), some (.int (1 : Int32)), some (.int (0 : Int32))]) rfl ?_
          refine v_sub (L2 := [some (.ref (b + 0)), none, none, some (.int x1), some (.int (0 : Int32)), some (.int (1 : Int32)), some (.int (0 : Int32))]) (And.intro rfl (And.intro rfl (And.intro rfl (And.intro rfl (And.intro rfl True.intro))))) ?_
          exact C95 fuel0 σ65 x1 (0 : Int32) (1 : Int32) (0 : Int32)
      · refine v_iload S d_Mo_meet_49 rfl ?_
        refine v_if_eqT S d_Mo_meet_51 (tgt := 65) (by decide) (by decide) ?_
        refine v_aload_n S d_Mo_meet_65 rfl rfl ?_
        refine v_get S (fun w h => List.mem_cons_of_mem _ (i_Mo w h)) hKK.1 0 (by decide) rfl rfl 8 (by decide) (S.2.2.2.2 _ (List.mem_cons_of_mem _ (wd_749))) (fun _ h => h) rfl d_Mo_meet_66 ?_
        refine v_iload_n S d_Mo_meet_69 rfl rfl ?_
        refine v_iald S hKK.1 7 0 (by decide) rfl rfl d_Mo_meet_70 (fun h66 => ?_)
        refine v_iconst S d_Mo_meet_71 (v := (-1 : Int32)) (by decide) ?_
        refine v_icmp_ne S d_Mo_meet_72 (tgt := 79) (by decide) (fun h67 => ?_) (fun h67 => ?_)
        · refine v_iconst S d_Mo_meet_79 (v := (0 : Int32)) (by decide) ?_
          refine v_istoreP S d_Mo_meet_80 (by decide) (L2 := [some (.ref (b + 0)), some (.int a0), some (.int a1), some (.int x1), some (.int (0 : Int32)), some (.int (0 : Int32))]) rfl ?_
          refine v_aload_n S d_Mo_meet_82 rfl rfl ?_
          refine v_get S (fun w h => List.mem_cons_of_mem _ (i_Mo w h)) hKK.1 0 (by decide) rfl rfl 8 (by decide) (S.2.2.2.2 _ (List.mem_cons_of_mem _ (wd_749))) (fun _ h => h) rfl d_Mo_meet_83 ?_
          refine v_iload_n S d_Mo_meet_86 rfl rfl ?_
          refine v_aload_n S d_Mo_meet_87 rfl rfl ?_
          refine v_get S (fun w h => List.mem_cons_of_mem _ (i_Mo w h)) hKK.1 0 (by decide) rfl rfl 11 (by decide) (S.2.2.2.2 _ (List.mem_cons_of_mem _ (wd_752))) (fun _ h => h) rfl d_Mo_meet_88 ?_
          refine v_iast1 S hKK.1 7 0 (by decide) (fun _ => rfl) rfl d_Mo_meet_91 (fun h68 => ?_)
          refine v_sg (fun σ69 eσ69 => ?_)
          refine v_iconst S d_Mo_meet_92 (v := (0 : Int32)) (by decide) ?_
          refine v_istoreP S d_Mo_meet_93 (by decide) (L2 := [some (.ref (b + 0)), some (.int a0), some (.int a1), some (.int x1), some (.int (0 : Int32)), some (.int (0 : Int32)), some (.int (0 : Int32))]) rfl ?_
          refine v_sub (L2 := [some (.ref (b + 0)), none, none, some (.int x1), some (.int (0 : Int32)), some (.int (0 : Int32)), some (.int (0 : Int32))]) (And.intro rfl (And.intro rfl (And.intro rfl (And.intro rfl (And.intro rfl True.intro))))) ?_
          exact C95 fuel0 σ69 x1 (0 : Int32) (0 : Int32) (0 : Int32)
        · refine v_iconst S d_Mo_meet_75 (v := (1 : Int32)) (by decide) ?_
          refine v_goto S d_Mo_meet_76 (tgt := 80) (by decide) ?_
          refine v_istoreP S d_Mo_meet_80 (by decide) (L2 := [some (.ref (b + 0)), some (.int a0), some (.int a1), some (.int x1), some (.int (0 : Int32)), some (.int (1 : Int32))]) rfl ?_
          refine v_aload_n S d_Mo_meet_82 rfl rfl ?_
          refine v_get S (fun w h => List.mem_cons_of_mem _ (i_Mo w h)) hKK.1 0 (by decide) rfl rfl 8 (by decide) (S.2.2.2.2 _ (List.mem_cons_of_mem _ (wd_749))) (fun _ h => h) rfl d_Mo_meet_83 ?_
          refine v_iload_n S d_Mo_meet_86 rfl rfl ?_
          refine v_aload_n S d_Mo_meet_87 rfl rfl ?_
          refine v_get S (fun w h => List.mem_cons_of_mem _ (i_Mo w h)) hKK.1 0 (by decide) rfl rfl 11 (by decide) (S.2.2.2.2 _ (List.mem_cons_of_mem _ (wd_752))) (fun _ h => h) rfl d_Mo_meet_88 ?_
          refine v_iast1 S hKK.1 7 0 (by decide) (fun _ => rfl) rfl d_Mo_meet_91 (fun h70 => ?_)
          refine v_sg (fun σ71 eσ71 => ?_)
          refine v_iconst S d_Mo_meet_92 (v := (0 : Int32)) (by decide) ?_
          refine v_istoreP S d_Mo_meet_93 (by decide) (L2 := [some (.ref (b + 0)), some (.int a0), some (.int a1), some (.int x1), some (.int (0 : Int32)), some (.int (1 : Int32)), some (.int (0 : Int32))]) rfl ?_
          refine v_sub (L2 := [some (.ref (b + 0)), none, none, some (.int x1), some (.int (0 : Int32)), some (.int (1 : Int32)), some (.int (0 : Int32))]) (And.intro rfl (And.intro rfl (And.intro rfl (And.intro rfl (And.intro rfl True.intro))))) ?_
          exact C95 fuel0 σ71 x1 (0 : Int32) (1 : Int32) (0 : Int32)
    · refine v_iconst S d_Mo_meet_32 (v := (1 : Int32)) (by decide) ?_
      refine v_goto S d_Mo_meet_33 (tgt := 37) (by decide) ?_
      refine v_istoreP S d_Mo_meet_37 (by decide) (L2 := [some (.ref (b + 0)), some (.int a0), some (.int a1), some (.int x1), some (.int (1 : Int32))]) rfl ?_
      refine v_aload_n S d_Mo_meet_39 rfl rfl ?_
      refine v_get S (fun w h => List.mem_cons_of_mem _ (i_Mo w h)) hKK.1 0 (by decide) rfl rfl 8 (by decide) (S.2.2.2.2 _ (List.mem_cons_of_mem _ (wd_749))) (fun _ h => h) rfl d_Mo_meet_40 ?_
      refine v_iload_n S d_Mo_meet_43 rfl rfl ?_
      refine v_iald S hKK.1 7 0 (by decide) rfl rfl d_Mo_meet_44 (fun h72 => ?_)
      refine v_iconst S d_Mo_meet_45 (v := (-1 : Int32)) (by decide) ?_
      refine v_icmp_eq S d_Mo_meet_46 (tgt := 65) (by decide) (fun h73 => ?_) (fun h73 => ?_)
      · refine v_aload_n S d_Mo_meet_65 rfl rfl ?_
        refine v_get S (fun w h => List.mem_cons_of_mem _ (i_Mo w h)) hKK.1 0 (by decide) rfl rfl 8 (by decide) (S.2.2.2.2 _ (List.mem_cons_of_mem _ (wd_749))) (fun _ h => h) rfl d_Mo_meet_66 ?_
        refine v_iload_n S d_Mo_meet_69 rfl rfl ?_
        refine v_iald S hKK.1 7 0 (by decide) rfl rfl d_Mo_meet_70 (fun h74 => ?_)
        refine v_iconst S d_Mo_meet_71 (v := (-1 : Int32)) (by decide) ?_
        refine v_icmp_ne S d_Mo_meet_72 (tgt := 79) (by decide) (fun h75 => ?_) (fun h75 => ?_)
        · refine v_iconst S d_Mo_meet_79 (v := (0 : Int32)) (by decide) ?_
          refine v_istoreP S d_Mo_meet_80 (by decide) (L2 := [some (.ref (b + 0)), some (.int a0), some (.int a1), some (.int x1), some (.int (1 : Int32)), some (.int (0 : Int32))]) rfl ?_
          refine v_aload_n S d_Mo_meet_82 rfl rfl ?_
          refine v_get S (fun w h => List.mem_cons_of_mem _ (i_Mo w h)) hKK.1 0 (by decide) rfl rfl 8 (by decide) (S.2.2.2.2 _ (List.mem_cons_of_mem _ (wd_749))) (fun _ h => h) rfl d_Mo_meet_83 ?_
          refine v_iload_n S d_Mo_meet_86 rfl rfl ?_
          refine v_aload_n S d_Mo_meet_87 rfl rfl ?_
          refine v_get S (fun w h => List.mem_cons_of_mem _ (i_Mo w h)) hKK.1 0 (by decide) rfl rfl 11 (by decide) (S.2.2.2.2 _ (List.mem_cons_of_mem _ (wd_752))) (fun _ h => h) rfl d_Mo_meet_88 ?_
          refine v_iast1 S hKK.1 7 0 (by decide) (fun _ => rfl) rfl d_Mo_meet_91 (fun h76 => ?_)
          refine v_sg (fun σ77 eσ77 => ?_)
          refine v_iconst S d_Mo_meet_92 (v := (0 : Int32)) (by decide) ?_
          refine v_istoreP S d_Mo_meet_93 (by decide) (L2 := [some (.ref (b + 0)), some (.int a0), some (.int a1), some (.int x1), some (.int (1 : Int32)), some (.int (0 : Int32)), some (.int (0 : Int32))]) rfl ?_
          refine v_sub (L2 := [some (.ref (b + 0)), none, none, some (.int x1), some (.int (1 : Int32)), some (.int (0 : Int32)), some (.int (0 : Int32))]) (And.intro rfl (And.intro rfl (And.intro rfl (And.intro rfl (And.intro rfl True.intro))))) ?_
          exact C95 fuel0 σ77 x1 (1 : Int32) (0 : Int32) (0 : Int32)
        · refine v_iconst S d_Mo_meet_75 (v := (1 : Int32)) (by decide) ?_
          refine v_goto S d_Mo_meet_76 (tgt := 80) (by decide) ?_
          refine v_istoreP S d_Mo_meet_80 (by decide) (L2 := [some (.ref (b + 0)), some (.int a0), some (.int a1), some (.int x1), some (.int (1 : Int32)), some (.int (1 : Int32))]) rfl ?_
          refine v_aload_n S d_Mo_meet_82 rfl rfl ?_
          refine v_get S (fun w h => List.mem_cons_of_mem _ (i_Mo w h)) hKK.1 0 (by decide) rfl rfl 8 (by decide) (S.2.2.2.2 _ (List.mem_cons_of_mem _ (wd_749))) (fun _ h => h) rfl d_Mo_meet_83 ?_
          refine v_iload_n S d_Mo_meet_86 rfl rfl ?_
          refine v_aload_n S d_Mo_meet_87 rfl rfl ?_
          refine v_get S (fun w h => List.mem_cons_of_mem _ (i_Mo w h)) hKK.1 0 (by decide) rfl rfl 11 (by decide) (S.2.2.2.2 _ (List.mem_cons_of_mem _ (wd_752))) (fun _ h => h) rfl d_Mo_meet_88 ?_
          refine v_iast1 S hKK.1 7 0 (by decide) (fun _ => rfl) rfl d_Mo_meet_91 (fun h78 => ?_)
          refine v_sg (fun σ79 eσ79 => ?_)
          refine v_iconst S d_Mo_meet_92 (v := (0 : Int32)) (by decide) ?_
          refine v_istoreP S d_Mo_meet_93 (by decide) (L2 := [some (.ref (b + 0)), some (.int a0), some (.int a1), some (.int x1), some (.int (1 : Int32)), some (.int (1 : Int32)), some (.int (0 : Int32))]) rfl ?_
          refine v_sub (L2 := [some (.ref (b + 0)), none, none, some (.int x1), some (.int (1 : Int32)), some (.int (1 : Int32)), some (.int (0 : Int32))]) (And.intro rfl (And.intro rfl (And.intro rfl (And.intro rfl (And.intro rfl True.intro))))) ?_
          exact C95 fuel0 σ79 x1 (1 : Int32) (1 : Int32) (0 : Int32)
      · refine v_iload S d_Mo_meet_49 rfl ?_
        refine v_if_eqF S d_Mo_meet_51 (tgt := 65) (by decide) (by decide) ?_
        refine v_aload_n S d_Mo_meet_54 rfl rfl ?_
        refine v_get S (fun w h => List.mem_cons_of_mem _ (i_Mo w h)) hKK.1 0 (by decide) rfl rfl 8 (by decide) (S.2.2.2.2 _ (List.mem_cons_of_mem _ (wd_749))) (fun _ h => h) rfl d_Mo_meet_55 ?_
        refine v_iload_n S d_Mo_meet_58 rfl rfl ?_
        refine v_bipush S d_Mo_meet_59 (v := (-2 : Int32)) (by decide) ?_
        refine v_iast1 S hKK.1 7 0 (by decide) (fun _ => rfl) rfl d_Mo_meet_61 (fun h80 => ?_)
        refine v_sg (fun σ81 eσ81 => ?_)
        refine v_goto S d_Mo_meet_62 (tgt := 190) (by decide) ?_
        refine v_sub (L2 := [some (.ref (b + 0)), none, none, some (.int x1), some (.int (1 : Int32))]) (And.intro rfl (And.intro rfl (And.intro rfl True.intro))) ?_
        exact C190 σ81 x1 (1 : Int32)
  · exact v_vret S hret hlocks d_Mo_meet_18
end
section
/-! contracts of 20.model; written by wip/whole/make.py -/
def fn_Mo_fits_31 (a0 : Int32) (a1 : Int32) : Nat → mm_M → Int32 → Int32 → Option (Int32 × mm_M)
  | 0, _, _, _ => none
  | n + 1, σ, l3, l4 =>
    (if (12 : Int32) ≤ l4 then
    (bv (fn_Mo_tryOut σ a0 a1) (fun σ7 =>
    (if (σ7 0 13) = 0 then
    (if (1 : Int32) = 0 ∨ (1 : Int32) = 1 then some ((1 : Int32), σ7) else none)
    else
    (if (0 : Int32) = 0 ∨ (0 : Int32) = 1 then some ((0 : Int32), σ7) else none))))
    else
    (if ((((12 : Int32) * l3) + l4) < 0 ∨ 4800 ≤ (((12 : Int32) * l3) + l4).toNatClampNeg) then none else
    (if (l4 < 0 ∨ 12 ≤ l4.toNatClampNeg) then none else (nm (mw σ 10 l4.toNatClampNeg (σ 8 (((12 : Int32) * l3) + l4).toNatClampNeg)) (fun σ11 =>
    (fn_Mo_fits_31 a0 a1 n σ11 l3 (l4 + (1 : Int32))))))))
def fn_Mo_fits (σ : mm_M) (a0 : Int32) (a1 : Int32) : Option (Int32 × mm_M) :=
    (nm (((100 : Int32) * a0) + a1) (fun x1 =>
    (if (x1 < 0 ∨ 400 ≤ x1.toNatClampNeg) then none else
    (if 0 ≤ (σ 7 x1.toNatClampNeg) then
    (if (x1 < 0 ∨ 400 ≤ x1.toNatClampNeg) then none else
    (nm (mw σ 0 11 (σ 7 x1.toNatClampNeg)) (fun σ5 =>
    (fn_Mo_fits_31 a0 a1 fuel0 σ5 x1 (0 : Int32)))))
    else
    (if (0 : Int32) = 0 ∨ (0 : Int32) = 1 then some ((0 : Int32), σ) else none)))))
set_option maxRecDepth 100000 in
set_option maxHeartbeats 40000000 in
theorem c_Mo_fits (l : Launch) (D : va_G) (ca : Nat → ClassId) (ax : Nat → Nat → Nat) (b : Nat) (σ : mm_M) (a0 : Int32) (a1 : Int32)  {r : Int32} {σ' : mm_M} (hf : fn_Mo_fits σ a0 a1 = some (r, σ')) : Met l y_Mo_fits w_Mo_fits rm_Mo_fits (pc_w D cls b N_M (ce_M ca b) (kM D ca ax b) [.ref (b + 0), .int a0, .int a1] σ) (qc_i D cls b N_M (ce_M ca b) r σ') 0 0 (mm_A b N_M) := by
  refine vv_go (cc := b_Mo_fits) (maxL := 5) (ret := (some .boolean)) (fin := (r, σ')) (k := fn_Mo_fits σ a0 a1) (by decide) rfl (by simp [Value.category]) (Nat.le_of_ble_eq_true rfl) hf ?_
  intro p e s m below meth c hlocks hret S hKK
  have C31 : ∀ (n : Nat) (σ : mm_M) (l3 : Int32) (l4 : Int32), vv p l e (headSpec w_Mo_fits rm_Mo_fits).room s m [.ref (b + 0), .int a0, .int a1].toArray below meth c D cls b N_M (ce_M ca b) 5 (MQ below (qc_i D cls b N_M (ce_M ca b) r σ') [.ref (b + 0), .int a0, .int a1].toArray s 0 0 (mm_A b N_M)) (r, σ') (fn_Mo_fits_31 a0 a1 n σ l3 l4) σ 31 [some (.ref (b + 0)), some (.int a0), some (.int a1), some (.int l3), some (.int l4)] [] := by
    intro n
    induction n with
    | zero => intro σ l3 l4  h; cases h
    | succ n ih =>
      intro σ l3 l4
      show vv p l e (headSpec w_Mo_fits rm_Mo_fits).room s m [.ref (b + 0), .int a0, .int a1].toArray below meth c D cls b N_M (ce_M ca b) 5 (MQ below (qc_i D cls b N_M (ce_M ca b) r σ') [.ref (b + 0), .int a0, .int a1].toArray s 0 0 (mm_A b N_M)) (r, σ') (        (if (12 : Int32) ≤ l4 then
        (bv (fn_Mo_tryOut σ a0 a1) (fun σ7 =>
        (if (σ7 0 13) = 0 then
        (if (1 : Int32) = 0 ∨ (1 : Int32) = 1 then some ((1 : Int32), σ7) else none)
        else
        (if (0 : Int32) = 0 ∨ (0 : Int32) = 1 then some ((0 : Int32), σ7) else none))))
        else
        (if ((((12 : Int32) * l3) + l4) < 0 ∨ 4800 ≤ (((12 : Int32) * l3) + l4).toNatClampNeg) then none else
        (if (l4 < 0 ∨ 12 ≤ l4.toNatClampNeg) then none else (nm (mw σ 10 l4.toNatClampNeg (σ 8 (((12 : Int32) * l3) + l4).toNatClampNeg)) (fun σ11 =>
        (fn_Mo_fits_31 a0 a1 n σ11 l3 (l4 + (1 : Int32))))))))) σ 31 [some (.ref (b + 0)), some (.int a0), some (.int a1), some (.int l3), some (.int l4)] []
      refine v_iload S d_Mo_fits_31 rfl ?_
      refine v_bipush S d_Mo_fits_33 (v := (12 : Int32)) (by decide) ?_
      refine v_icmp_ge S d_Mo_fits_35 (tgt := 63) (by decide) (fun h6 => ?_) (fun h6 => ?_)
      · refine v_aload_n S d_Mo_fits_63 rfl rfl ?_
        refine v_iload_n S d_Mo_fits_64 rfl rfl ?_
        refine v_iload_n S d_Mo_fits_65 rfl rfl ?_
        refine v_cv (rest := []) (fun _ hg H locs ls hsz hP hS => run_V (As := [.int a0, .int a1]) (rest := []) S kM_ok hKK (c_Mo_tryOut l D ca ax b σ a0 a1 hg) (k_Mo_117 S.2.2.2.2 (fun _ => List.mem_cons_of_mem _) ⟨Nat.le_of_ble_eq_true rfl, Nat.le_of_ble_eq_true rfl⟩) (rc_w hKK.1 hP 0 (by decide) rfl rfl) rfl rfl (Nat.zero_le _) d_Mo_fits_66 hsz hP hS) (fun σ7 _ => ?_)
        refine v_aload_n S d_Mo_fits_69 rfl rfl ?_
        refine v_get S (fun w h => List.mem_cons_of_mem _ (i_Mo w h)) hKK.1 0 (by decide) rfl rfl 13 (by decide) (S.2.2.2.2 _ (List.mem_cons_of_mem _ (wd_754))) (fun _ h => h) rfl d_Mo_fits_70 ?_
        refine v_if_ne S d_Mo_fits_73 (tgt := 80) (by decide) (fun h8 => ?_) (fun h8 => ?_)
        · refine v_iconst S d_Mo_fits_80 (v := (0 : Int32)) (by decide) ?_
          exact v_zret S hret hlocks d_Mo_fits_81
        · refine v_iconst S d_Mo_fits_76 (v := (1 : Int32)) (by decide) ?_
          refine v_goto S d_Mo_fits_77 (tgt := 81) (by decide) ?_
          exact v_zret S hret hlocks d_Mo_fits_81
      · refine v_aload_n S d_Mo_fits_38 rfl rfl ?_
        refine v_get S (fun w h => List.mem_cons_of_mem _ (i_Mo w h)) hKK.1 0 (by decide) rfl rfl 12 (by decide) (S.2.2.2.2 _ (List.mem_cons_of_mem _ (wd_753))) (fun _ h => h) rfl d_Mo_fits_39 ?_
        refine v_iload S d_Mo_fits_42 rfl ?_
        refine v_aload_n S d_Mo_fits_44 rfl rfl ?_
        refine v_get S (fun w h => List.mem_cons_of_mem _ (i_Mo w h)) hKK.1 0 (by decide) rfl rfl 9 (by decide) (S.2.2.2.2 _ (List.mem_cons_of_mem _ (wd_750))) (fun _ h => h) rfl d_Mo_fits_45 ?_
        refine v_bipush S d_Mo_fits_48 (v := (12 : Int32)) (by decide) ?_
        refine v_iload_n S d_Mo_fits_50 rfl rfl ?_
        refine v_imul S d_Mo_fits_51 ?_
        refine v_iload S d_Mo_fits_52 rfl ?_
        refine v_iadd S d_Mo_fits_54 ?_
        refine v_iald S hKK.1 8 0 (by decide) rfl rfl d_Mo_fits_55 (fun h9 => ?_)
        refine v_iast1 S hKK.1 10 0 (by decide) (fun _ => rfl) rfl d_Mo_fits_56 (fun h10 => ?_)
        refine v_sg (fun σ11 eσ11 => ?_)
        refine v_iinc S d_Mo_fits_57 rfl (v := (l4 + (1 : Int32))) (by first | rfl | decide) (by decide) (L2 := [some (.ref (b + 0)), some (.int a0), some (.int a1), some (.int l3), some (.int (l4 + (1 : Int32)))]) rfl ?_
        refine v_goto S d_Mo_fits_60 (tgt := 31) (by decide) ?_
        refine v_sub (L2 := [some (.ref (b + 0)), some (.int a0), some (.int a1), some (.int l3), some (.int (l4 + (1 : Int32)))]) (And.intro rfl (And.intro rfl (And.intro rfl (And.intro rfl (And.intro rfl True.intro))))) ?_
        exact ih σ11 l3 (l4 + (1 : Int32))
  unfold fn_Mo_fits
  refine v_bipush S d_Mo_fits_0 (v := (100 : Int32)) (by decide) ?_
  refine v_iload_n S d_Mo_fits_2 rfl rfl ?_
  refine v_imul S d_Mo_fits_3 ?_
  refine v_iload_n S d_Mo_fits_4 rfl rfl ?_
  refine v_iadd S d_Mo_fits_5 ?_
  refine v_top (fun x1 ex1 => ?_)
  refine v_istore_nP S d_Mo_fits_6 rfl (by decide) (L2 := [some (.ref (b + 0)), some (.int a0), some (.int a1), some (.int x1)]) rfl ?_
  refine v_aload_n S d_Mo_fits_7 rfl rfl ?_
  refine v_get S (fun w h => List.mem_cons_of_mem _ (i_Mo w h)) hKK.1 0 (by decide) rfl rfl 8 (by decide) (S.2.2.2.2 _ (List.mem_cons_of_mem _ (wd_749))) (fun _ h => h) rfl d_Mo_fits_8 ?_
  refine v_iload_n S d_Mo_fits_11 rfl rfl ?_
  refine v_iald S hKK.1 7 0 (by decide) rfl rfl d_Mo_fits_12 (fun h2 => ?_)
  refine v_if_ge S d_Mo_fits_13 (tgt := 18) (by decide) (fun h3 => ?_) (fun h3 => ?_)
  · refine v_aload_n S d_Mo_fits_18 rfl rfl ?_
    refine v_aload_n S d_Mo_fits_19 rfl rfl ?_
    refine v_get S (fun w h => List.mem_cons_of_mem _ (i_Mo w h)) hKK.1 0 (by decide) rfl rfl 8 (by decide) (S.2.2.2.2 _ (List.mem_cons_of_mem _ (wd_749))) (fun _ h => h) rfl d_Mo_fits_20 ?_
    refine v_iload_n S d_Mo_fits_23 rfl rfl ?_
    refine v_iald S hKK.1 7 0 (by decide) rfl rfl d_Mo_fits_24 (fun h4 => ?_)
    refine v_puti S (fun w h => List.mem_cons_of_mem _ (i_Mo w h)) hKK.1 0 (by decide) rfl rfl 11 (by decide) (S.2.2.2.2 _ (List.mem_cons_of_mem _ (wd_752))) (fun _ h => h) t_Mo t_Mo_ok n_Mo rfl (ty := .int) rfl rfl rfl (Nat.le_of_ble_eq_true rfl) rfl d_Mo_fits_25 ?_
    refine v_sg (fun σ5 eσ5 => ?_)
    refine v_iconst S d_Mo_fits_28 (v := (0 : Int32)) (by decide) ?_
    refine v_istoreP S d_Mo_fits_29 (by decide) (L2 := [some (.ref (b + 0)), some (.int a0), some (.int a1), some (.int x1), some (.int (0 : Int32))]) rfl ?_
    refine v_sub (L2 := [some (.ref (b + 0)), some (.int a0), some (.int a1), some (.int x1), some (.int (0 : Int32))]) (And.intro rfl (And.intro rfl (And.intro rfl (And.intro rfl (And.intro rfl True.intro))))) ?_
    exact C31 fuel0 σ5 x1 (0 : Int32)
  · refine v_iconst S d_Mo_fits_16 (v := (0 : Int32)) (by decide) ?_
    exact v_zret S hret hlocks d_Mo_fits_17
def fn_Mo_work_215 (a0 : Int32) : Nat → mm_M → Int32 → Option (Int32 × mm_M)
  | 0, _, _ => none
  | n + 1, σ, l3 =>
    (if (σ 0 0) ≤ l3 then
    (some ((-1 : Int32), σ))
    else
    (if ((((100 : Int32) * a0) + l3) < 0 ∨ 400 ≤ (((100 : Int32) * a0) + l3).toNatClampNeg) then none else
    (if (σ 7 (((100 : Int32) * a0) + l3).toNatClampNeg) = (-1 : Int32) then
    (fn_Mo_work_215 a0 n σ (l3 + (1 : Int32)))
    else
    (bd (fn_Mo_fits σ a0 l3) (fun r19 σ18 =>
    (if r19 = 0 then
    (some (l3, σ18))
    else
    (fn_Mo_work_215 a0 n σ18 (l3 + (1 : Int32)))))))))
def fn_Mo_work_122 (a0 : Int32) : Nat → mm_M → Int32 → Option (Int32 × mm_M)
  | 0, _, _ => none
  | n + 1, σ, l2 =>
    (if (σ 0 0) ≤ l2 then
    (fn_Mo_work_215 a0 fuel0 σ (0 : Int32))
    else
    (if ((((100 : Int32) * a0) + l2) < 0 ∨ 400 ≤ (((100 : Int32) * a0) + l2).toNatClampNeg) then none else
    (if (σ 9 (((100 : Int32) * a0) + l2).toNatClampNeg) = 0 then
    (fn_Mo_work_122 a0 n σ (l2 + (1 : Int32)))
    else
    (if ((((100 : Int32) * a0) + l2) < 0 ∨ 400 ≤ (((100 : Int32) * a0) + l2).toNatClampNeg) then none else (nm (mw σ 9 (((100 : Int32) * a0) + l2).toNatClampNeg (0 : Int32)) (fun σ26 =>
    (bd (fn_Mo_fits σ26 a0 l2) (fun r28 σ27 =>
    (if r28 = 0 then
    (if r28 = 0 then
    (fn_Mo_work_122 a0 n σ27 (0 : Int32))
    else
    (if (σ27 0 15) < 0 then
    (fn_Mo_work_122 a0 n σ27 (0 : Int32))
    else
    (bv (fn_Mo_meet σ27 a0 (σ27 0 15)) (fun σ32 =>
    (fn_Mo_work_122 a0 n σ32 (0 : Int32))))))
    else
    (if (σ27 0 14) = 0 then
    (if r28 = 0 then
    (fn_Mo_work_122 a0 n σ27 (0 : Int32))
    else
    (if (σ27 0 15) < 0 then
    (fn_Mo_work_122 a0 n σ27 (0 : Int32))
    else
    (bv (fn_Mo_meet σ27 a0 (σ27 0 15)) (fun σ36 =>
    (fn_Mo_work_122 a0 n σ36 (0 : Int32))))))
    else
    (bv (fn_Mo_meet σ27 a0 (l2 + (1 : Int32))) (fun σ37 =>
    (if r28 = 0 then
    (fn_Mo_work_122 a0 n σ37 (0 : Int32))
    else
    (if (σ37 0 15) < 0 then
    (fn_Mo_work_122 a0 n σ37 (0 : Int32))
    else
    (bv (fn_Mo_meet σ37 a0 (σ37 0 15)) (fun σ40 =>
    (fn_Mo_work_122 a0 n σ40 (0 : Int32))))))))))))))))))
def fn_Mo_work_71 (a0 : Int32) : Nat → mm_M → Int32 → Option (Int32 × mm_M)
  | 0, _, _ => none
  | n + 1, σ, l2 =>
    (if (6 : Int32) ≤ l2 then
    (if (a0 < 0 ∨ 4 ≤ a0.toNatClampNeg) then none else
    (bv (fn_Mo_meet σ a0 (σ 4 a0.toNatClampNeg)) (fun σ12 =>
    (fn_Mo_work_122 a0 fuel0 σ12 (0 : Int32)))))
    else
    (if (a0 < 0 ∨ 4 ≤ a0.toNatClampNeg) then none else
    (if (σ 5 a0.toNatClampNeg) ≤ l2 then
    (if (l2 < 0 ∨ 12 ≤ l2.toNatClampNeg) then none else (nm (mw σ 10 l2.toNatClampNeg (0 : Int32)) (fun σ44 =>
    (fn_Mo_work_71 a0 n σ44 (l2 + (1 : Int32))))))
    else
    (bd (fn_Mo_kindOf σ a0 l2) (fun r47 σ46 =>
    (if (l2 < 0 ∨ 12 ≤ l2.toNatClampNeg) then none else (nm (mw σ46 10 l2.toNatClampNeg r47) (fun σ49 =>
    (fn_Mo_work_71 a0 n σ49 (l2 + (1 : Int32)))))))))))
def fn_Mo_work_5 (a0 : Int32) : Nat → mm_M → Int32 → Option (Int32 × mm_M)
  | 0, _, _ => none
  | n + 1, σ, l2 =>
    (if (((100 : Int32) * a0) + (100 : Int32)) ≤ l2 then
    (if (a0 < 0 ∨ 4 ≤ a0.toNatClampNeg) then none else
    (if (σ 3 a0.toNatClampNeg) = 0 then
    (some ((-1 : Int32), σ))
    else
    (if (a0 < 0 ∨ 4 ≤ a0.toNatClampNeg) then none else
    (bd (fn_Mo_isAddress σ (σ 4 a0.toNatClampNeg)) (fun r7 σ6 =>
    (if r7 = 0 then
    (some ((999 : Int32), σ6))
    else
    (nm (mw σ6 0 11 (0 : Int32)) (fun σ9 =>
    (fn_Mo_work_71 a0 fuel0 σ9 (0 : Int32))))))))))
    else
    (if (l2 < 0 ∨ 400 ≤ l2.toNatClampNeg) then none else (nm (mw σ 7 l2.toNatClampNeg (-1 : Int32)) (fun σ52 =>
    (if (l2 < 0 ∨ 400 ≤ l2.toNatClampNeg) then none else (nm (mw σ52 9 l2.toNatClampNeg (0 : Int32)) (fun σ54 =>
    (fn_Mo_work_5 a0 n σ54 (l2 + (1 : Int32))))))))))
def fn_Mo_work (σ : mm_M) (a0 : Int32) : Option (Int32 × mm_M) :=
    (nm ((100 : Int32) * a0) (fun x1 =>
    (fn_Mo_work_5 a0 fuel0 σ x1)))
set_option maxRecDepth 100000 in
set_option maxHeartbeats 40000000 in
theorem c_Mo_work (l : Launch) (D : va_G) (ca : Nat → ClassId) (ax : Nat → Nat → Nat) (b : Nat) (σ : mm_M) (a0 : Int32)  {r : Int32} {σ' : mm_M} (hf : fn_Mo_work σ a0 = some (r, σ')) : Met l y_Mo_work w_Mo_work rm_Mo_work (pc_w D cls b N_M (ce_M ca b) (kM D ca ax b) [.ref (b + 0), .int a0] σ) (qc_i D cls b N_M (ce_M ca b) r σ') 0 0 (mm_A b N_M) := by
  refine vv_go (cc := b_Mo_work) (maxL := 4) (ret := (some .int)) (fin := (r, σ')) (k := fn_Mo_work σ a0) (by decide) rfl (by simp [Value.category]) (Nat.le_of_ble_eq_true rfl) hf ?_
  intro p e s m below meth c hlocks hret S hKK
  have C215 : ∀ (n : Nat) (σ : mm_M) (l3 : Int32), vv p l e (headSpec w_Mo_work rm_Mo_work).room s m [.ref (b + 0), .int a0].toArray below meth c D cls b N_M (ce_M ca b) 4 (MQ below (qc_i D cls b N_M (ce_M ca b) r σ') [.ref (b + 0), .int a0].toArray s 0 0 (mm_A b N_M)) (r, σ') (fn_Mo_work_215 a0 n σ l3) σ 215 [some (.ref (b + 0)), some (.int a0), none, some (.int l3)] [] := by
    intro n
    induction n with
    | zero => intro σ l3  h; cases h
    | succ n ih =>
      intro σ l3
      show vv p l e (headSpec w_Mo_work rm_Mo_work).room s m [.ref (b + 0), .int a0].toArray below meth c D cls b N_M (ce_M ca b) 4 (MQ below (qc_i D cls b N_M (ce_M ca b) r σ') [.ref (b + 0), .int a0].toArray s 0 0 (mm_A b N_M)) (r, σ') (        (if (σ 0 0) ≤ l3 then
        (some ((-1 : Int32), σ))
        else
        (if ((((100 : Int32) * a0) + l3) < 0 ∨ 400 ≤ (((100 : Int32) * a0) + l3).toNatClampNeg) then none else
        (if (σ 7 (((100 : Int32) * a0) + l3).toNatClampNeg) = (-1 : Int32) then
        (fn_Mo_work_215 a0 n σ (l3 + (1 : Int32)))
        else
        (bd (fn_Mo_fits σ a0 l3) (fun r19 σ18 =>
        (if r19 = 0 then
        (some (l3, σ18))
        else
        (fn_Mo_work_215 a0 n σ18 (l3 + (1 : Int32)))))))))) σ 215 [some (.ref (b + 0)), some (.int a0), none, some (.int l3)] []
      refine v_iload_n S d_Mo_work_215 rfl rfl ?_
      refine v_aload_n S d_Mo_work_216 rfl rfl ?_
      refine v_get S (fun w h => List.mem_cons_of_mem _ (i_Mo w h)) hKK.1 0 (by decide) rfl rfl 0 (by decide) (S.2.2.2.2 _ (List.mem_cons_of_mem _ (wd_741))) (fun _ h => h) rfl d_Mo_work_217 ?_
      refine v_icmp_ge S d_Mo_work_220 (tgt := 255) (by decide) (fun h14 => ?_) (fun h14 => ?_)
      · refine v_iconst S d_Mo_work_255 (v := (-1 : Int32)) (by decide) ?_
        exact v_iret S hret hlocks d_Mo_work_256
      · refine v_aload_n S d_Mo_work_223 rfl rfl ?_
        refine v_get S (fun w h => List.mem_cons_of_mem _ (i_Mo w h)) hKK.1 0 (by decide) rfl rfl 8 (by decide) (S.2.2.2.2 _ (List.mem_cons_of_mem _ (wd_749))) (fun _ h => h) rfl d_Mo_work_224 ?_
        refine v_bipush S d_Mo_work_227 (v := (100 : Int32)) (by decide) ?_
        refine v_iload_n S d_Mo_work_229 rfl rfl ?_
        refine v_imul S d_Mo_work_230 ?_
        refine v_iload_n S d_Mo_work_231 rfl rfl ?_
        refine v_iadd S d_Mo_work_232 ?_
        refine v_iald S hKK.1 7 0 (by decide) rfl rfl d_Mo_work_233 (fun h15 => ?_)
        refine v_iconst S d_Mo_work_234 (v := (-1 : Int32)) (by decide) ?_
        refine v_icmp_eq S d_Mo_work_235 (tgt := 249) (by decide) (fun h16 => ?_) (fun h16 => ?_)
        · refine v_iinc S d_Mo_work_249 rfl (v := (l3 + (1 : Int32))) (by first | rfl | decide) (by decide) (L2 := [some (.ref (b + 0)), some (.int a0), none, some (.int (l3 + (1 : Int32)))]) rfl ?_
          refine v_goto S d_Mo_work_252 (tgt := 215) (by decide) ?_
          refine v_sub (L2 := [some (.ref (b + 0)), some (.int a0), none, some (.int (l3 + (1 : Int32)))]) (And.intro rfl (And.intro rfl (And.intro rfl True.intro))) ?_
          exact ih σ (l3 + (1 : Int32))
        · refine v_aload_n S d_Mo_work_238 rfl rfl ?_
          refine v_iload_n S d_Mo_work_239 rfl rfl ?_
          refine v_iload_n S d_Mo_work_240 rfl rfl ?_
          refine v_ci (rest := []) (fun _ _ hg H locs ls hsz hP hS => run_V (As := [.int a0, .int l3]) (rest := []) S kM_ok hKK (c_Mo_fits l D ca ax b σ a0 l3 hg) (k_Mo_123 S.2.2.2.2 (fun _ => List.mem_cons_of_mem _) ⟨Nat.le_of_ble_eq_true rfl, Nat.le_of_ble_eq_true rfl⟩) (rc_w hKK.1 hP 0 (by decide) rfl rfl) rfl rfl (Nat.zero_le _) d_Mo_work_241 hsz hP hS) (fun r19 σ18 _ => ?_)
          refine v_if_ne S d_Mo_work_244 (tgt := 249) (by decide) (fun h20 => ?_) (fun h20 => ?_)
          · refine v_iinc S d_Mo_work_249 rfl (v := (l3 + (1 : Int32))) (by first | rfl | decide) (by decide) (L2 := [some (.ref (b + 0)), some (.int a0), none, some (.int (l3 + (1 : Int32)))]) rfl ?_
            refine v_goto S d_Mo_work_252 (tgt := 215) (by decide) ?_
            refine v_sub (L2 := [some (.ref (b + 0)), some (.int a0), none, some (.int (l3 + (1 : Int32)))]) (And.intro rfl (And.intro rfl (And.intro rfl True.intro))) ?_
            exact ih σ18 (l3 + (1 : Int32))
          · refine v_iload_n S d_Mo_work_247 rfl rfl ?_
            exact v_iret S hret hlocks d_Mo_work_248
  have C122 : ∀ (n : Nat) (σ : mm_M) (l2 : Int32), vv p l e (headSpec w_Mo_work rm_Mo_work).room s m [.ref (b + 0), .int a0].toArray below meth c D cls b N_M (ce_M ca b) 4 (MQ below (qc_i D cls b N_M (ce_M ca b) r σ') [.ref (b + 0), .int a0].toArray s 0 0 (mm_A b N_M)) (r, σ') (fn_Mo_work_122 a0 n σ l2) σ 122 [some (.ref (b + 0)), some (.int a0), some (.int l2)] [] := by
    intro n
    induction n with
    | zero => intro σ l2  h; cases h
    | succ n ih =>
      intro σ l2
      show vv p l e (headSpec w_Mo_work rm_Mo_work).room s m [.ref (b + 0), .int a0].toArray below meth c D cls b N_M (ce_M ca b) 4 (MQ below (qc_i D cls b N_M (ce_M ca b) r σ') [.ref (b + 0), .int a0].toArray s 0 0 (mm_A b N_M)) (r, σ') (        (if (σ 0 0) ≤ l2 then
        (fn_Mo_work_215 a0 fuel0 σ (0 : Int32))
        else
        (if ((((100 : Int32) * a0) + l2) < 0 ∨ 400 ≤ (((100 : Int32) * a0) + l2).toNatClampNeg) then none else
        (if (σ 9 (((100 : Int32) * a0) + l2).toNatClampNeg) = 0 then
        (fn_Mo_work_122 a0 n σ (l2 + (1 : Int32)))
        else
        (if ((((100 : Int32) * a0) + l2) < 0 ∨ 400 ≤ (((100 : Int32) * a0) + l2).toNatClampNeg) then none else (nm (mw σ 9 (((100 : Int32) * a0) + l2).toNatClampNeg (0 : Int32)) (fun σ26 =>
        (bd (fn_Mo_fits σ26 a0 l2) (fun r28 σ27 =>
        (if r28 = 0 then
        (if r28 = 0 then
        (fn_Mo_work_122 a0 n σ27 (0 : Int32))
        else
        (if (σ27 0 15) < 0 then
        (fn_Mo_work_122 a0 n σ27 (0 : Int32))
        else
        (bv (fn_Mo_meet σ27 a0 (σ27 0 15)) (fun σ32 =>
        (fn_Mo_work_122 a0 n σ32 (0 : Int32))))))
        else
        (if (σ27 0 14) = 0 then
        (if r28 = 0 then
        (fn_Mo_work_122 a0 n σ27 (0 : Int32))
        else
        (if (σ27 0 15) < 0 then
        (fn_Mo_work_122 a0 n σ27 (0 : Int32))
        else
        (bv (fn_Mo_meet σ27 a0 (σ27 0 15)) (fun σ36 =>
        (fn_Mo_work_122 a0 n σ36 (0 : Int32))))))
        else
        (bv (fn_Mo_meet σ27 a0 (l2 + (1 : Int32))) (fun σ37 =>
        (if r28 = 0 then
        (fn_Mo_work_122 a0 n σ37 (0 : Int32))
        else
        (if (σ37 0 15) < 0 then
        (fn_Mo_work_122 a0 n σ37 (0 : Int32))
        else
        (bv (fn_Mo_meet σ37 a0 (σ37 0 15)) (fun σ40 =>
        (fn_Mo_work_122 a0 n σ40 (0 : Int32))))))))))))))))))) σ 122 [some (.ref (b + 0)), some (.int a0), some (.int l2)] []
      refine v_iload_n S d_Mo_work_122 rfl rfl ?_
      refine v_aload_n S d_Mo_work_123 rfl rfl ?_
      refine v_get S (fun w h => List.mem_cons_of_mem _ (i_Mo w h)) hKK.1 0 (by decide) rfl rfl 0 (by decide) (S.2.2.2.2 _ (List.mem_cons_of_mem _ (wd_741))) (fun _ h => h) rfl d_Mo_work_124 ?_
      refine v_icmp_ge S d_Mo_work_127 (tgt := 213) (by decide) (fun h13 => ?_) (fun h13 => ?_)
      · refine v_iconst S d_Mo_work_213 (v := (0 : Int32)) (by decide) ?_
        refine v_istore_nP S d_Mo_work_214 rfl (by decide) (L2 := [some (.ref (b + 0)), some (.int a0), some (.int l2), some (.int (0 : Int32))]) rfl ?_
        refine v_sub (L2 := [some (.ref (b + 0)), some (.int a0), none, some (.int (0 : Int32))]) (And.intro rfl (And.intro rfl (And.intro rfl True.intro))) ?_
        exact C215 fuel0 σ (0 : Int32)
      · refine v_aload_n S d_Mo_work_130 rfl rfl ?_
        refine v_get S (fun w h => List.mem_cons_of_mem _ (i_Mo w h)) hKK.1 0 (by decide) rfl rfl 10 (by decide) (S.2.2.2.2 _ (List.mem_cons_of_mem _ (wd_751))) (fun _ h => h) rfl d_Mo_work_131 ?_
        refine v_bipush S d_Mo_work_134 (v := (100 : Int32)) (by decide) ?_
        refine v_iload_n S d_Mo_work_136 rfl rfl ?_
        refine v_imul S d_Mo_work_137 ?_
        refine v_iload_n S d_Mo_work_138 rfl rfl ?_
        refine v_iadd S d_Mo_work_139 ?_
        refine v_zald S hKK.1 9 1 (by decide) rfl rfl d_Mo_work_140 (fun h22 => ?_)
        refine v_if_eq S d_Mo_work_141 (tgt := 207) (by decide) (fun h23 => ?_) (fun h23 => ?_)
        · refine v_iinc S d_Mo_work_207 rfl (v := (l2 + (1 : Int32))) (by first | rfl | decide) (by decide) (L2 := [some (.ref (b + 0)), some (.int a0), some (.int (l2 + (1 : Int32)))]) rfl ?_
          refine v_goto S d_Mo_work_210 (tgt := 122) (by decide) ?_
          refine v_sub (L2 := [some (.ref (b + 0)), some (.int a0), some (.int (l2 + (1 : Int32)))]) (And.intro rfl (And.intro rfl (And.intro rfl True.intro))) ?_
          exact ih σ (l2 + (1 : Int32))
        · refine v_aload_n S d_Mo_work_144 rfl rfl ?_
          refine v_get S (fun w h => List.mem_cons_of_mem _ (i_Mo w h)) hKK.1 0 (by decide) rfl rfl 10 (by decide) (S.2.2.2.2 _ (List.mem_cons_of_mem _ (wd_751))) (fun _ h => h) rfl d_Mo_work_145 ?_
          refine v_bipush S d_Mo_work_148 (v := (100 : Int32)) (by decide) ?_
          refine v_iload_n S d_Mo_work_150 rfl rfl ?_
          refine v_imul S d_Mo_work_151 ?_
          refine v_iload_n S d_Mo_work_152 rfl rfl ?_
          refine v_iadd S d_Mo_work_153 ?_
          refine v_iconst S d_Mo_work_154 (v := (0 : Int32)) (by decide) ?_
          refine v_zast1 S hKK.1 9 1 (by decide) (fun _ => rfl) rfl (Or.inl rfl) d_Mo_work_155 (fun h25 => ?_)
          refine v_sg (fun σ26 eσ26 => ?_)
          refine v_aload_n S d_Mo_work_156 rfl rfl ?_
          refine v_iload_n S d_Mo_work_157 rfl rfl ?_
          refine v_iload_n S d_Mo_work_158 rfl rfl ?_
          refine v_ci (rest := []) (fun _ _ hg H locs ls hsz hP hS => run_V (As := [.int a0, .int l2]) (rest := []) S kM_ok hKK (c_Mo_fits l D ca ax b σ26 a0 l2 hg) (k_Mo_123 S.2.2.2.2 (fun _ => List.mem_cons_of_mem _) ⟨Nat.le_of_ble_eq_true rfl, Nat.le_of_ble_eq_true rfl⟩) (rc_w hKK.1 hP 0 (by decide) rfl rfl) rfl rfl (Nat.zero_le _) d_Mo_work_159 hsz hP hS) (fun r28 σ27 _ => ?_)
          refine v_istore_nP S d_Mo_work_162 rfl (by decide) (L2 := [some (.ref (b + 0)), some (.int a0), some (.int l2), some (.int r28)]) rfl ?_
          refine v_iload_n S d_Mo_work_163 rfl rfl ?_
          refine v_if_eq S d_Mo_work_164 (tgt := 182) (by decide) (fun h29 => ?_) (fun h29 => ?_)
          · refine v_iload_n S d_Mo_work_182 rfl rfl ?_
            refine v_if_eq S d_Mo_work_183 (tgt := 202) (by decide) (fun h30 => ?_) (fun h30 => ?_)
            · refine v_iconst S d_Mo_work_202 (v := (0 : Int32)) (by decide) ?_
              refine v_istore_nP S d_Mo_work_203 rfl (by decide) (L2 := [some (.ref (b + 0)), some (.int a0), some (.int (0 : Int32)), some (.int r28)]) rfl ?_
              refine v_goto S d_Mo_work_204 (tgt := 122) (by decide) ?_
              refine v_sub (L2 := [some (.ref (b + 0)), some (.int a0), some (.int (0 : Int32))]) (And.intro rfl (And.intro rfl (And.intro rfl True.intro))) ?_
              exact ih σ27 (0 : Int32)
            · refine v_aload_n S d_Mo_work_186 rfl rfl ?_
              refine v_get S (fun w h => List.mem_cons_of_mem _ (i_Mo w h)) hKK.1 0 (by decide) rfl rfl 15 (by decide) (S.2.2.2.2 _ (List.mem_cons_of_mem _ (wd_756))) (fun _ h => h) rfl d_Mo_work_187 ?_
              refine v_if_lt S d_Mo_work_190 (tgt := 202) (by decide) (fun h31 => ?_) (fun h31 => ?_)
              · refine v_iconst S d_Mo_work_202 (v := (0 : Int32)) (by decide) ?_
                refine v_istore_nP S d_Mo_work_203 rfl (by decide) (L2 := [some (.ref (b + 0)), some (.int a0), some (.int (0 : Int32)), some (.int r28)]) rfl ?_
                refine v_goto S d_Mo_work_204 (tgt := 122) (by decide) ?_
                refine v_sub (L2 := [some (.ref (b + 0)), some (.int a0), some (.int (0 : Int32))]) (And.intro rfl (And.intro rfl (And.intro rfl True.intro))) ?_
                exact ih σ27 (0 : Int32)
              · refine v_aload_n S d_Mo_work_193 rfl rfl ?_
                refine v_iload_n S d_Mo_work_194 rfl rfl ?_
                refine v_aload_n S d_Mo_work_195 rfl rfl ?_
                refine v_get S (fun w h => List.mem_cons_of_mem _ (i_Mo w h)) hKK.1 0 (by decide) rfl rfl 15 (by decide) (S.2.2.2.2 _ (List.mem_cons_of_mem _ (wd_756))) (fun _ h => h) rfl d_Mo_work_196 ?_
                refine v_cv (rest := []) (fun _ hg H locs ls hsz hP hS => run_V (As := [.int a0, .int (σ27 0 15)]) (rest := []) S kM_ok hKK (c_Mo_meet l D ca ax b σ27 a0 (σ27 0 15) hg) (k_Mo_120 S.2.2.2.2 (fun _ => List.mem_cons_of_mem _) ⟨Nat.le_of_ble_eq_true rfl, Nat.le_of_ble_eq_true rfl⟩) (rc_w hKK.1 hP 0 (by decide) rfl rfl) rfl rfl (Nat.zero_le _) d_Mo_work_199 hsz hP hS) (fun σ32 _ => ?_)
                refine v_iconst S d_Mo_work_202 (v := (0 : Int32)) (by decide) ?_
                refine v_istore_nP S d_Mo_work_203 rfl (by decide) (L2 := [some (.ref (b + 0)), some (.int a0), some (.int (0 : Int32)), some (.int r28)]) rfl ?_
                refine v_goto S d_Mo_work_204 (tgt := 122) (by decide) ?_
                refine v_sub (L2 := [some (.ref (b + 0)), some (.int a0), some (.int (0 : Int32))]) (And.intro rfl (And.intro rfl (And.intro rfl True.intro))) ?_
                exact ih σ32 (0 : Int32)
          · refine v_aload_n S d_Mo_work_167 rfl rfl ?_
            refine v_get S (fun w h => List.mem_cons_of_mem _ (i_Mo w h)) hKK.1 0 (by decide) rfl rfl 14 (by decide) (S.2.2.2.2 _ (List.mem_cons_of_mem _ (wd_755))) (fun _ h => h) rfl d_Mo_work_168 ?_
            refine v_if_eq S d_Mo_work_171 (tgt := 182) (by decide) (fun h33 => ?_) (fun h33 => ?_)
            · refine v_iload_n S d_Mo_work_182 rfl rfl ?_
              refine v_if_eq S d_Mo_work_183 (tgt := 202) (by decide) (fun h34 => ?_) (fun h34 => ?_)
              · refine v_iconst S d_Mo_work_202 (v := (0 : Int32)) (by decide) ?_
                refine v_istore_nP S d_Mo_work_203 rfl (by decide) (L2 := [some (.ref (b + 0)), some (.int a0), some (.int (0 : Int32)), some (.int r28)]) rfl ?_
                refine v_goto S d_Mo_work_204 (tgt := 122) (by decide) ?_
                refine v_sub (L2 := [some (.ref (b + 0)), some (.int a0), some (.int (0 : Int32))]) (And.intro rfl (And.intro rfl (And.intro rfl True.intro))) ?_
                exact ih σ27 (0 : Int32)
              · refine v_aload_n S d_Mo_work_186 rfl rfl ?_
                refine v_get S (fun w h => List.mem_cons_of_mem _ (i_Mo w h)) hKK.1 0 (by decide) rfl rfl 15 (by decide) (S.2.2.2.2 _ (List.mem_cons_of_mem _ (wd_756))) (fun _ h => h) rfl d_Mo_work_187 ?_
                refine v_if_lt S d_Mo_work_190 (tgt := 202) (by decide) (fun h35 => ?_) (fun h35 => ?_)
                · refine v_iconst S d_Mo_work_202 (v := (0 : Int32)) (by decide) ?_
                  refine v_istore_nP S d_Mo_work_203 rfl (by decide) (L2 := [some (.ref (b + 0)), some (.int a0), some (.int (0 : Int32)), some (.int r28)]) rfl ?_
                  refine v_goto S d_Mo_work_204 (tgt := 122) (by decide) ?_
                  refine v_sub (L2 := [some (.ref (b + 0)), some (.int a0), some (.int (0 : Int32))]) (And.intro rfl (And.intro rfl (And.intro rfl True.intro))) ?_
                  exact ih σ27 (0 : Int32)
                · refine v_aload_n S d_Mo_work_193 rfl rfl ?_
                  refine v_iload_n S d_Mo_work_194 rfl rfl ?_
                  refine v_aload_n S d_Mo_work_195 rfl rfl ?_
                  refine v_get S (fun w h => List.mem_cons_of_mem _ (i_Mo w h)) hKK.1 0 (by decide) rfl rfl 15 (by decide) (S.2.2.2.2 _ (List.mem_cons_of_mem _ (wd_756))) (fun _ h => h) rfl d_Mo_work_196 ?_
                  refine v_cv (rest := []) (fun _ hg H locs ls hsz hP hS => run_V (As := [.int a0, .int (σ27 0 15)]) (rest := []) S kM_ok hKK (c_Mo_meet l D ca ax b σ27 a0 (σ27 0 15) hg) (k_Mo_120 S.2.2.2.2 (fun _ => List.mem_cons_of_mem _) ⟨Nat.le_of_ble_eq_true rfl, Nat.le_of_ble_eq_true rfl⟩) (rc_w hKK.1 hP 0 (by decide) rfl rfl) rfl rfl (Nat.zero_le _) d_Mo_work_199 hsz hP hS) (fun σ36 _ => ?_)
                  refine v_iconst S d_Mo_work_202 (v := (0 : Int32)) (by decide) ?_
                  refine v_istore_nP S d_Mo_work_203 rfl (by decide) (L2 := [some (.ref (b + 0)), some (.int a0), some (.int (0 : Int32)), some (.int r28)]) rfl ?_
                  refine v_goto S d_Mo_work_204 (tgt := 122) (by decide) ?_
                  refine v_sub (L2 := [some (.ref (b + 0)), some (.int a0), some (.int (0 : Int32))]) (And.intro rfl (And.intro rfl (And.intro rfl True.intro))) ?_
                  exact ih σ36 (0 : Int32)
            · refine v_aload_n S d_Mo_work_174 rfl rfl ?_
              refine v_iload_n S d_Mo_work_175 rfl rfl ?_
              refine v_iload_n S d_Mo_work_176 rfl rfl ?_
              refine v_iconst S d_Mo_work_177 (v := (1 : Int32)) (by decide) ?_
              refine v_iadd S d_Mo_work_178 ?_
              refine v_cv (rest := []) (fun _ hg H locs ls hsz hP hS => run_V (As := [.int a0, .int (l2 + (1 : Int32))]) (rest := []) S kM_ok hKK (c_Mo_meet l D ca ax b σ27 a0 (l2 + (1 : Int32)) hg) (k_Mo_120 S.2.2.2.2 (fun _ => List.mem_cons_of_mem _) ⟨Nat.le_of_ble_eq_true rfl, Nat.le_of_ble_eq_true rfl⟩) (rc_w hKK.1 hP 0 (by decide) rfl rfl) rfl rfl (Nat.zero_le _) d_Mo_work_179 hsz hP hS) (fun σ37 _ => ?_)
              refine v_iload_n S d_Mo_work_182 rfl rfl ?_
              refine v_if_eq S d_Mo_work_183 (tgt := 202) (by decide) (fun h38 => ?_) (fun h38 => ?_)
              · refine v_iconst S d_Mo_work_202 (v := (0 : Int32)) (by decide) ?_
                refine v_istore_nP S d_Mo_work_203 rfl (by decide) (L2 := [some (.ref (b + 0)), some (.int a0), some (.int (0 : Int32)), some (.int r28)]) rfl ?_
                refine v_goto S d_Mo_work_204 (tgt := 122) (by decide) ?_
                refine v_sub (L2 := [some (.ref (b + 0)), some (.int a0), some (.int (0 : Int32))]) (And.intro rfl (And.intro rfl (And.intro rfl True.intro))) ?_
                exact ih σ37 (0 : Int32)
              · refine v_aload_n S d_Mo_work_186 rfl rfl ?_
                refine v_get S (fun w h => List.mem_cons_of_mem _ (i_Mo w h)) hKK.1 0 (by decide) rfl rfl 15 (by decide) (S.2.2.2.2 _ (List.mem_cons_of_mem _ (wd_756))) (fun _ h => h) rfl d_Mo_work_187 ?_
                refine v_if_lt S d_Mo_work_190 (tgt := 202) (by decide) (fun h39 => ?_) (fun h39 => ?_)
                · refine v_iconst S d_Mo_work_202 (v := (0 : Int32)) (by decide) ?_
                  refine v_istore_nP S d_Mo_work_203 rfl (by decide) (L2 := [some (.ref (b + 0)), some (.int a0), some (.int (0 : Int32)), some (.int r28)]) rfl ?_
                  refine v_goto S d_Mo_work_204 (tgt := 122) (by decide) ?_
                  refine v_sub (L2 := [some (.ref (b + 0)), some (.int a0), some (.int (0 : Int32))]) (And.intro rfl (And.intro rfl (And.intro rfl True.intro))) ?_
                  exact ih σ37 (0 : Int32)
                · refine v_aload_n S d_Mo_work_193 rfl rfl ?_
                  refine v_iload_n S d_Mo_work_194 rfl rfl ?_
                  refine v_aload_n S d_Mo_work_195 rfl rfl ?_
                  refine v_get S (fun w h => List.mem_cons_of_mem _ (i_Mo w h)) hKK.1 0 (by decide) rfl rfl 15 (by decide) (S.2.2.2.2 _ (List.mem_cons_of_mem _ (wd_756))) (fun _ h => h) rfl d_Mo_work_196 ?_
                  refine v_cv (rest := []) (fun _ hg H locs ls hsz hP hS => run_V (As := [.int a0, .int (σ37 0 15)]) (rest := []) S kM_ok hKK (c_Mo_meet l D ca ax b σ37 a0 (σ37 0 15) hg) (k_Mo_120 S.2.2.2.2 (fun _ => List.mem_cons_of_mem _) ⟨Nat.le_of_ble_eq_true rfl, Nat.le_of_ble_eq_true rfl⟩) (rc_w hKK.1 hP 0 (by decide) rfl rfl) rfl rfl (Nat.zero_le _) d_Mo_work_199 hsz hP hS) (fun σ40 _ => ?_)
                  refine v_iconst S d_Mo_work_202 (v := (0 : Int32)) (by decide) ?_
                  refine v_istore_nP S d_Mo_work_203 rfl (by decide) (L2 := [some (.ref (b + 0)), some (.int a0), some (.int (0 : Int32)), some (.int r28)]) rfl ?_
                  refine v_goto S d_Mo_work_204 (tgt := 122) (by decide) ?_
                  refine v_sub (L2 := [some (.ref (b + 0)), some (.int a0), some (.int (0 : Int32))]) (And.intro rfl (And.intro rfl (And.intro rfl True.intro))) ?_
                  exact ih σ40 (0 : Int32)
  have C71 : ∀ (n : Nat) (σ : mm_M) (l2 : Int32), vv p l e (headSpec w_Mo_work rm_Mo_work).room s m [.ref (b + 0), .int a0].toArray below meth c D cls b N_M (ce_M ca b) 4 (MQ below (qc_i D cls b N_M (ce_M ca b) r σ') [.ref (b + 0), .int a0].toArray s 0 0 (mm_A b N_M)) (r, σ') (fn_Mo_work_71 a0 n σ l2) σ 71 [some (.ref (b + 0)), some (.int a0), some (.int l2)] [] := by
    intro n
    induction n with
    | zero => intro σ l2  h; cases h
    | succ n ih =>
      intro σ l2
      show vv p l e (headSpec w_Mo_work rm_Mo_work).room s m [.ref (b + 0), .int a0].toArray below meth c D cls b N_M (ce_M ca b) 4 (MQ below (qc_i D cls b N_M (ce_M ca b) r σ') [.ref (b + 0), .int a0].toArray s 0 0 (mm_A b N_M)) (r, σ') (        (if (6 : Int32) ≤ l2 then
        (if (a0 < 0 ∨ 4 ≤ a0.toNatClampNeg) then none else
        (bv (fn_Mo_meet σ a0 (σ 4 a0.toNatClampNeg)) (fun σ12 =>
        (fn_Mo_work_122 a0 fuel0 σ12 (0 : Int32)))))
        else
        (if (a0 < 0 ∨ 4 ≤ a0.toNatClampNeg) then none else
        (if (σ 5 a0.toNatClampNeg) ≤ l2 then
        (if (l2 < 0 ∨ 12 ≤ l2.toNatClampNeg) then none else (nm (mw σ 10 l2.toNatClampNeg (0 : Int32)) (fun σ44 =>
        (fn_Mo_work_71 a0 n σ44 (l2 + (1 : Int32))))))
        else
        (bd (fn_Mo_kindOf σ a0 l2) (fun r47 σ46 =>
        (if (l2 < 0 ∨ 12 ≤ l2.toNatClampNeg) then none else (nm (mw σ46 10 l2.toNatClampNeg r47) (fun σ49 =>
        (fn_Mo_work_71 a0 n σ49 (l2 + (1 : Int32)))))))))))) σ 71 [some (.ref (b + 0)), some (.int a0), some (.int l2)] []
      refine v_iload_n S d_Mo_work_71 rfl rfl ?_
      refine v_bipush S d_Mo_work_72 (v := (6 : Int32)) (by decide) ?_
      refine v_icmp_ge S d_Mo_work_74 (tgt := 109) (by decide) (fun h10 => ?_) (fun h10 => ?_)
      · refine v_aload_n S d_Mo_work_109 rfl rfl ?_
        refine v_iload_n S d_Mo_work_110 rfl rfl ?_
        refine v_aload_n S d_Mo_work_111 rfl rfl ?_
        refine v_get S (fun w h => List.mem_cons_of_mem _ (i_Mo w h)) hKK.1 0 (by decide) rfl rfl 4 (by decide) (S.2.2.2.2 _ (List.mem_cons_of_mem _ (wd_745))) (fun _ h => h) rfl d_Mo_work_112 ?_
        refine v_iload_n S d_Mo_work_115 rfl rfl ?_
        refine v_iald S hKK.1 4 0 (by decide) rfl rfl d_Mo_work_116 (fun h11 => ?_)
        refine v_cv (rest := []) (fun _ hg H locs ls hsz hP hS => run_V (As := [.int a0, .int (σ 4 a0.toNatClampNeg)]) (rest := []) S kM_ok hKK (c_Mo_meet l D ca ax b σ a0 (σ 4 a0.toNatClampNeg) hg) (k_Mo_120 S.2.2.2.2 (fun _ => List.mem_cons_of_mem _) ⟨Nat.le_of_ble_eq_true rfl, Nat.le_of_ble_eq_true rfl⟩) (rc_w hKK.1 hP 0 (by decide) rfl rfl) rfl rfl (Nat.zero_le _) d_Mo_work_117 hsz hP hS) (fun σ12 _ => ?_)
        refine v_iconst S d_Mo_work_120 (v := (0 : Int32)) (by decide) ?_
        refine v_istore_nP S d_Mo_work_121 rfl (by decide) (L2 := [some (.ref (b + 0)), some (.int a0), some (.int (0 : Int32))]) rfl ?_
        refine v_sub (L2 := [some (.ref (b + 0)), some (.int a0), some (.int (0 : Int32))]) (And.intro rfl (And.intro rfl (And.intro rfl True.intro))) ?_
        exact C122 fuel0 σ12 (0 : Int32)
      · refine v_aload_n S d_Mo_work_77 rfl rfl ?_
        refine v_get S (fun w h => List.mem_cons_of_mem _ (i_Mo w h)) hKK.1 0 (by decide) rfl rfl 12 (by decide) (S.2.2.2.2 _ (List.mem_cons_of_mem _ (wd_753))) (fun _ h => h) rfl d_Mo_work_78 ?_
        refine v_iload_n S d_Mo_work_81 rfl rfl ?_
        refine v_iload_n S d_Mo_work_82 rfl rfl ?_
        refine v_aload_n S d_Mo_work_83 rfl rfl ?_
        refine v_get S (fun w h => List.mem_cons_of_mem _ (i_Mo w h)) hKK.1 0 (by decide) rfl rfl 5 (by decide) (S.2.2.2.2 _ (List.mem_cons_of_mem _ (wd_746))) (fun _ h => h) rfl d_Mo_work_84 ?_
        refine v_iload_n S d_Mo_work_87 rfl rfl ?_
        refine v_iald S hKK.1 5 0 (by decide) rfl rfl d_Mo_work_88 (fun h41 => ?_)
        refine v_icmp_ge S d_Mo_work_89 (tgt := 101) (by decide) (fun h42 => ?_) (fun h42 => ?_)
        · refine v_iconst S d_Mo_work_101 (v := (0 : Int32)) (by decide) ?_
          refine v_iast1 S hKK.1 10 0 (by decide) (fun _ => rfl) rfl d_Mo_work_102 (fun h43 => ?_)
          refine v_sg (fun σ44 eσ44 => ?_)
          refine v_iinc S d_Mo_work_103 rfl (v := (l2 + (1 : Int32))) (by first | rfl | decide) (by decide) (L2 := [some (.ref (b + 0)), some (.int a0), some (.int (l2 + (1 : Int32)))]) rfl ?_
          refine v_goto S d_Mo_work_106 (tgt := 71) (by decide) ?_
          refine v_sub (L2 := [some (.ref (b + 0)), some (.int a0), some (.int (l2 + (1 : Int32)))]) (And.intro rfl (And.intro rfl (And.intro rfl True.intro))) ?_
          exact ih σ44 (l2 + (1 : Int32))
        · refine v_aload_n S d_Mo_work_92 rfl rfl ?_
          refine v_iload_n S d_Mo_work_93 rfl rfl ?_
          refine v_iload_n S d_Mo_work_94 rfl rfl ?_
          refine v_ci (rest := [.int l2, .ref (b + 10)]) (fun _ _ hg H locs ls hsz hP hS => run_V (As := [.int a0, .int l2]) (rest := [.int l2, .ref (b + 10)]) S kM_ok hKK (c_Mo_kindOf l D ca ax b σ a0 l2 hg) (k_Mo_110 S.2.2.2.2 (fun _ => List.mem_cons_of_mem _) ⟨Nat.le_of_ble_eq_true rfl, Nat.le_of_ble_eq_true rfl⟩) (rc_w hKK.1 hP 0 (by decide) rfl rfl) rfl rfl (by simp [Value.category]) d_Mo_work_95 hsz hP hS) (fun r47 σ46 _ => ?_)
          refine v_goto S d_Mo_work_98 (tgt := 102) (by decide) ?_
          refine v_iast1 S hKK.1 10 0 (by decide) (fun _ => rfl) rfl d_Mo_work_102 (fun h48 => ?_)
          refine v_sg (fun σ49 eσ49 => ?_)
          refine v_iinc S d_Mo_work_103 rfl (v := (l2 + (1 : Int32))) (by first | rfl | decide) (by decide) (L2 := [some (.ref (b + 0)), some (.int a0), some (.int (l2 + (1 : Int32)))]) rfl ?_
          refine v_goto S d_Mo_work_106 (tgt := 71) (by decide) ?_
          refine v_sub (L2 := [some (.ref (b + 0)), some (.int a0), some (.int (l2 + (1 : Int32)))]) (And.intro rfl (And.intro rfl (And.intro rfl True.intro))) ?_
          exact ih σ49 (l2 + (1 : Int32))
  have C5 : ∀ (n : Nat) (σ : mm_M) (l2 : Int32), vv p l e (headSpec w_Mo_work rm_Mo_work).room s m [.ref (b + 0), .int a0].toArray below meth c D cls b N_M (ce_M ca b) 4 (MQ below (qc_i D cls b N_M (ce_M ca b) r σ') [.ref (b + 0), .int a0].toArray s 0 0 (mm_A b N_M)) (r, σ') (fn_Mo_work_5 a0 n σ l2) σ 5 [some (.ref (b + 0)), some (.int a0), some (.int l2)] [] := by
    intro n
    induction n with
    | zero => intro σ l2  h; cases h
    | succ n ih =>
      intro σ l2
      show vv p l e (headSpec w_Mo_work rm_Mo_work).room s m [.ref (b + 0), .int a0].toArray below meth c D cls b N_M (ce_M ca b) 4 (MQ below (qc_i D cls b N_M (ce_M ca b) r σ') [.ref (b + 0), .int a0].toArray s 0 0 (mm_A b N_M)) (r, σ') (        (if (((100 : Int32) * a0) + (100 : Int32)) ≤ l2 then
        (if (a0 < 0 ∨ 4 ≤ a0.toNatClampNeg) then none else
        (if (σ 3 a0.toNatClampNeg) = 0 then
        (some ((-1 : Int32), σ))
        else
        (if (a0 < 0 ∨ 4 ≤ a0.toNatClampNeg) then none else
        (bd (fn_Mo_isAddress σ (σ 4 a0.toNatClampNeg)) (fun r7 σ6 =>
        (if r7 = 0 then
        (some ((999 : Int32), σ6))
        else
        (nm (mw σ6 0 11 (0 : Int32)) (fun σ9 =>
        (fn_Mo_work_71 a0 fuel0 σ9 (0 : Int32))))))))))
        else
        (if (l2 < 0 ∨ 400 ≤ l2.toNatClampNeg) then none else (nm (mw σ 7 l2.toNatClampNeg (-1 : Int32)) (fun σ52 =>
        (if (l2 < 0 ∨ 400 ≤ l2.toNatClampNeg) then none else (nm (mw σ52 9 l2.toNatClampNeg (0 : Int32)) (fun σ54 =>
        (fn_Mo_work_5 a0 n σ54 (l2 + (1 : Int32))))))))))) σ 5 [some (.ref (b + 0)), some (.int a0), some (.int l2)] []
      refine v_iload_n S d_Mo_work_5 rfl rfl ?_
      refine v_bipush S d_Mo_work_6 (v := (100 : Int32)) (by decide) ?_
      refine v_iload_n S d_Mo_work_8 rfl rfl ?_
      refine v_imul S d_Mo_work_9 ?_
      refine v_bipush S d_Mo_work_10 (v := (100 : Int32)) (by decide) ?_
      refine v_iadd S d_Mo_work_12 ?_
      refine v_icmp_ge S d_Mo_work_13 (tgt := 36) (by decide) (fun h2 => ?_) (fun h2 => ?_)
      · refine v_aload_n S d_Mo_work_36 rfl rfl ?_
        refine v_get S (fun w h => List.mem_cons_of_mem _ (i_Mo w h)) hKK.1 0 (by decide) rfl rfl 3 (by decide) (S.2.2.2.2 _ (List.mem_cons_of_mem _ (wd_744))) (fun _ h => h) rfl d_Mo_work_37 ?_
        refine v_iload_n S d_Mo_work_40 rfl rfl ?_
        refine v_zald S hKK.1 3 1 (by decide) rfl rfl d_Mo_work_41 (fun h3 => ?_)
        refine v_if_ne S d_Mo_work_42 (tgt := 47) (by decide) (fun h4 => ?_) (fun h4 => ?_)
        · refine v_aload_n S d_Mo_work_47 rfl rfl ?_
          refine v_aload_n S d_Mo_work_48 rfl rfl ?_
          refine v_get S (fun w h => List.mem_cons_of_mem _ (i_Mo w h)) hKK.1 0 (by decide) rfl rfl 4 (by decide) (S.2.2.2.2 _ (List.mem_cons_of_mem _ (wd_745))) (fun _ h => h) rfl d_Mo_work_49 ?_
          refine v_iload_n S d_Mo_work_52 rfl rfl ?_
          refine v_iald S hKK.1 4 0 (by decide) rfl rfl d_Mo_work_53 (fun h5 => ?_)
          refine v_ci (rest := []) (fun _ _ hg H locs ls hsz hP hS => run_V (As := [.int (σ 4 a0.toNatClampNeg)]) (rest := []) S kM_ok hKK (c_Mo_isAddress l D ca ax b σ (σ 4 a0.toNatClampNeg) hg) (k_Mo_76 S.2.2.2.2 (fun _ => List.mem_cons_of_mem _) ⟨Nat.le_of_ble_eq_true rfl, Nat.le_of_ble_eq_true rfl⟩) (rc_w hKK.1 hP 0 (by decide) rfl rfl) rfl rfl (Nat.zero_le _) d_Mo_work_54 hsz hP hS) (fun r7 σ6 _ => ?_)
          refine v_if_ne S d_Mo_work_57 (tgt := 64) (by decide) (fun h8 => ?_) (fun h8 => ?_)
          · refine v_aload_n S d_Mo_work_64 rfl rfl ?_
            refine v_iconst S d_Mo_work_65 (v := (0 : Int32)) (by decide) ?_
            refine v_puti S (fun w h => List.mem_cons_of_mem _ (i_Mo w h)) hKK.1 0 (by decide) rfl rfl 11 (by decide) (S.2.2.2.2 _ (List.mem_cons_of_mem _ (wd_752))) (fun _ h => h) t_Mo t_Mo_ok n_Mo rfl (ty := .int) rfl rfl rfl (Nat.le_of_ble_eq_true rfl) rfl d_Mo_work_66 ?_
            refine v_sg (fun σ9 eσ9 => ?_)
            refine v_iconst S d_Mo_work_69 (v := (0 : Int32)) (by decide) ?_
            refine v_istore_nP S d_Mo_work_70 rfl (by decide) (L2 := [some (.ref (b + 0)), some (.int a0), some (.int (0 : Int32))]) rfl ?_
            refine v_sub (L2 := [some (.ref (b + 0)), some (.int a0), some (.int (0 : Int32))]) (And.intro rfl (And.intro rfl (And.intro rfl True.intro))) ?_
            exact C71 fuel0 σ9 (0 : Int32)
          · refine v_sipush S d_Mo_work_60 (v := (999 : Int32)) (by decide) ?_
            exact v_iret S hret hlocks d_Mo_work_63
        · refine v_iconst S d_Mo_work_45 (v := (-1 : Int32)) (by decide) ?_
          exact v_iret S hret hlocks d_Mo_work_46
      · refine v_aload_n S d_Mo_work_16 rfl rfl ?_
        refine v_get S (fun w h => List.mem_cons_of_mem _ (i_Mo w h)) hKK.1 0 (by decide) rfl rfl 8 (by decide) (S.2.2.2.2 _ (List.mem_cons_of_mem _ (wd_749))) (fun _ h => h) rfl d_Mo_work_17 ?_
        refine v_iload_n S d_Mo_work_20 rfl rfl ?_
        refine v_iconst S d_Mo_work_21 (v := (-1 : Int32)) (by decide) ?_
        refine v_iast1 S hKK.1 7 0 (by decide) (fun _ => rfl) rfl d_Mo_work_22 (fun h51 => ?_)
        refine v_sg (fun σ52 eσ52 => ?_)
        refine v_aload_n S d_Mo_work_23 rfl rfl ?_
        refine v_get S (fun w h => List.mem_cons_of_mem _ (i_Mo w h)) hKK.1 0 (by decide) rfl rfl 10 (by decide) (S.2.2.2.2 _ (List.mem_cons_of_mem _ (wd_751))) (fun _ h => h) rfl d_Mo_work_24 ?_
        refine v_iload_n S d_Mo_work_27 rfl rfl ?_
        refine v_iconst S d_Mo_work_28 (v := (0 : Int32)) (by decide) ?_
        refine v_zast1 S hKK.1 9 1 (by decide) (fun _ => rfl) rfl (Or.inl rfl) d_Mo_work_29 (fun h53 => ?_)
        refine v_sg (fun σ54 eσ54 => ?_)
        refine v_iinc S d_Mo_work_30 rfl (v := (l2 + (1 : Int32))) (by first | rfl | decide) (by decide) (L2 := [some (.ref (b + 0)), some (.int a0), some (.int (l2 + (1 : Int32)))]) rfl ?_
        refine v_goto S d_Mo_work_33 (tgt := 5) (by decide) ?_
        refine v_sub (L2 := [some (.ref (b + 0)), some (.int a0), some (.int (l2 + (1 : Int32)))]) (And.intro rfl (And.intro rfl (And.intro rfl True.intro))) ?_
        exact ih σ54 (l2 + (1 : Int32))
  unfold fn_Mo_work
  refine v_bipush S d_Mo_work_0 (v := (100 : Int32)) (by decide) ?_
  refine v_iload_n S d_Mo_work_2 rfl rfl ?_
  refine v_imul S d_Mo_work_3 ?_
  refine v_top (fun x1 ex1 => ?_)
  refine v_istore_nP S d_Mo_work_4 rfl (by decide) (L2 := [some (.ref (b + 0)), some (.int a0), some (.int x1)]) rfl ?_
  refine v_sub (L2 := [some (.ref (b + 0)), some (.int a0), some (.int x1)]) (And.intro rfl (And.intro rfl (And.intro rfl True.intro))) ?_
  exact C5 fuel0 σ x1
end
section
/-! contracts of 20.model; written by wip/whole/make.py -/
def fn_Mo_verify_24  : Nat → mm_M → Int32 → Int32 → Option (Int32 × mm_M)
  | 0, _, _, _ => none
  | n + 1, σ, l1, l2 =>
    (if (4 : Int32) ≤ l2 then
    (if l1 = 0 then
    (nm (mw σ 0 7 (1 : Int32)) (fun σ7 =>
    (some (l1, σ7))))
    else
    (nm (mw σ 0 7 (0 : Int32)) (fun σ6 =>
    (some (l1, σ6)))))
    else
    (bd (fn_Mo_work σ l2) (fun r9 σ8 =>
    (if r9 < 0 then
    (fn_Mo_verify_24  n σ8 l1 (l2 + (1 : Int32)))
    else
    (if l1 = 0 then
    (nm (((1000 : Int32) * ((1 : Int32) + l2)) + r9) (fun x14 =>
    (fn_Mo_verify_24  n σ8 x14 (l2 + (1 : Int32)))))
    else
    (fn_Mo_verify_24  n σ8 l1 (l2 + (1 : Int32))))))))
def fn_Mo_verify (σ : mm_M)  : Option (Int32 × mm_M) :=
    (nm (mw σ 0 26 (0 : Int32)) (fun σ1 =>
    (if ((0 : Int32) < 0 ∨ 4 ≤ (0 : Int32).toNatClampNeg) then none else
    (if (σ1 3 (0 : Int32).toNatClampNeg) = 0 then
    (fn_Mo_verify_24  fuel0 σ1 (1999 : Int32) (0 : Int32))
    else
    (fn_Mo_verify_24  fuel0 σ1 (0 : Int32) (0 : Int32))))))
set_option maxRecDepth 100000 in
set_option maxHeartbeats 40000000 in
theorem c_Mo_verify (l : Launch) (D : va_G) (ca : Nat → ClassId) (ax : Nat → Nat → Nat) (b : Nat) (σ : mm_M)   {r : Int32} {σ' : mm_M} (hf : fn_Mo_verify σ  = some (r, σ')) : Met l y_Mo_verify w_Mo_verify rm_Mo_verify (pc_w D cls b N_M (ce_M ca b) (kM D ca ax b) [.ref (b + 0)] σ) (qc_i D cls b N_M (ce_M ca b) r σ') 0 0 (mm_A b N_M) := by
  refine vv_go (cc := b_Mo_verify) (maxL := 4) (ret := (some .int)) (fin := (r, σ')) (k := fn_Mo_verify σ ) (by decide) rfl (by simp [Value.category]) (Nat.le_of_ble_eq_true rfl) hf ?_
  intro p e s m below meth c hlocks hret S hKK
  have C24 : ∀ (n : Nat) (σ : mm_M) (l1 : Int32) (l2 : Int32), vv p l e (headSpec w_Mo_verify rm_Mo_verify).room s m [.ref (b + 0)].toArray below meth c D cls b N_M (ce_M ca b) 4 (MQ below (qc_i D cls b N_M (ce_M ca b) r σ') [.ref (b + 0)].toArray s 0 0 (mm_A b N_M)) (r, σ') (fn_Mo_verify_24  n σ l1 l2) σ 24 [some (.ref (b + 0)), some (.int l1), some (.int l2)] [] := by
    intro n
    induction n with
    | zero => intro σ l1 l2  h; cases h
    | succ n ih =>
      intro σ l1 l2
      show vv p l e (headSpec w_Mo_verify rm_Mo_verify).room s m [.ref (b + 0)].toArray below meth c D cls b N_M (ce_M ca b) 4 (MQ below (qc_i D cls b N_M (ce_M ca b) r σ') [.ref (b + 0)].toArray s 0 0 (mm_A b N_M)) (r, σ') (        (if (4 : Int32) ≤ l2 then
        (if l1 = 0 then
        (nm (mw σ 0 7 (1 : Int32)) (fun σ7 =>
        (some (l1, σ7))))
        else
        (nm (mw σ 0 7 (0 : Int32)) (fun σ6 =>
        (some (l1, σ6)))))
        else
        (bd (fn_Mo_work σ l2) (fun r9 σ8 =>
        (if r9 < 0 then
        (fn_Mo_verify_24  n σ8 l1 (l2 + (1 : Int32)))
        else
        (if l1 = 0 then
        (nm (((1000 : Int32) * ((1 : Int32) + l2)) + r9) (fun x14 =>
        (fn_Mo_verify_24  n σ8 x14 (l2 + (1 : Int32)))))
        else
        (fn_Mo_verify_24  n σ8 l1 (l2 + (1 : Int32))))))))) σ 24 [some (.ref (b + 0)), some (.int l1), some (.int l2)] []
      refine v_iload_n S d_Mo_verify_24 rfl rfl ?_
      refine v_iconst S d_Mo_verify_25 (v := (4 : Int32)) (by decide) ?_
      refine v_icmp_ge S d_Mo_verify_26 (tgt := 63) (by decide) (fun h4 => ?_) (fun h4 => ?_)
      · refine v_aload_n S d_Mo_verify_63 rfl rfl ?_
        refine v_iload_n S d_Mo_verify_64 rfl rfl ?_
        refine v_if_ne S d_Mo_verify_65 (tgt := 72) (by decide) (fun h5 => ?_) (fun h5 => ?_)
        · refine v_iconst S d_Mo_verify_72 (v := (0 : Int32)) (by decide) ?_
          refine v_puti S (fun w h => List.mem_cons_of_mem _ (i_Mo w h)) hKK.1 0 (by decide) rfl rfl 7 (by decide) (S.2.2.2.2 _ (List.mem_cons_of_mem _ (wd_748))) (fun _ h => h) t_Mo t_Mo_ok n_Mo rfl (ty := .boolean) rfl rfl rfl (Nat.le_of_ble_eq_true rfl) rfl d_Mo_verify_73 ?_
          refine v_sg (fun σ6 eσ6 => ?_)
          refine v_iload_n S d_Mo_verify_76 rfl rfl ?_
          exact v_iret S hret hlocks d_Mo_verify_77
        · refine v_iconst S d_Mo_verify_68 (v := (1 : Int32)) (by decide) ?_
          refine v_goto S d_Mo_verify_69 (tgt := 73) (by decide) ?_
          refine v_puti S (fun w h => List.mem_cons_of_mem _ (i_Mo w h)) hKK.1 0 (by decide) rfl rfl 7 (by decide) (S.2.2.2.2 _ (List.mem_cons_of_mem _ (wd_748))) (fun _ h => h) t_Mo t_Mo_ok n_Mo rfl (ty := .boolean) rfl rfl rfl (Nat.le_of_ble_eq_true rfl) rfl d_Mo_verify_73 ?_
          refine v_sg (fun σ7 eσ7 => ?_)
          refine v_iload_n S d_Mo_verify_76 rfl rfl ?_
          exact v_iret S hret hlocks d_Mo_verify_77
      · refine v_aload_n S d_Mo_verify_29 rfl rfl ?_
        refine v_iload_n S d_Mo_verify_30 rfl rfl ?_
        refine v_ci (rest := []) (fun _ _ hg H locs ls hsz hP hS => run_V (As := [.int l2]) (rest := []) S kM_ok hKK (c_Mo_work l D ca ax b σ l2 hg) (k_Mo_127 S.2.2.2.2 (fun _ => List.mem_cons_of_mem _) ⟨Nat.le_of_ble_eq_true rfl, Nat.le_of_ble_eq_true rfl⟩) (rc_w hKK.1 hP 0 (by decide) rfl rfl) rfl rfl (Nat.zero_le _) d_Mo_verify_31 hsz hP hS) (fun r9 σ8 _ => ?_)
        refine v_istore_nP S d_Mo_verify_34 rfl (by decide) (L2 := [some (.ref (b + 0)), some (.int l1), some (.int l2), some (.int r9)]) rfl ?_
        refine v_iload_n S d_Mo_verify_35 rfl rfl ?_
        refine v_if_lt S d_Mo_verify_36 (tgt := 55) (by decide) (fun h10 => ?_) (fun h10 => ?_)
        · refine v_iload_n S d_Mo_verify_55 rfl rfl ?_
          refine v_istore_nP S d_Mo_verify_56 rfl (by decide) (L2 := [some (.ref (b + 0)), some (.int l1), some (.int l2), some (.int r9)]) rfl ?_
          refine v_iinc S d_Mo_verify_57 rfl (v := (l2 + (1 : Int32))) (by first | rfl | decide) (by decide) (L2 := [some (.ref (b + 0)), some (.int l1), some (.int (l2 + (1 : Int32))), some (.int r9)]) rfl ?_
          refine v_goto S d_Mo_verify_60 (tgt := 24) (by decide) ?_
          refine v_sub (L2 := [some (.ref (b + 0)), some (.int l1), some (.int (l2 + (1 : Int32)))]) (And.intro rfl (And.intro rfl (And.intro rfl True.intro))) ?_
          exact ih σ8 l1 (l2 + (1 : Int32))
        · refine v_iload_n S d_Mo_verify_39 rfl rfl ?_
          refine v_if_ne S d_Mo_verify_40 (tgt := 55) (by decide) (fun h12 => ?_) (fun h12 => ?_)
          · refine v_iload_n S d_Mo_verify_55 rfl rfl ?_
            refine v_istore_nP S d_Mo_verify_56 rfl (by decide) (L2 := [some (.ref (b + 0)), some (.int l1), some (.int l2), some (.int r9)]) rfl ?_
            refine v_iinc S d_Mo_verify_57 rfl (v := (l2 + (1 : Int32))) (by first | rfl | decide) (by decide) (L2 := [some (.ref (b + 0)), some (.int l1), some (.int (l2 + (1 : Int32))), some (.int r9)]) rfl ?_
            refine v_goto S d_Mo_verify_60 (tgt := 24) (by decide) ?_
            refine v_sub (L2 := [some (.ref (b + 0)), some (.int l1), some (.int (l2 + (1 : Int32)))]) (And.intro rfl (And.intro rfl (And.intro rfl True.intro))) ?_
            exact ih σ8 l1 (l2 + (1 : Int32))
          · refine v_sipush S d_Mo_verify_43 (v := (1000 : Int32)) (by decide) ?_
            refine v_iconst S d_Mo_verify_46 (v := (1 : Int32)) (by decide) ?_
            refine v_iload_n S d_Mo_verify_47 rfl rfl ?_
            refine v_iadd S d_Mo_verify_48 ?_
            refine v_imul S d_Mo_verify_49 ?_
            refine v_iload_n S d_Mo_verify_50 rfl rfl ?_
            refine v_iadd S d_Mo_verify_51 ?_
            refine v_goto S d_Mo_verify_52 (tgt := 56) (by decide) ?_
            refine v_top (fun x14 ex14 => ?_)
            refine v_istore_nP S d_Mo_verify_56 rfl (by decide) (L2 := [some (.ref (b + 0)), some (.int x14), some (.int l2), some (.int r9)]) rfl ?_
            refine v_iinc S d_Mo_verify_57 rfl (v := (l2 + (1 : Int32))) (by first | rfl | decide) (by decide) (L2 := [some (.ref (b + 0)), some (.int x14), some (.int (l2 + (1 : Int32))), some (.int r9)]) rfl ?_
            refine v_goto S d_Mo_verify_60 (tgt := 24) (by decide) ?_
            refine v_sub (L2 := [some (.ref (b + 0)), some (.int x14), some (.int (l2 + (1 : Int32)))]) (And.intro rfl (And.intro rfl (And.intro rfl True.intro))) ?_
            exact ih σ8 x14 (l2 + (1 : Int32))
  unfold fn_Mo_verify
  refine v_aload_n S d_Mo_verify_0 rfl rfl ?_
  refine v_iconst S d_Mo_verify_1 (v := (0 : Int32)) (by decide) ?_
  refine v_puti S (fun w h => List.mem_cons_of_mem _ (i_Mo w h)) hKK.1 0 (by decide) rfl rfl 26 (by decide) (S.2.2.2.2 _ (List.mem_cons_of_mem _ (wd_767))) (fun _ h => h) t_Mo t_Mo_ok n_Mo rfl (ty := .int) rfl rfl rfl (Nat.le_of_ble_eq_true rfl) rfl d_Mo_verify_2 ?_
  refine v_sg (fun σ1 eσ1 => ?_)
  refine v_aload_n S d_Mo_verify_5 rfl rfl ?_
  refine v_get S (fun w h => List.mem_cons_of_mem _ (i_Mo w h)) hKK.1 0 (by decide) rfl rfl 3 (by decide) (S.2.2.2.2 _ (List.mem_cons_of_mem _ (wd_744))) (fun _ h => h) rfl d_Mo_verify_6 ?_
  refine v_iconst S d_Mo_verify_9 (v := (0 : Int32)) (by decide) ?_
  refine v_zald S hKK.1 3 1 (by decide) rfl rfl d_Mo_verify_10 (fun h2 => ?_)
  refine v_if_eq S d_Mo_verify_11 (tgt := 18) (by decide) (fun h3 => ?_) (fun h3 => ?_)
  · refine v_sipush S d_Mo_verify_18 (v := (1999 : Int32)) (by decide) ?_
    refine v_istore_nP S d_Mo_verify_21 rfl (by decide) (L2 := [some (.ref (b + 0)), some (.int (1999 : Int32))]) rfl ?_
    refine v_iconst S d_Mo_verify_22 (v := (0 : Int32)) (by decide) ?_
    refine v_istore_nP S d_Mo_verify_23 rfl (by decide) (L2 := [some (.ref (b + 0)), some (.int (1999 : Int32)), some (.int (0 : Int32))]) rfl ?_
    refine v_sub (L2 := [some (.ref (b + 0)), some (.int (1999 : Int32)), some (.int (0 : Int32))]) (And.intro rfl (And.intro rfl (And.intro rfl True.intro))) ?_
    exact C24 fuel0 σ1 (1999 : Int32) (0 : Int32)
  · refine v_iconst S d_Mo_verify_14 (v := (0 : Int32)) (by decide) ?_
    refine v_goto S d_Mo_verify_15 (tgt := 21) (by decide) ?_
    refine v_istore_nP S d_Mo_verify_21 rfl (by decide) (L2 := [some (.ref (b + 0)), some (.int (0 : Int32))]) rfl ?_
    refine v_iconst S d_Mo_verify_22 (v := (0 : Int32)) (by decide) ?_
    refine v_istore_nP S d_Mo_verify_23 rfl (by decide) (L2 := [some (.ref (b + 0)), some (.int (0 : Int32)), some (.int (0 : Int32))]) rfl ?_
    refine v_sub (L2 := [some (.ref (b + 0)), some (.int (0 : Int32)), some (.int (0 : Int32))]) (And.intro rfl (And.intro rfl (And.intro rfl True.intro))) ?_
    exact C24 fuel0 σ1 (0 : Int32) (0 : Int32)
def fn_Mo_isVerified (σ : mm_M)  : Option (Int32 × mm_M) :=
    (nm (mw σ 0 26 (0 : Int32)) (fun σ1 =>
    (if (σ1 0 7) = 0 ∨ (σ1 0 7) = 1 then some ((σ1 0 7), σ1) else none)))
set_option maxRecDepth 100000 in
set_option maxHeartbeats 40000000 in
theorem c_Mo_isVerified (l : Launch) (D : va_G) (ca : Nat → ClassId) (ax : Nat → Nat → Nat) (b : Nat) (σ : mm_M)   {r : Int32} {σ' : mm_M} (hf : fn_Mo_isVerified σ  = some (r, σ')) : Met l y_Mo_isVerified w_Mo_isVerified rm_Mo_isVerified (pc_w D cls b N_M (ce_M ca b) (kM D ca ax b) [.ref (b + 0)] σ) (qc_i D cls b N_M (ce_M ca b) r σ') 0 0 (mm_A b N_M) := by
  refine vv_go (cc := b_Mo_isVerified) (maxL := 1) (ret := (some .boolean)) (fin := (r, σ')) (k := fn_Mo_isVerified σ ) (by decide) rfl (by simp [Value.category]) (Nat.le_of_ble_eq_true rfl) hf ?_
  intro p e s m below meth c hlocks hret S hKK
  unfold fn_Mo_isVerified
  refine v_aload_n S d_Mo_isVerified_0 rfl rfl ?_
  refine v_iconst S d_Mo_isVerified_1 (v := (0 : Int32)) (by decide) ?_
  refine v_puti S (fun w h => List.mem_cons_of_mem _ (i_Mo w h)) hKK.1 0 (by decide) rfl rfl 26 (by decide) (S.2.2.2.2 _ (List.mem_cons_of_mem _ (wd_767))) (fun _ h => h) t_Mo t_Mo_ok n_Mo rfl (ty := .int) rfl rfl rfl (Nat.le_of_ble_eq_true rfl) rfl d_Mo_isVerified_2 ?_
  refine v_sg (fun σ1 eσ1 => ?_)
  refine v_aload_n S d_Mo_isVerified_5 rfl rfl ?_
  refine v_get S (fun w h => List.mem_cons_of_mem _ (i_Mo w h)) hKK.1 0 (by decide) rfl rfl 7 (by decide) (S.2.2.2.2 _ (List.mem_cons_of_mem _ (wd_748))) (fun _ h => h) rfl d_Mo_isVerified_6 ?_
  exact v_zret S hret hlocks d_Mo_isVerified_9
def fn_Mo_type (σ : mm_M) (a0 : Int32) (a1 : Int32) (a2 : Int32) : Option (Int32 × mm_M) :=
    (nm (mw σ 0 26 (0 : Int32)) (fun σ1 =>
    (if a0 < 0 then
    (some ((-1 : Int32), σ1))
    else
    (if (3 : Int32) < a0 then
    (some ((-1 : Int32), σ1))
    else
    (if a1 < 0 then
    (some ((-1 : Int32), σ1))
    else
    (if (99 : Int32) < a1 then
    (some ((-1 : Int32), σ1))
    else
    (if a2 < 0 then
    (some ((-1 : Int32), σ1))
    else
    (if a2 ≤ (11 : Int32) then
    (nm (((100 : Int32) * a0) + a1) (fun x8 =>
    (bd (fn_Mo_work σ1 a0) (fun r10 σ9 =>
    (if (x8 < 0 ∨ 400 ≤ x8.toNatClampNeg) then none else
    (if (σ9 7 x8.toNatClampNeg) = (-2 : Int32) then
    (some ((-2 : Int32), σ9))
    else
    (if (x8 < 0 ∨ 400 ≤ x8.toNatClampNeg) then none else
    (if (σ9 7 x8.toNatClampNeg) = (-1 : Int32) then
    (some ((-1 : Int32), σ9))
    else
    (if (x8 < 0 ∨ 400 ≤ x8.toNatClampNeg) then none else
    (if a2 < ((6 : Int32) + (σ9 7 x8.toNatClampNeg)) then
    (if ((((12 : Int32) * x8) + a2) < 0 ∨ 4800 ≤ (((12 : Int32) * x8) + a2).toNatClampNeg) then none else
    (some ((σ9 8 (((12 : Int32) * x8) + a2).toNatClampNeg), σ9)))
    else
    (some ((-1 : Int32), σ9))))))))))))
    else
    (some ((-1 : Int32), σ1))))))))))
set_option maxRecDepth 100000 in
set_option maxHeartbeats 40000000 in
theorem c_Mo_type (l : Launch) (D : va_G) (ca : Nat → ClassId) (ax : Nat → Nat → Nat) (b : Nat) (σ : mm_M) (a0 : Int32) (a1 : Int32) (a2 : Int32)  {r : Int32} {σ' : mm_M} (hf : fn_Mo_type σ a0 a1 a2 = some (r, σ')) : Met l y_Mo_type w_Mo_type rm_Mo_type (pc_w D cls b N_M (ce_M ca b) (kM D ca ax b) [.ref (b + 0), .int a0, .int a1, .int a2] σ) (qc_i D cls b N_M (ce_M ca b) r σ') 0 0 (mm_A b N_M) := by
  refine vv_go (cc := b_Mo_type) (maxL := 6) (ret := (some .int)) (fin := (r, σ')) (k := fn_Mo_type σ a0 a1 a2) (by decide) rfl (by simp [Value.category]) (Nat.le_of_ble_eq_true rfl) hf ?_
  intro p e s m below meth c hlocks hret S hKK
  unfold fn_Mo_type
  refine v_aload_n S d_Mo_type_0 rfl rfl ?_
  refine v_iconst S d_Mo_type_1 (v := (0 : Int32)) (by decide) ?_
  refine v_puti S (fun w h => List.mem_cons_of_mem _ (i_Mo w h)) hKK.1 0 (by decide) rfl rfl 26 (by decide) (S.2.2.2.2 _ (List.mem_cons_of_mem _ (wd_767))) (fun _ h => h) t_Mo t_Mo_ok n_Mo rfl (ty := .int) rfl rfl rfl (Nat.le_of_ble_eq_true rfl) rfl d_Mo_type_2 ?_
  refine v_sg (fun σ1 eσ1 => ?_)
  refine v_iload_n S d_Mo_type_5 rfl rfl ?_
  refine v_if_lt S d_Mo_type_6 (tgt := 34) (by decide) (fun h2 => ?_) (fun h2 => ?_)
  · refine v_iconst S d_Mo_type_34 (v := (-1 : Int32)) (by decide) ?_
    exact v_iret S hret hlocks d_Mo_type_35
  · refine v_iload_n S d_Mo_type_9 rfl rfl ?_
    refine v_iconst S d_Mo_type_10 (v := (3 : Int32)) (by decide) ?_
    refine v_icmp_gt S d_Mo_type_11 (tgt := 34) (by decide) (fun h3 => ?_) (fun h3 => ?_)
    · refine v_iconst S d_Mo_type_34 (v := (-1 : Int32)) (by decide) ?_
      exact v_iret S hret hlocks d_Mo_type_35
    · refine v_iload_n S d_Mo_type_14 rfl rfl ?_
      refine v_if_lt S d_Mo_type_15 (tgt := 34) (by decide) (fun h4 => ?_) (fun h4 => ?_)
      · refine v_iconst S d_Mo_type_34 (v := (-1 : Int32)) (by decide) ?_
        exact v_iret S hret hlocks d_Mo_type_35
      · refine v_iload_n S d_Mo_type_18 rfl rfl ?_
        refine v_bipush S d_Mo_type_19 (v := (99 : Int32)) (by decide) ?_
        refine v_icmp_gt S d_Mo_type_21 (tgt := 34) (by decide) (fun h5 => ?_) (fun h5 => ?_)
        · refine v_iconst S d_Mo_type_34 (v := (-1 : Int32)) (by decide) ?_
          exact v_iret S hret hlocks d_Mo_type_35
        · refine v_iload_n S d_Mo_type_24 rfl rfl ?_
          refine v_if_lt S d_Mo_type_25 (tgt := 34) (by decide) (fun h6 => ?_) (fun h6 => ?_)
          · refine v_iconst S d_Mo_type_34 (v := (-1 : Int32)) (by decide) ?_
            exact v_iret S hret hlocks d_Mo_type_35
          · refine v_iload_n S d_Mo_type_28 rfl rfl ?_
            refine v_bipush S d_Mo_type_29 (v := (11 : Int32)) (by decide) ?_
            refine v_icmp_le S d_Mo_type_31 (tgt := 36) (by decide) (fun h7 => ?_) (fun h7 => ?_)
            · refine v_bipush S d_Mo_type_36 (v := (100 : Int32)) (by decide) ?_
              refine v_iload_n S d_Mo_type_38 rfl rfl ?_
              refine v_imul S d_Mo_type_39 ?_
              refine v_iload_n S d_Mo_type_40 rfl rfl ?_
              refine v_iadd S d_Mo_type_41 ?_
              refine v_top (fun x8 ex8 => ?_)
              refine v_istoreP S d_Mo_type_42 (by decide) (L2 := [some (.ref (b + 0)), some (.int a0), some (.int a1), some (.int a2), some (.int x8)]) rfl ?_
              refine v_aload_n S d_Mo_type_44 rfl rfl ?_
              refine v_iload_n S d_Mo_type_45 rfl rfl ?_
              refine v_ci (rest := []) (fun _ _ hg H locs ls hsz hP hS => run_V (As := [.int a0]) (rest := []) S kM_ok hKK (c_Mo_work l D ca ax b σ1 a0 hg) (k_Mo_127 S.2.2.2.2 (fun _ => List.mem_cons_of_mem _) ⟨Nat.le_of_ble_eq_true rfl, Nat.le_of_ble_eq_true rfl⟩) (rc_w hKK.1 hP 0 (by decide) rfl rfl) rfl rfl (Nat.zero_le _) d_Mo_type_46 hsz hP hS) (fun r10 σ9 _ => ?_)
              refine v_istoreP S d_Mo_type_49 (by decide) (L2 := [some (.ref (b + 0)), some (.int a0), some (.int a1), some (.int a2), some (.int x8), some (.int r10)]) rfl ?_
              refine v_aload_n S d_Mo_type_51 rfl rfl ?_
              refine v_get S (fun w h => List.mem_cons_of_mem _ (i_Mo w h)) hKK.1 0 (by decide) rfl rfl 8 (by decide) (S.2.2.2.2 _ (List.mem_cons_of_mem _ (wd_749))) (fun _ h => h) rfl d_Mo_type_52 ?_
              refine v_iload S d_Mo_type_55 rfl ?_
              refine v_iald S hKK.1 7 0 (by decide) rfl rfl d_Mo_type_57 (fun h11 => ?_)
              refine v_bipush S d_Mo_type_58 (v := (-2 : Int32)) (by decide) ?_
              refine v_icmp_ne S d_Mo_type_60 (tgt := 68) (by decide) (fun h12 => ?_) (fun h12 => ?_)
              · refine v_aload_n S d_Mo_type_68 rfl rfl ?_
                refine v_get S (fun w h => List.mem_cons_of_mem _ (i_Mo w h)) hKK.1 0 (by decide) rfl rfl 8 (by decide) (S.2.2.2.2 _ (List.mem_cons_of_mem _ (wd_749))) (fun _ h => h) rfl d_Mo_type_69 ?_
                refine v_iload S d_Mo_type_72 rfl ?_
                refine v_iald S hKK.1 7 0 (by decide) rfl rfl d_Mo_type_74 (fun h13 => ?_)
                refine v_iconst S d_Mo_type_75 (v := (-1 : Int32)) (by decide) ?_
                refine v_icmp_eq S d_Mo_type_76 (tgt := 93) (by decide) (fun h14 => ?_) (fun h14 => ?_)
                · refine v_iconst S d_Mo_type_93 (v := (-1 : Int32)) (by decide) ?_
                  refine v_goto S d_Mo_type_94 (tgt := 109) (by decide) ?_
                  exact v_iret S hret hlocks d_Mo_type_109
                · refine v_iload_n S d_Mo_type_79 rfl rfl ?_
                  refine v_bipush S d_Mo_type_80 (v := (6 : Int32)) (by decide) ?_
                  refine v_aload_n S d_Mo_type_82 rfl rfl ?_
                  refine v_get S (fun w h => List.mem_cons_of_mem _ (i_Mo w h)) hKK.1 0 (by decide) rfl rfl 8 (by decide) (S.2.2.2.2 _ (List.mem_cons_of_mem _ (wd_749))) (fun _ h => h) rfl d_Mo_type_83 ?_
                  refine v_iload S d_Mo_type_86 rfl ?_
                  refine v_iald S hKK.1 7 0 (by decide) rfl rfl d_Mo_type_88 (fun h15 => ?_)
                  refine v_iadd S d_Mo_type_89 ?_
                  refine v_icmp_lt S d_Mo_type_90 (tgt := 97) (by decide) (fun h16 => ?_) (fun h16 => ?_)
                  · refine v_aload_n S d_Mo_type_97 rfl rfl ?_
                    refine v_get S (fun w h => List.mem_cons_of_mem _ (i_Mo w h)) hKK.1 0 (by decide) rfl rfl 9 (by decide) (S.2.2.2.2 _ (List.mem_cons_of_mem _ (wd_750))) (fun _ h => h) rfl d_Mo_type_98 ?_
                    refine v_bipush S d_Mo_type_101 (v := (12 : Int32)) (by decide) ?_
                    refine v_iload S d_Mo_type_103 rfl ?_
                    refine v_imul S d_Mo_type_105 ?_
                    refine v_iload_n S d_Mo_type_106 rfl rfl ?_
                    refine v_iadd S d_Mo_type_107 ?_
                    refine v_iald S hKK.1 8 0 (by decide) rfl rfl d_Mo_type_108 (fun h17 => ?_)
                    exact v_iret S hret hlocks d_Mo_type_109
                  · refine v_iconst S d_Mo_type_93 (v := (-1 : Int32)) (by decide) ?_
                    refine v_goto S d_Mo_type_94 (tgt := 109) (by decide) ?_
                    exact v_iret S hret hlocks d_Mo_type_109
              · refine v_bipush S d_Mo_type_63 (v := (-2 : Int32)) (by decide) ?_
                refine v_goto S d_Mo_type_65 (tgt := 109) (by decide) ?_
                exact v_iret S hret hlocks d_Mo_type_109
            · refine v_iconst S d_Mo_type_34 (v := (-1 : Int32)) (by decide) ?_
              exact v_iret S hret hlocks d_Mo_type_35
def fn_Mo_enter_37 (a0 : Int32) : Nat → mm_M → Int32 → Option (mm_M)
  | 0, _, _ => none
  | n + 1, σ, l2 =>
    (if (6 : Int32) ≤ l2 then
    (nm (mw σ 0 16 ((σ 0 16) + (1 : Int32))) (fun σ9 =>
    (some σ9)))
    else
    (if ((((12 : Int32) * (σ 0 16)) + l2) < 0 ∨ 96 ≤ (((12 : Int32) * (σ 0 16)) + l2).toNatClampNeg) then none else (nm (mw σ 15 (((12 : Int32) * (σ 0 16)) + l2).toNatClampNeg (0 : Int32)) (fun σ11 =>
    (if ((((12 : Int32) * (σ11 0 16)) + l2) < 0 ∨ 96 ≤ (((12 : Int32) * (σ11 0 16)) + l2).toNatClampNeg) then none else (nm (mw σ11 14 (((12 : Int32) * (σ11 0 16)) + l2).toNatClampNeg (0 : Int32)) (fun σ13 =>
    (fn_Mo_enter_37 a0 n σ13 (l2 + (1 : Int32))))))))))
def fn_Mo_enter (σ : mm_M) (a0 : Int32) : Option (mm_M) :=
    (if ((σ 0 16) < 0 ∨ 8 ≤ (σ 0 16).toNatClampNeg) then none else (nm (mw σ 11 (σ 0 16).toNatClampNeg a0) (fun σ2 =>
    (if (a0 < 0 ∨ 4 ≤ a0.toNatClampNeg) then none else
    (if ((σ2 0 16) < 0 ∨ 8 ≤ (σ2 0 16).toNatClampNeg) then none else (nm (mw σ2 12 (σ2 0 16).toNatClampNeg (σ2 4 a0.toNatClampNeg)) (fun σ5 =>
    (if ((σ5 0 16) < 0 ∨ 8 ≤ (σ5 0 16).toNatClampNeg) then none else (nm (mw σ5 13 (σ5 0 16).toNatClampNeg (0 : Int32)) (fun σ7 =>
    (fn_Mo_enter_37 a0 fuel0 σ7 (0 : Int32))))))))))))
set_option maxRecDepth 100000 in
set_option maxHeartbeats 40000000 in
theorem c_Mo_enter (l : Launch) (D : va_G) (ca : Nat → ClassId) (ax : Nat → Nat → Nat) (b : Nat) (σ : mm_M) (a0 : Int32)  {σ' : mm_M} (hf : fn_Mo_enter σ a0 = some σ') : Met l y_Mo_enter w_Mo_enter rm_Mo_enter (pc_w D cls b N_M (ce_M ca b) (kM D ca ax b) [.ref (b + 0), .int a0] σ) (qc_v D cls b N_M (ce_M ca b) σ') 0 0 (mm_A b N_M) := by
  refine vv_go (cc := b_Mo_enter) (maxL := 3) (ret := none) (fin := σ') (k := fn_Mo_enter σ a0) (by decide) rfl (by simp [Value.category]) (Nat.le_of_ble_eq_true rfl) hf ?_
  intro p e s m below meth c hlocks hret S hKK
  have C37 : ∀ (n : Nat) (σ : mm_M) (l2 : Int32), vv p l e (headSpec w_Mo_enter rm_Mo_enter).room s m [.ref (b + 0), .int a0].toArray below meth c D cls b N_M (ce_M ca b) 3 (MQ below (qc_v D cls b N_M (ce_M ca b) σ') [.ref (b + 0), .int a0].toArray s 0 0 (mm_A b N_M)) σ' (fn_Mo_enter_37 a0 n σ l2) σ 37 [some (.ref (b + 0)), none, some (.int l2)] [] := by
    intro n
    induction n with
    | zero => intro σ l2  h; cases h
    | succ n ih =>
      intro σ l2
      show vv p l e (headSpec w_Mo_enter rm_Mo_enter).room s m [.ref (b + 0), .int a0].toArray below meth c D cls b N_M (ce_M ca b) 3 (MQ below (qc_v D cls b N_M (ce_M ca b) σ') [.ref (b + 0), .int a0].toArray s 0 0 (mm_A b N_M)) σ' (        (if (6 : Int32) ≤ l2 then
        (nm (mw σ 0 16 ((σ 0 16) + (1 : Int32))) (fun σ9 =>
        (some σ9)))
        else
        (if ((((12 : Int32) * (σ 0 16)) + l2) < 0 ∨ 96 ≤ (((12 : Int32) * (σ 0 16)) + l2).toNatClampNeg) then none else (nm (mw σ 15 (((12 : Int32) * (σ 0 16)) + l2).toNatClampNeg (0 : Int32)) (fun σ11 =>
        (if ((((12 : Int32) * (σ11 0 16)) + l2) < 0 ∨ 96 ≤ (((12 : Int32) * (σ11 0 16)) + l2).toNatClampNeg) then none else (nm (mw σ11 14 (((12 : Int32) * (σ11 0 16)) + l2).toNatClampNeg (0 : Int32)) (fun σ13 =>
        (fn_Mo_enter_37 a0 n σ13 (l2 + (1 : Int32))))))))))) σ 37 [some (.ref (b + 0)), none, some (.int l2)] []
      refine v_iload_n S d_Mo_enter_37 rfl rfl ?_
      refine v_bipush S d_Mo_enter_38 (v := (6 : Int32)) (by decide) ?_
      refine v_icmp_ge S d_Mo_enter_40 (tgt := 79) (by decide) (fun h8 => ?_) (fun h8 => ?_)
      · refine v_aload_n S d_Mo_enter_79 rfl rfl ?_
        refine v_dup S d_Mo_enter_80 rfl ?_
        refine v_get S (fun w h => List.mem_cons_of_mem _ (i_Mo w h)) hKK.1 0 (by decide) rfl rfl 16 (by decide) (S.2.2.2.2 _ (List.mem_cons_of_mem _ (wd_757))) (fun _ h => h) rfl d_Mo_enter_81 ?_
        refine v_iconst S d_Mo_enter_84 (v := (1 : Int32)) (by decide) ?_
        refine v_iadd S d_Mo_enter_85 ?_
        refine v_puti S (fun w h => List.mem_cons_of_mem _ (i_Mo w h)) hKK.1 0 (by decide) rfl rfl 16 (by decide) (S.2.2.2.2 _ (List.mem_cons_of_mem _ (wd_757))) (fun _ h => h) t_Mo t_Mo_ok n_Mo rfl (ty := .int) rfl rfl rfl (Nat.le_of_ble_eq_true rfl) rfl d_Mo_enter_86 ?_
        refine v_sg (fun σ9 eσ9 => ?_)
        exact v_vret S hret hlocks d_Mo_enter_89
      · refine v_aload_n S d_Mo_enter_43 rfl rfl ?_
        refine v_get S (fun w h => List.mem_cons_of_mem _ (i_Mo w h)) hKK.1 0 (by decide) rfl rfl 21 (by decide) (S.2.2.2.2 _ (List.mem_cons_of_mem _ (wd_762))) (fun _ h => h) rfl d_Mo_enter_44 ?_
        refine v_bipush S d_Mo_enter_47 (v := (12 : Int32)) (by decide) ?_
        refine v_aload_n S d_Mo_enter_49 rfl rfl ?_
        refine v_get S (fun w h => List.mem_cons_of_mem _ (i_Mo w h)) hKK.1 0 (by decide) rfl rfl 16 (by decide) (S.2.2.2.2 _ (List.mem_cons_of_mem _ (wd_757))) (fun _ h => h) rfl d_Mo_enter_50 ?_
        refine v_imul S d_Mo_enter_53 ?_
        refine v_iload_n S d_Mo_enter_54 rfl rfl ?_
        refine v_iadd S d_Mo_enter_55 ?_
        refine v_iconst S d_Mo_enter_56 (v := (0 : Int32)) (by decide) ?_
        refine v_iast1 S hKK.1 15 0 (by decide) (fun _ => rfl) rfl d_Mo_enter_57 (fun h10 => ?_)
        refine v_sg (fun σ11 eσ11 => ?_)
        refine v_aload_n S d_Mo_enter_58 rfl rfl ?_
        refine v_get S (fun w h => List.mem_cons_of_mem _ (i_Mo w h)) hKK.1 0 (by decide) rfl rfl 20 (by decide) (S.2.2.2.2 _ (List.mem_cons_of_mem _ (wd_761))) (fun _ h => h) rfl d_Mo_enter_59 ?_
        refine v_bipush S d_Mo_enter_62 (v := (12 : Int32)) (by decide) ?_
        refine v_aload_n S d_Mo_enter_64 rfl rfl ?_
        refine v_get S (fun w h => List.mem_cons_of_mem _ (i_Mo w h)) hKK.1 0 (by decide) rfl rfl 16 (by decide) (S.2.2.2.2 _ (List.mem_cons_of_mem _ (wd_757))) (fun _ h => h) rfl d_Mo_enter_65 ?_
        refine v_imul S d_Mo_enter_68 ?_
        refine v_iload_n S d_Mo_enter_69 rfl rfl ?_
        refine v_iadd S d_Mo_enter_70 ?_
        refine v_iconst S d_Mo_enter_71 (v := (0 : Int32)) (by decide) ?_
        refine v_iast1 S hKK.1 14 0 (by decide) (fun _ => rfl) rfl d_Mo_enter_72 (fun h12 => ?_)
        refine v_sg (fun σ13 eσ13 => ?_)
        refine v_iinc S d_Mo_enter_73 rfl (v := (l2 + (1 : Int32))) (by first | rfl | decide) (by decide) (L2 := [some (.ref (b + 0)), none, some (.int (l2 + (1 : Int32)))]) rfl ?_
        refine v_goto S d_Mo_enter_76 (tgt := 37) (by decide) ?_
        refine v_sub (L2 := [some (.ref (b + 0)), none, some (.int (l2 + (1 : Int32)))]) (And.intro rfl (And.intro rfl True.intro)) ?_
        exact ih σ13 (l2 + (1 : Int32))
  unfold fn_Mo_enter
  refine v_aload_n S d_Mo_enter_0 rfl rfl ?_
  refine v_get S (fun w h => List.mem_cons_of_mem _ (i_Mo w h)) hKK.1 0 (by decide) rfl rfl 17 (by decide) (S.2.2.2.2 _ (List.mem_cons_of_mem _ (wd_758))) (fun _ h => h) rfl d_Mo_enter_1 ?_
  refine v_aload_n S d_Mo_enter_4 rfl rfl ?_
  refine v_get S (fun w h => List.mem_cons_of_mem _ (i_Mo w h)) hKK.1 0 (by decide) rfl rfl 16 (by decide) (S.2.2.2.2 _ (List.mem_cons_of_mem _ (wd_757))) (fun _ h => h) rfl d_Mo_enter_5 ?_
  refine v_iload_n S d_Mo_enter_8 rfl rfl ?_
  refine v_iast1 S hKK.1 11 0 (by decide) (fun _ => rfl) rfl d_Mo_enter_9 (fun h1 => ?_)
  refine v_sg (fun σ2 eσ2 => ?_)
  refine v_aload_n S d_Mo_enter_10 rfl rfl ?_
  refine v_get S (fun w h => List.mem_cons_of_mem _ (i_Mo w h)) hKK.1 0 (by decide) rfl rfl 18 (by decide) (S.2.2.2.2 _ (List.mem_cons_of_mem _ (wd_759))) (fun _ h => h) rfl d_Mo_enter_11 ?_
  refine v_aload_n S d_Mo_enter_14 rfl rfl ?_
  refine v_get S (fun w h => List.mem_cons_of_mem _ (i_Mo w h)) hKK.1 0 (by decide) rfl rfl 16 (by decide) (S.2.2.2.2 _ (List.mem_cons_of_mem _ (wd_757))) (fun _ h => h) rfl d_Mo_enter_15 ?_
  refine v_aload_n S d_Mo_enter_18 rfl rfl ?_
  refine v_get S (fun w h => List.mem_cons_of_mem _ (i_Mo w h)) hKK.1 0 (by decide) rfl rfl 4 (by decide) (S.2.2.2.2 _ (List.mem_cons_of_mem _ (wd_745))) (fun _ h => h) rfl d_Mo_enter_19 ?_
  refine v_iload_n S d_Mo_enter_22 rfl rfl ?_
  refine v_iald S hKK.1 4 0 (by decide) rfl rfl d_Mo_enter_23 (fun h3 => ?_)
  refine v_iast1 S hKK.1 12 0 (by decide) (fun _ => rfl) rfl d_Mo_enter_24 (fun h4 => ?_)
  refine v_sg (fun σ5 eσ5 => ?_)
  refine v_aload_n S d_Mo_enter_25 rfl rfl ?_
  refine v_get S (fun w h => List.mem_cons_of_mem _ (i_Mo w h)) hKK.1 0 (by decide) rfl rfl 19 (by decide) (S.2.2.2.2 _ (List.mem_cons_of_mem _ (wd_760))) (fun _ h => h) rfl d_Mo_enter_26 ?_
  refine v_aload_n S d_Mo_enter_29 rfl rfl ?_
  refine v_get S (fun w h => List.mem_cons_of_mem _ (i_Mo w h)) hKK.1 0 (by decide) rfl rfl 16 (by decide) (S.2.2.2.2 _ (List.mem_cons_of_mem _ (wd_757))) (fun _ h => h) rfl d_Mo_enter_30 ?_
  refine v_iconst S d_Mo_enter_33 (v := (0 : Int32)) (by decide) ?_
  refine v_iast1 S hKK.1 13 0 (by decide) (fun _ => rfl) rfl d_Mo_enter_34 (fun h6 => ?_)
  refine v_sg (fun σ7 eσ7 => ?_)
  refine v_iconst S d_Mo_enter_35 (v := (0 : Int32)) (by decide) ?_
  refine v_istore_nP S d_Mo_enter_36 rfl (by decide) (L2 := [some (.ref (b + 0)), some (.int a0), some (.int (0 : Int32))]) rfl ?_
  refine v_sub (L2 := [some (.ref (b + 0)), none, some (.int (0 : Int32))]) (And.intro rfl (And.intro rfl True.intro)) ?_
  exact C37 fuel0 σ7 (0 : Int32)
def fn_Mo_start_34 (a0 : Int32) (a1 : Int32) (a2 : Int32) : Nat → mm_M → Int32 → Option (Int32 × mm_M)
  | 0, _, _ => none
  | n + 1, σ, l4 =>
    (if ((0 : Int32) < 0 ∨ 4 ≤ (0 : Int32).toNatClampNeg) then none else
    (if (σ 5 (0 : Int32).toNatClampNeg) ≤ l4 then
    (if (1 : Int32) = 0 ∨ (1 : Int32) = 1 then some ((1 : Int32), σ) else none)
    else
    (bd (fn_Mo_kindOf σ (0 : Int32) l4) (fun r10 σ9 =>
    (if (l4 < 0 ∨ 96 ≤ l4.toNatClampNeg) then none else (nm (mw σ9 15 l4.toNatClampNeg r10) (fun σ12 =>
    (if (l4 < 0 ∨ 96 ≤ l4.toNatClampNeg) then none else
    (if (σ12 15 l4.toNatClampNeg) = (2 : Int32) then
    (if (l4 < 0 ∨ 96 ≤ l4.toNatClampNeg) then none else (nm (mw σ12 14 l4.toNatClampNeg (0 : Int32)) (fun σ27 =>
    (fn_Mo_start_34 a0 a1 a2 n σ27 (l4 + (1 : Int32))))))
    else
    (if l4 = 0 then
    (if (l4 < 0 ∨ 96 ≤ l4.toNatClampNeg) then none else (nm (mw σ12 14 l4.toNatClampNeg a0) (fun σ24 =>
    (fn_Mo_start_34 a0 a1 a2 n σ24 (l4 + (1 : Int32))))))
    else
    (if l4 = (1 : Int32) then
    (if (l4 < 0 ∨ 96 ≤ l4.toNatClampNeg) then none else (nm (mw σ12 14 l4.toNatClampNeg a1) (fun σ21 =>
    (fn_Mo_start_34 a0 a1 a2 n σ21 (l4 + (1 : Int32))))))
    else
    (if (l4 < 0 ∨ 96 ≤ l4.toNatClampNeg) then none else (nm (mw σ12 14 l4.toNatClampNeg a2) (fun σ18 =>
    (fn_Mo_start_34 a0 a1 a2 n σ18 (l4 + (1 : Int32)))))))))))))))))
def fn_Mo_start (σ : mm_M) (a0 : Int32) (a1 : Int32) (a2 : Int32) : Option (Int32 × mm_M) :=
    (nm (mw σ 0 26 (0 : Int32)) (fun σ1 =>
    (if ((0 : Int32) < 0 ∨ 4 ≤ (0 : Int32).toNatClampNeg) then none else
    (if (σ1 3 (0 : Int32).toNatClampNeg) = 0 then
    (if (0 : Int32) = 0 ∨ (0 : Int32) = 1 then some ((0 : Int32), σ1) else none)
    else
    (nm (mw σ1 0 16 (0 : Int32)) (fun σ4 =>
    (nm (mw σ4 0 22 (0 : Int32)) (fun σ5 =>
    (bv (fn_Mo_enter σ5 (0 : Int32)) (fun σ6 =>
    (fn_Mo_start_34 a0 a1 a2 fuel0 σ6 (0 : Int32))))))))))))
set_option maxRecDepth 100000 in
set_option maxHeartbeats 40000000 in
theorem c_Mo_start (l : Launch) (D : va_G) (ca : Nat → ClassId) (ax : Nat → Nat → Nat) (b : Nat) (σ : mm_M) (a0 : Int32) (a1 : Int32) (a2 : Int32)  {r : Int32} {σ' : mm_M} (hf : fn_Mo_start σ a0 a1 a2 = some (r, σ')) : Met l y_Mo_start w_Mo_start rm_Mo_start (pc_w D cls b N_M (ce_M ca b) (kM D ca ax b) [.ref (b + 0), .int a0, .int a1, .int a2] σ) (qc_i D cls b N_M (ce_M ca b) r σ') 0 0 (mm_A b N_M) := by
  refine vv_go (cc := b_Mo_start) (maxL := 5) (ret := (some .boolean)) (fin := (r, σ')) (k := fn_Mo_start σ a0 a1 a2) (by decide) rfl (by simp [Value.category]) (Nat.le_of_ble_eq_true rfl) hf ?_
  intro p e s m below meth c hlocks hret S hKK
  have C34 : ∀ (n : Nat) (σ : mm_M) (l4 : Int32), vv p l e (headSpec w_Mo_start rm_Mo_start).room s m [.ref (b + 0), .int a0, .int a1, .int a2].toArray below meth c D cls b N_M (ce_M ca b) 5 (MQ below (qc_i D cls b N_M (ce_M ca b) r σ') [.ref (b + 0), .int a0, .int a1, .int a2].toArray s 0 0 (mm_A b N_M)) (r, σ') (fn_Mo_start_34 a0 a1 a2 n σ l4) σ 34 [some (.ref (b + 0)), some (.int a0), some (.int a1), some (.int a2), some (.int l4)] [] := by
    intro n
    induction n with
    | zero => intro σ l4  h; cases h
    | succ n ih =>
      intro σ l4
      show vv p l e (headSpec w_Mo_start rm_Mo_start).room s m [.ref (b + 0), .int a0, .int a1, .int a2].toArray below meth c D cls b N_M (ce_M ca b) 5 (MQ below (qc_i D cls b N_M (ce_M ca b) r σ') [.ref (b + 0), .int a0, .int a1, .int a2].toArray s 0 0 (mm_A b N_M)) (r, σ') (        (if ((0 : Int32) < 0 ∨ 4 ≤ (0 : Int32).toNatClampNeg) then none else
        (if (σ 5 (0 : Int32).toNatClampNeg) ≤ l4 then
        (if (1 : Int32) = 0 ∨ (1 : Int32) = 1 then some ((1 : Int32), σ) else none)
        else
        (bd (fn_Mo_kindOf σ (0 : Int32) l4) (fun r10 σ9 =>
        (if (l4 < 0 ∨ 96 ≤ l4.toNatClampNeg) then none else (nm (mw σ9 15 l4.toNatClampNeg r10) (fun σ12 =>
        (if (l4 < 0 ∨ 96 ≤ l4.toNatClampNeg) then none else
        (if (σ12 15 l4.toNatClampNeg) = (2 : Int32) then
        (if (l4 < 0 ∨ 96 ≤ l4.toNatClampNeg) then none else (nm (mw σ12 14 l4.toNatClampNeg (0 : Int32)) (fun σ27 =>
        (fn_Mo_start_34 a0 a1 a2 n σ27 (l4 + (1 : Int32))))))
        else
        (if l4 = 0 then
        (if (l4 < 0 ∨ 96 ≤ l4.toNatClampNeg) then none else (nm (mw σ12 14 l4.toNatClampNeg a0) (fun σ24 =>
        (fn_Mo_start_34 a0 a1 a2 n σ24 (l4 + (1 : Int32))))))
        else
        (if l4 = (1 : Int32) then
        (if (l4 < 0 ∨ 96 ≤ l4.toNatClampNeg) then none else (nm (mw σ12 14 l4.toNatClampNeg a1) (fun σ21 =>
        (fn_Mo_start_34 a0 a1 a2 n σ21 (l4 + (1 : Int32))))))
        else
        (if (l4 < 0 ∨ 96 ≤ l4.toNatClampNeg) then none else (nm (mw σ12 14 l4.toNatClampNeg a2) (fun σ18 =>
        (fn_Mo_start_34 a0 a1 a2 n σ18 (l4 + (1 : Int32)))))))))))))))))) σ 34 [some (.ref (b + 0)), some (.int a0), some (.int a1), some (.int a2), some (.int l4)] []
      refine v_iload S d_Mo_start_34 rfl ?_
      refine v_aload_n S d_Mo_start_36 rfl rfl ?_
      refine v_get S (fun w h => List.mem_cons_of_mem _ (i_Mo w h)) hKK.1 0 (by decide) rfl rfl 5 (by decide) (S.2.2.2.2 _ (List.mem_cons_of_mem _ (wd_746))) (fun _ h => h) rfl d_Mo_start_37 ?_
      refine v_iconst S d_Mo_start_40 (v := (0 : Int32)) (by decide) ?_
      refine v_iald S hKK.1 5 0 (by decide) rfl rfl d_Mo_start_41 (fun h7 => ?_)
      refine v_icmp_ge S d_Mo_start_42 (tgt := 107) (by decide) (fun h8 => ?_) (fun h8 => ?_)
      · refine v_iconst S d_Mo_start_107 (v := (1 : Int32)) (by decide) ?_
        exact v_zret S hret hlocks d_Mo_start_108
      · refine v_aload_n S d_Mo_start_45 rfl rfl ?_
        refine v_get S (fun w h => List.mem_cons_of_mem _ (i_Mo w h)) hKK.1 0 (by decide) rfl rfl 21 (by decide) (S.2.2.2.2 _ (List.mem_cons_of_mem _ (wd_762))) (fun _ h => h) rfl d_Mo_start_46 ?_
        refine v_iload S d_Mo_start_49 rfl ?_
        refine v_aload_n S d_Mo_start_51 rfl rfl ?_
        refine v_iconst S d_Mo_start_52 (v := (0 : Int32)) (by decide) ?_
        refine v_iload S d_Mo_start_53 rfl ?_
        refine v_ci (rest := [.int l4, .ref (b + 15)]) (fun _ _ hg H locs ls hsz hP hS => run_V (As := [.int (0 : Int32), .int l4]) (rest := [.int l4, .ref (b + 15)]) S kM_ok hKK (c_Mo_kindOf l D ca ax b σ (0 : Int32) l4 hg) (k_Mo_110 S.2.2.2.2 (fun _ => List.mem_cons_of_mem _) ⟨Nat.le_of_ble_eq_true rfl, Nat.le_of_ble_eq_true rfl⟩) (rc_w hKK.1 hP 0 (by decide) rfl rfl) rfl rfl (by simp [Value.category]) d_Mo_start_55 hsz hP hS) (fun r10 σ9 _ => ?_)
        refine v_iast1 S hKK.1 15 0 (by decide) (fun _ => rfl) rfl d_Mo_start_58 (fun h11 => ?_)
        refine v_sg (fun σ12 eσ12 => ?_)
        refine v_aload_n S d_Mo_start_59 rfl rfl ?_
        refine v_get S (fun w h => List.mem_cons_of_mem _ (i_Mo w h)) hKK.1 0 (by decide) rfl rfl 20 (by decide) (S.2.2.2.2 _ (List.mem_cons_of_mem _ (wd_761))) (fun _ h => h) rfl d_Mo_start_60 ?_
        refine v_iload S d_Mo_start_63 rfl ?_
        refine v_aload_n S d_Mo_start_65 rfl rfl ?_
        refine v_get S (fun w h => List.mem_cons_of_mem _ (i_Mo w h)) hKK.1 0 (by decide) rfl rfl 21 (by decide) (S.2.2.2.2 _ (List.mem_cons_of_mem _ (wd_762))) (fun _ h => h) rfl d_Mo_start_66 ?_
        refine v_iload S d_Mo_start_69 rfl ?_
        refine v_iald S hKK.1 15 0 (by decide) rfl rfl d_Mo_start_71 (fun h13 => ?_)
        refine v_iconst S d_Mo_start_72 (v := (2 : Int32)) (by decide) ?_
        refine v_icmp_ne S d_Mo_start_73 (tgt := 80) (by decide) (fun h14 => ?_) (fun h14 => ?_)
        · refine v_iload S d_Mo_start_80 rfl ?_
          refine v_if_ne S d_Mo_start_82 (tgt := 89) (by decide) (fun h15 => ?_) (fun h15 => ?_)
          · refine v_iload S d_Mo_start_89 rfl ?_
            refine v_iconst S d_Mo_start_91 (v := (1 : Int32)) (by decide) ?_
            refine v_icmp_ne S d_Mo_start_92 (tgt := 99) (by decide) (fun h16 => ?_) (fun h16 => ?_)
            · refine v_iload_n S d_Mo_start_99 rfl rfl ?_
              refine v_iast1 S hKK.1 14 0 (by decide) (fun _ => rfl) rfl d_Mo_start_100 (fun h17 => ?_)
              refine v_sg (fun σ18 eσ18 => ?_)
              refine v_iinc S d_Mo_start_101 rfl (v := (l4 + (1 : Int32))) (by first | rfl | decide) (by decide) (L2 := [some (.ref (b + 0)), some (.int a0), some (.int a1), some (.int a2), some (.int (l4 + (1 : Int32)))]) rfl ?_
              refine v_goto S d_Mo_start_104 (tgt := 34) (by decide) ?_
              refine v_sub (L2 := [some (.ref (b + 0)), some (.int a0), some (.int a1), some (.int a2), some (.int (l4 + (1 : Int32)))]) (And.intro rfl (And.intro rfl (And.intro rfl (And.intro rfl (And.intro rfl True.intro))))) ?_
              exact ih σ18 (l4 + (1 : Int32))
            · refine v_iload_n S d_Mo_start_95 rfl rfl ?_
              refine v_goto S d_Mo_start_96 (tgt := 100) (by decide) ?_
              refine v_iast1 S hKK.1 14 0 (by decide) (fun _ => rfl) rfl d_Mo_start_100 (fun h20 => ?_)
              refine v_sg (fun σ21 eσ21 => ?_)
              refine v_iinc S d_Mo_start_101 rfl (v := (l4 + (1 : Int32))) (by first | rfl | decide) (by decide) (L2 := [some (.ref (b + 0)), some (.int a0), some (.int a1), some (.int a2), some (.int (l4 + (1 : Int32)))]) rfl ?_
              refine v_goto S d_Mo_start_104 (tgt := 34) (by decide) ?_
              refine v_sub (L2 := [some (.ref (b + 0)), some (.int a0), some (.int a1), some (.int a2), some (.int (l4 + (1 : Int32)))]) (And.intro rfl (And.intro rfl (And.intro rfl (And.intro rfl (And.intro rfl True.intro))))) ?_
              exact ih σ21 (l4 + (1 : Int32))
          · refine v_iload_n S d_Mo_start_85 rfl rfl ?_
            refine v_goto S d_Mo_start_86 (tgt := 100) (by decide) ?_
            refine v_iast1 S hKK.1 14 0 (by decide) (fun _ => rfl) rfl d_Mo_start_100 (fun h23 => ?_)
            refine v_sg (fun σ24 eσ24 => ?_)
            refine v_iinc S d_Mo_start_101 rfl (v := (l4 + (1 : Int32))) (by first | rfl | decide) (by decide) (L2 := [some (.ref (b + 0)), some (.int a0), some (.int a1), some (.int a2), some (.int (l4 + (1 : Int32)))]) rfl ?_
            refine v_goto S d_Mo_start_104 (tgt := 34) (by decide) ?_
            refine v_sub (L2 := [some (.ref (b + 0)), some (.int a0), some (.int a1), some (.int a2), some (.int (l4 + (1 : Int32)))]) (And.intro rfl (And.intro rfl (And.intro rfl (And.intro rfl (And.intro rfl True.intro))))) ?_
            exact ih σ24 (l4 + (1 : Int32))
        · refine v_iconst S d_Mo_start_76 (v := (0 : Int32)) (by decide) ?_
          refine v_goto S d_Mo_start_77 (tgt := 100) (by decide) ?_
          refine v_iast1 S hKK.1 14 0 (by decide) (fun _ => rfl) rfl d_Mo_start_100 (fun h26 => ?_)
          refine v_sg (fun σ27 eσ27 => ?_)
          refine v_iinc S d_Mo_start_101 rfl (v := (l4 + (1 : Int32))) (by first | rfl | decide) (by decide) (L2 := [some (.ref (b + 0)), some (.int a0), some (.int a1), some (.int a2), some (.int (l4 + (1 : Int32)))]) rfl ?_
          refine v_goto S d_Mo_start_104 (tgt := 34) (by decide) ?_
          refine v_sub (L2 := [some (.ref (b + 0)), some (.int a0), some (.int a1), some (.int a2), some (.int (l4 + (1 : Int32)))]) (And.intro rfl (And.intro rfl (And.intro rfl (And.intro rfl (And.intro rfl True.intro))))) ?_
          exact ih σ27 (l4 + (1 : Int32))
  unfold fn_Mo_start
  refine v_aload_n S d_Mo_start_0 rfl rfl ?_
  refine v_iconst S d_Mo_start_1 (v := (0 : Int32)) (by decide) ?_
  refine v_puti S (fun w h => List.mem_cons_of_mem _ (i_Mo w h)) hKK.1 0 (by decide) rfl rfl 26 (by decide) (S.2.2.2.2 _ (List.mem_cons_of_mem _ (wd_767))) (fun _ h => h) t_Mo t_Mo_ok n_Mo rfl (ty := .int) rfl rfl rfl (Nat.le_of_ble_eq_true rfl) rfl d_Mo_start_2 ?_
  refine v_sg (fun σ1 eσ1 => ?_)
  refine v_aload_n S d_Mo_start_5 rfl rfl ?_
  refine v_get S (fun w h => List.mem_cons_of_mem _ (i_Mo w h)) hKK.1 0 (by decide) rfl rfl 3 (by decide) (S.2.2.2.2 _ (List.mem_cons_of_mem _ (wd_744))) (fun _ h => h) rfl d_Mo_start_6 ?_
  refine v_iconst S d_Mo_start_9 (v := (0 : Int32)) (by decide) ?_
  refine v_zald S hKK.1 3 1 (by decide) rfl rfl d_Mo_start_10 (fun h2 => ?_)
  refine v_if_ne S d_Mo_start_11 (tgt := 16) (by decide) (fun h3 => ?_) (fun h3 => ?_)
  · refine v_aload_n S d_Mo_start_16 rfl rfl ?_
    refine v_iconst S d_Mo_start_17 (v := (0 : Int32)) (by decide) ?_
    refine v_puti S (fun w h => List.mem_cons_of_mem _ (i_Mo w h)) hKK.1 0 (by decide) rfl rfl 16 (by decide) (S.2.2.2.2 _ (List.mem_cons_of_mem _ (wd_757))) (fun _ h => h) t_Mo t_Mo_ok n_Mo rfl (ty := .int) rfl rfl rfl (Nat.le_of_ble_eq_true rfl) rfl d_Mo_start_18 ?_
    refine v_sg (fun σ4 eσ4 => ?_)
    refine v_aload_n S d_Mo_start_21 rfl rfl ?_
    refine v_iconst S d_Mo_start_22 (v := (0 : Int32)) (by decide) ?_
    refine v_puti S (fun w h => List.mem_cons_of_mem _ (i_Mo w h)) hKK.1 0 (by decide) rfl rfl 22 (by decide) (S.2.2.2.2 _ (List.mem_cons_of_mem _ (wd_763))) (fun _ h => h) t_Mo t_Mo_ok n_Mo rfl (ty := .int) rfl rfl rfl (Nat.le_of_ble_eq_true rfl) rfl d_Mo_start_23 ?_
    refine v_sg (fun σ5 eσ5 => ?_)
    refine v_aload_n S d_Mo_start_26 rfl rfl ?_
    refine v_iconst S d_Mo_start_27 (v := (0 : Int32)) (by decide) ?_
    refine v_cv (rest := []) (fun _ hg H locs ls hsz hP hS => run_V (As := [.int (0 : Int32)]) (rest := []) S kM_ok hKK (c_Mo_enter l D ca ax b σ5 (0 : Int32) hg) (k_Mo_136 S.2.2.2.2 (fun _ => List.mem_cons_of_mem _) ⟨Nat.le_of_ble_eq_true rfl, Nat.le_of_ble_eq_true rfl⟩) (rc_w hKK.1 hP 0 (by decide) rfl rfl) rfl rfl (Nat.zero_le _) d_Mo_start_28 hsz hP hS) (fun σ6 _ => ?_)
    refine v_iconst S d_Mo_start_31 (v := (0 : Int32)) (by decide) ?_
    refine v_istoreP S d_Mo_start_32 (by decide) (L2 := [some (.ref (b + 0)), some (.int a0), some (.int a1), some (.int a2), some (.int (0 : Int32))]) rfl ?_
    refine v_sub (L2 := [some (.ref (b + 0)), some (.int a0), some (.int a1), some (.int a2), some (.int (0 : Int32))]) (And.intro rfl (And.intro rfl (And.intro rfl (And.intro rfl (And.intro rfl True.intro))))) ?_
    exact C34 fuel0 σ6 (0 : Int32)
  · refine v_iconst S d_Mo_start_14 (v := (0 : Int32)) (by decide) ?_
    exact v_zret S hret hlocks d_Mo_start_15
def fn_Mo_below (σ : mm_M) (a0 : Int32) : Option (Int32 × mm_M) :=
    (if (((σ 0 16) - (1 : Int32)) < 0 ∨ 8 ≤ ((σ 0 16) - (1 : Int32)).toNatClampNeg) then none else
    (if (((((((12 : Int32) * ((σ 0 16) - (1 : Int32))) + (6 : Int32)) + (σ 13 ((σ 0 16) - (1 : Int32)).toNatClampNeg)) - (1 : Int32)) - a0) < 0 ∨ 96 ≤ ((((((12 : Int32) * ((σ 0 16) - (1 : Int32))) + (6 : Int32)) + (σ 13 ((σ 0 16) - (1 : Int32)).toNatClampNeg)) - (1 : Int32)) - a0).toNatClampNeg) then none else
    (some ((σ 14 ((((((12 : Int32) * ((σ 0 16) - (1 : Int32))) + (6 : Int32)) + (σ 13 ((σ 0 16) - (1 : Int32)).toNatClampNeg)) - (1 : Int32)) - a0).toNatClampNeg), σ))))
set_option maxRecDepth 100000 in
set_option maxHeartbeats 40000000 in
theorem c_Mo_below (l : Launch) (D : va_G) (ca : Nat → ClassId) (ax : Nat → Nat → Nat) (b : Nat) (σ : mm_M) (a0 : Int32)  {r : Int32} {σ' : mm_M} (hf : fn_Mo_below σ a0 = some (r, σ')) : Met l y_Mo_below w_Mo_below rm_Mo_below (pc_w D cls b N_M (ce_M ca b) (kM D ca ax b) [.ref (b + 0), .int a0] σ) (qc_i D cls b N_M (ce_M ca b) r σ') 0 0 (mm_A b N_M) := by
  refine vv_go (cc := b_Mo_below) (maxL := 2) (ret := (some .int)) (fin := (r, σ')) (k := fn_Mo_below σ a0) (by decide) rfl (by simp [Value.category]) (Nat.le_of_ble_eq_true rfl) hf ?_
  intro p e s m below meth c hlocks hret S hKK
  unfold fn_Mo_below
  refine v_aload_n S d_Mo_below_0 rfl rfl ?_
  refine v_get S (fun w h => List.mem_cons_of_mem _ (i_Mo w h)) hKK.1 0 (by decide) rfl rfl 20 (by decide) (S.2.2.2.2 _ (List.mem_cons_of_mem _ (wd_761))) (fun _ h => h) rfl d_Mo_below_1 ?_
  refine v_bipush S d_Mo_below_4 (v := (12 : Int32)) (by decide) ?_
  refine v_aload_n S d_Mo_below_6 rfl rfl ?_
  refine v_get S (fun w h => List.mem_cons_of_mem _ (i_Mo w h)) hKK.1 0 (by decide) rfl rfl 16 (by decide) (S.2.2.2.2 _ (List.mem_cons_of_mem _ (wd_757))) (fun _ h => h) rfl d_Mo_below_7 ?_
  refine v_iconst S d_Mo_below_10 (v := (1 : Int32)) (by decide) ?_
  refine v_isub S d_Mo_below_11 ?_
  refine v_imul S d_Mo_below_12 ?_
  refine v_bipush S d_Mo_below_13 (v := (6 : Int32)) (by decide) ?_
  refine v_iadd S d_Mo_below_15 ?_
  refine v_aload_n S d_Mo_below_16 rfl rfl ?_
  refine v_get S (fun w h => List.mem_cons_of_mem _ (i_Mo w h)) hKK.1 0 (by decide) rfl rfl 19 (by decide) (S.2.2.2.2 _ (List.mem_cons_of_mem _ (wd_760))) (fun _ h => h) rfl d_Mo_below_17 ?_
  refine v_aload_n S d_Mo_below_20 rfl rfl ?_
  refine v_get S (fun w h => List.mem_cons_of_mem _ (i_Mo w h)) hKK.1 0 (by decide) rfl rfl 16 (by decide) (S.2.2.2.2 _ (List.mem_cons_of_mem _ (wd_757))) (fun _ h => h) rfl d_Mo_below_21 ?_
  refine v_iconst S d_Mo_below_24 (v := (1 : Int32)) (by decide) ?_
  refine v_isub S d_Mo_below_25 ?_
  refine v_iald S hKK.1 13 0 (by decide) rfl rfl d_Mo_below_26 (fun h1 => ?_)
  refine v_iadd S d_Mo_below_27 ?_
  refine v_iconst S d_Mo_below_28 (v := (1 : Int32)) (by decide) ?_
  refine v_isub S d_Mo_below_29 ?_
  refine v_iload_n S d_Mo_below_30 rfl rfl ?_
  refine v_isub S d_Mo_below_31 ?_
  refine v_iald S hKK.1 14 0 (by decide) rfl rfl d_Mo_below_32 (fun h2 => ?_)
  exact v_iret S hret hlocks d_Mo_below_33
def fn_Mo_drop (σ : mm_M) (a0 : Int32) : Option (mm_M) :=
    (if (((σ 0 16) - (1 : Int32)) < 0 ∨ 8 ≤ ((σ 0 16) - (1 : Int32)).toNatClampNeg) then none else
    (if (((σ 0 16) - (1 : Int32)) < 0 ∨ 8 ≤ ((σ 0 16) - (1 : Int32)).toNatClampNeg) then none else (nm (mw σ 13 ((σ 0 16) - (1 : Int32)).toNatClampNeg ((σ 13 ((σ 0 16) - (1 : Int32)).toNatClampNeg) - a0)) (fun σ3 =>
    (some σ3)))))
set_option maxRecDepth 100000 in
set_option maxHeartbeats 40000000 in
theorem c_Mo_drop (l : Launch) (D : va_G) (ca : Nat → ClassId) (ax : Nat → Nat → Nat) (b : Nat) (σ : mm_M) (a0 : Int32)  {σ' : mm_M} (hf : fn_Mo_drop σ a0 = some σ') : Met l y_Mo_drop w_Mo_drop rm_Mo_drop (pc_w D cls b N_M (ce_M ca b) (kM D ca ax b) [.ref (b + 0), .int a0] σ) (qc_v D cls b N_M (ce_M ca b) σ') 0 0 (mm_A b N_M) := by
  refine vv_go (cc := b_Mo_drop) (maxL := 2) (ret := none) (fin := σ') (k := fn_Mo_drop σ a0) (by decide) rfl (by simp [Value.category]) (Nat.le_of_ble_eq_true rfl) hf ?_
  intro p e s m below meth c hlocks hret S hKK
  unfold fn_Mo_drop
  refine v_aload_n S d_Mo_drop_0 rfl rfl ?_
  refine v_get S (fun w h => List.mem_cons_of_mem _ (i_Mo w h)) hKK.1 0 (by decide) rfl rfl 19 (by decide) (S.2.2.2.2 _ (List.mem_cons_of_mem _ (wd_760))) (fun _ h => h) rfl d_Mo_drop_1 ?_
  refine v_aload_n S d_Mo_drop_4 rfl rfl ?_
  refine v_get S (fun w h => List.mem_cons_of_mem _ (i_Mo w h)) hKK.1 0 (by decide) rfl rfl 16 (by decide) (S.2.2.2.2 _ (List.mem_cons_of_mem _ (wd_757))) (fun _ h => h) rfl d_Mo_drop_5 ?_
  refine v_iconst S d_Mo_drop_8 (v := (1 : Int32)) (by decide) ?_
  refine v_isub S d_Mo_drop_9 ?_
  refine v_dup2 S d_Mo_drop_10 rfl rfl ?_
  refine v_iald S hKK.1 13 0 (by decide) rfl rfl d_Mo_drop_11 (fun h1 => ?_)
  refine v_iload_n S d_Mo_drop_12 rfl rfl ?_
  refine v_isub S d_Mo_drop_13 ?_
  refine v_iast1 S hKK.1 13 0 (by decide) (fun _ => rfl) rfl d_Mo_drop_14 (fun h2 => ?_)
  refine v_sg (fun σ3 eσ3 => ?_)
  exact v_vret S hret hlocks d_Mo_drop_15
end
section
/-! contracts of 20.model; written by wip/whole/make.py -/
def fn_Mo_put (σ : mm_M) (a0 : Int32) (a1 : Int32) : Option (mm_M) :=
    (if (((σ 0 16) - (1 : Int32)) < 0 ∨ 8 ≤ ((σ 0 16) - (1 : Int32)).toNatClampNeg) then none else
    (nm ((((12 : Int32) * ((σ 0 16) - (1 : Int32))) + (6 : Int32)) + (σ 13 ((σ 0 16) - (1 : Int32)).toNatClampNeg)) (fun x2 =>
    (if (x2 < 0 ∨ 96 ≤ x2.toNatClampNeg) then none else (nm (mw σ 15 x2.toNatClampNeg a0) (fun σ4 =>
    (if (x2 < 0 ∨ 96 ≤ x2.toNatClampNeg) then none else (nm (mw σ4 14 x2.toNatClampNeg a1) (fun σ6 =>
    (if (((σ6 0 16) - (1 : Int32)) < 0 ∨ 8 ≤ ((σ6 0 16) - (1 : Int32)).toNatClampNeg) then none else
    (if (((σ6 0 16) - (1 : Int32)) < 0 ∨ 8 ≤ ((σ6 0 16) - (1 : Int32)).toNatClampNeg) then none else (nm (mw σ6 13 ((σ6 0 16) - (1 : Int32)).toNatClampNeg ((σ6 13 ((σ6 0 16) - (1 : Int32)).toNatClampNeg) + (1 : Int32))) (fun σ9 =>
    (some σ9))))))))))))))
set_option maxRecDepth 100000 in
set_option maxHeartbeats 40000000 in
theorem c_Mo_put (l : Launch) (D : va_G) (ca : Nat → ClassId) (ax : Nat → Nat → Nat) (b : Nat) (σ : mm_M) (a0 : Int32) (a1 : Int32)  {σ' : mm_M} (hf : fn_Mo_put σ a0 a1 = some σ') : Met l y_Mo_put w_Mo_put rm_Mo_put (pc_w D cls b N_M (ce_M ca b) (kM D ca ax b) [.ref (b + 0), .int a0, .int a1] σ) (qc_v D cls b N_M (ce_M ca b) σ') 0 0 (mm_A b N_M) := by
  refine vv_go (cc := b_Mo_put) (maxL := 4) (ret := none) (fin := σ') (k := fn_Mo_put σ a0 a1) (by decide) rfl (by simp [Value.category]) (Nat.le_of_ble_eq_true rfl) hf ?_
  intro p e s m below meth c hlocks hret S hKK
  unfold fn_Mo_put
  refine v_bipush S d_Mo_put_0 (v := (12 : Int32)) (by decide) ?_
  refine v_aload_n S d_Mo_put_2 rfl rfl ?_
  refine v_get S (fun w h => List.mem_cons_of_mem _ (i_Mo w h)) hKK.1 0 (by decide) rfl rfl 16 (by decide) (S.2.2.2.2 _ (List.mem_cons_of_mem _ (wd_757))) (fun _ h => h) rfl d_Mo_put_3 ?_
  refine v_iconst S d_Mo_put_6 (v := (1 : Int32)) (by decide) ?_
  refine v_isub S d_Mo_put_7 ?_
  refine v_imul S d_Mo_put_8 ?_
  refine v_bipush S d_Mo_put_9 (v := (6 : Int32)) (by decide) ?_
  refine v_iadd S d_Mo_put_11 ?_
  refine v_aload_n S d_Mo_put_12 rfl rfl ?_
  refine v_get S (fun w h => List.mem_cons_of_mem _ (i_Mo w h)) hKK.1 0 (by decide) rfl rfl 19 (by decide) (S.2.2.2.2 _ (List.mem_cons_of_mem _ (wd_760))) (fun _ h => h) rfl d_Mo_put_13 ?_
  refine v_aload_n S d_Mo_put_16 rfl rfl ?_
  refine v_get S (fun w h => List.mem_cons_of_mem _ (i_Mo w h)) hKK.1 0 (by decide) rfl rfl 16 (by decide) (S.2.2.2.2 _ (List.mem_cons_of_mem _ (wd_757))) (fun _ h => h) rfl d_Mo_put_17 ?_
  refine v_iconst S d_Mo_put_20 (v := (1 : Int32)) (by decide) ?_
  refine v_isub S d_Mo_put_21 ?_
  refine v_iald S hKK.1 13 0 (by decide) rfl rfl d_Mo_put_22 (fun h1 => ?_)
  refine v_iadd S d_Mo_put_23 ?_
  refine v_top (fun x2 ex2 => ?_)
  refine v_istore_nP S d_Mo_put_24 rfl (by decide) (L2 := [some (.ref (b + 0)), some (.int a0), some (.int a1), some (.int x2)]) rfl ?_
  refine v_aload_n S d_Mo_put_25 rfl rfl ?_
  refine v_get S (fun w h => List.mem_cons_of_mem _ (i_Mo w h)) hKK.1 0 (by decide) rfl rfl 21 (by decide) (S.2.2.2.2 _ (List.mem_cons_of_mem _ (wd_762))) (fun _ h => h) rfl d_Mo_put_26 ?_
  refine v_iload_n S d_Mo_put_29 rfl rfl ?_
  refine v_iload_n S d_Mo_put_30 rfl rfl ?_
  refine v_iast1 S hKK.1 15 0 (by decide) (fun _ => rfl) rfl d_Mo_put_31 (fun h3 => ?_)
  refine v_sg (fun σ4 eσ4 => ?_)
  refine v_aload_n S d_Mo_put_32 rfl rfl ?_
  refine v_get S (fun w h => List.mem_cons_of_mem _ (i_Mo w h)) hKK.1 0 (by decide) rfl rfl 20 (by decide) (S.2.2.2.2 _ (List.mem_cons_of_mem _ (wd_761))) (fun _ h => h) rfl d_Mo_put_33 ?_
  refine v_iload_n S d_Mo_put_36 rfl rfl ?_
  refine v_iload_n S d_Mo_put_37 rfl rfl ?_
  refine v_iast1 S hKK.1 14 0 (by decide) (fun _ => rfl) rfl d_Mo_put_38 (fun h5 => ?_)
  refine v_sg (fun σ6 eσ6 => ?_)
  refine v_aload_n S d_Mo_put_39 rfl rfl ?_
  refine v_get S (fun w h => List.mem_cons_of_mem _ (i_Mo w h)) hKK.1 0 (by decide) rfl rfl 19 (by decide) (S.2.2.2.2 _ (List.mem_cons_of_mem _ (wd_760))) (fun _ h => h) rfl d_Mo_put_40 ?_
  refine v_aload_n S d_Mo_put_43 rfl rfl ?_
  refine v_get S (fun w h => List.mem_cons_of_mem _ (i_Mo w h)) hKK.1 0 (by decide) rfl rfl 16 (by decide) (S.2.2.2.2 _ (List.mem_cons_of_mem _ (wd_757))) (fun _ h => h) rfl d_Mo_put_44 ?_
  refine v_iconst S d_Mo_put_47 (v := (1 : Int32)) (by decide) ?_
  refine v_isub S d_Mo_put_48 ?_
  refine v_dup2 S d_Mo_put_49 rfl rfl ?_
  refine v_iald S hKK.1 13 0 (by decide) rfl rfl d_Mo_put_50 (fun h7 => ?_)
  refine v_iconst S d_Mo_put_51 (v := (1 : Int32)) (by decide) ?_
  refine v_iadd S d_Mo_put_52 ?_
  refine v_iast1 S hKK.1 13 0 (by decide) (fun _ => rfl) rfl d_Mo_put_53 (fun h8 => ?_)
  refine v_sg (fun σ9 eσ9 => ?_)
  exact v_vret S hret hlocks d_Mo_put_54
def fn_Mo_lengthOf (σ : mm_M) (a0 : Int32) : Option (Int32 × mm_M) :=
    (if (16 : Int32) = 0 then none else
    (some (((a0 - (1 : Int32)) - (a0 - (1 : Int32)) / (16 : Int32) * (16 : Int32)), σ)))
set_option maxRecDepth 100000 in
set_option maxHeartbeats 40000000 in
theorem c_Mo_lengthOf (l : Launch) (D : va_G) (ca : Nat → ClassId) (ax : Nat → Nat → Nat) (b : Nat) (σ : mm_M) (a0 : Int32)  {r : Int32} {σ' : mm_M} (hf : fn_Mo_lengthOf σ a0 = some (r, σ')) : Met l y_Mo_lengthOf w_Mo_lengthOf rm_Mo_lengthOf (pc_w D cls b N_M (ce_M ca b) (kM D ca ax b) [.int a0] σ) (qc_i D cls b N_M (ce_M ca b) r σ') 0 0 (mm_A b N_M) := by
  refine vv_go (cc := b_Mo_lengthOf) (maxL := 1) (ret := (some .int)) (fin := (r, σ')) (k := fn_Mo_lengthOf σ a0) (by decide) rfl (by simp [Value.category]) (Nat.le_of_ble_eq_true rfl) hf ?_
  intro p e s m below meth c hlocks hret S hKK
  unfold fn_Mo_lengthOf
  refine v_iload_n S d_Mo_lengthOf_0 rfl rfl ?_
  refine v_iconst S d_Mo_lengthOf_1 (v := (1 : Int32)) (by decide) ?_
  refine v_isub S d_Mo_lengthOf_2 ?_
  refine v_bipush S d_Mo_lengthOf_3 (v := (16 : Int32)) (by decide) ?_
  refine v_irem S d_Mo_lengthOf_5 (fun h1 => ?_)
  exact v_iret S hret hlocks d_Mo_lengthOf_6
def fn_Mo_fitsValues_19 (a0 : Int32) : Nat → mm_M → Int32 → Int32 → Option (Int32 × mm_M)
  | 0, _, _, _ => none
  | n + 1, σ, l2, l3 =>
    (if ((6 : Int32) + (σ 0 11)) ≤ l3 then
    (if (l2 < 0 ∨ 8 ≤ l2.toNatClampNeg) then none else
    (bv (fn_Mo_tryOut σ (σ 11 l2.toNatClampNeg) a0) (fun σ6 =>
    (if (σ6 0 13) = 0 then
    (if (1 : Int32) = 0 ∨ (1 : Int32) = 1 then some ((1 : Int32), σ6) else none)
    else
    (if (0 : Int32) = 0 ∨ (0 : Int32) = 1 then some ((0 : Int32), σ6) else none)))))
    else
    (if ((((12 : Int32) * l2) + l3) < 0 ∨ 96 ≤ (((12 : Int32) * l2) + l3).toNatClampNeg) then none else
    (if (l3 < 0 ∨ 12 ≤ l3.toNatClampNeg) then none else (nm (mw σ 10 l3.toNatClampNeg (σ 15 (((12 : Int32) * l2) + l3).toNatClampNeg)) (fun σ10 =>
    (fn_Mo_fitsValues_19 a0 n σ10 l2 (l3 + (1 : Int32))))))))
def fn_Mo_fitsValues (σ : mm_M) (a0 : Int32) : Option (Int32 × mm_M) :=
    (nm ((σ 0 16) - (1 : Int32)) (fun x1 =>
    (if (x1 < 0 ∨ 8 ≤ x1.toNatClampNeg) then none else
    (nm (mw σ 0 11 (σ 13 x1.toNatClampNeg)) (fun σ3 =>
    (fn_Mo_fitsValues_19 a0 fuel0 σ3 x1 (0 : Int32)))))))
set_option maxRecDepth 100000 in
set_option maxHeartbeats 40000000 in
theorem c_Mo_fitsValues (l : Launch) (D : va_G) (ca : Nat → ClassId) (ax : Nat → Nat → Nat) (b : Nat) (σ : mm_M) (a0 : Int32)  {r : Int32} {σ' : mm_M} (hf : fn_Mo_fitsValues σ a0 = some (r, σ')) : Met l y_Mo_fitsValues w_Mo_fitsValues rm_Mo_fitsValues (pc_w D cls b N_M (ce_M ca b) (kM D ca ax b) [.ref (b + 0), .int a0] σ) (qc_i D cls b N_M (ce_M ca b) r σ') 0 0 (mm_A b N_M) := by
  refine vv_go (cc := b_Mo_fitsValues) (maxL := 4) (ret := (some .boolean)) (fin := (r, σ')) (k := fn_Mo_fitsValues σ a0) (by decide) rfl (by simp [Value.category]) (Nat.le_of_ble_eq_true rfl) hf ?_
  intro p e s m below meth c hlocks hret S hKK
  have C19 : ∀ (n : Nat) (σ : mm_M) (l2 : Int32) (l3 : Int32), vv p l e (headSpec w_Mo_fitsValues rm_Mo_fitsValues).room s m [.ref (b + 0), .int a0].toArray below meth c D cls b N_M (ce_M ca b) 4 (MQ below (qc_i D cls b N_M (ce_M ca b) r σ') [.ref (b + 0), .int a0].toArray s 0 0 (mm_A b N_M)) (r, σ') (fn_Mo_fitsValues_19 a0 n σ l2 l3) σ 19 [some (.ref (b + 0)), some (.int a0), some (.int l2), some (.int l3)] [] := by
    intro n
    induction n with
    | zero => intro σ l2 l3  h; cases h
    | succ n ih =>
      intro σ l2 l3
      show vv p l e (headSpec w_Mo_fitsValues rm_Mo_fitsValues).room s m [.ref (b + 0), .int a0].toArray below meth c D cls b N_M (ce_M ca b) 4 (MQ below (qc_i D cls b N_M (ce_M ca b) r σ') [.ref (b + 0), .int a0].toArray s 0 0 (mm_A b N_M)) (r, σ') (        (if ((6 : Int32) + (σ 0 11)) ≤ l3 then
        (if (l2 < 0 ∨ 8 ≤ l2.toNatClampNeg) then none else
        (bv (fn_Mo_tryOut σ (σ 11 l2.toNatClampNeg) a0) (fun σ6 =>
        (if (σ6 0 13) = 0 then
        (if (1 : Int32) = 0 ∨ (1 : Int32) = 1 then some ((1 : Int32), σ6) else none)
        else
        (if (0 : Int32) = 0 ∨ (0 : Int32) = 1 then some ((0 : Int32), σ6) else none)))))
        else
        (if ((((12 : Int32) * l2) + l3) < 0 ∨ 96 ≤ (((12 : Int32) * l2) + l3).toNatClampNeg) then none else
        (if (l3 < 0 ∨ 12 ≤ l3.toNatClampNeg) then none else (nm (mw σ 10 l3.toNatClampNeg (σ 15 (((12 : Int32) * l2) + l3).toNatClampNeg)) (fun σ10 =>
        (fn_Mo_fitsValues_19 a0 n σ10 l2 (l3 + (1 : Int32))))))))) σ 19 [some (.ref (b + 0)), some (.int a0), some (.int l2), some (.int l3)] []
      refine v_iload_n S d_Mo_fitsValues_19 rfl rfl ?_
      refine v_bipush S d_Mo_fitsValues_20 (v := (6 : Int32)) (by decide) ?_
      refine v_aload_n S d_Mo_fitsValues_22 rfl rfl ?_
      refine v_get S (fun w h => List.mem_cons_of_mem _ (i_Mo w h)) hKK.1 0 (by decide) rfl rfl 11 (by decide) (S.2.2.2.2 _ (List.mem_cons_of_mem _ (wd_752))) (fun _ h => h) rfl d_Mo_fitsValues_23 ?_
      refine v_iadd S d_Mo_fitsValues_26 ?_
      refine v_icmp_ge S d_Mo_fitsValues_27 (tgt := 53) (by decide) (fun h4 => ?_) (fun h4 => ?_)
      · refine v_aload_n S d_Mo_fitsValues_53 rfl rfl ?_
        refine v_aload_n S d_Mo_fitsValues_54 rfl rfl ?_
        refine v_get S (fun w h => List.mem_cons_of_mem _ (i_Mo w h)) hKK.1 0 (by decide) rfl rfl 17 (by decide) (S.2.2.2.2 _ (List.mem_cons_of_mem _ (wd_758))) (fun _ h => h) rfl d_Mo_fitsValues_55 ?_
        refine v_iload_n S d_Mo_fitsValues_58 rfl rfl ?_
        refine v_iald S hKK.1 11 0 (by decide) rfl rfl d_Mo_fitsValues_59 (fun h5 => ?_)
        refine v_iload_n S d_Mo_fitsValues_60 rfl rfl ?_
        refine v_cv (rest := []) (fun _ hg H locs ls hsz hP hS => run_V (As := [.int (σ 11 l2.toNatClampNeg), .int a0]) (rest := []) S kM_ok hKK (c_Mo_tryOut l D ca ax b σ (σ 11 l2.toNatClampNeg) a0 hg) (k_Mo_117 S.2.2.2.2 (fun _ => List.mem_cons_of_mem _) ⟨Nat.le_of_ble_eq_true rfl, Nat.le_of_ble_eq_true rfl⟩) (rc_w hKK.1 hP 0 (by decide) rfl rfl) rfl rfl (Nat.zero_le _) d_Mo_fitsValues_61 hsz hP hS) (fun σ6 _ => ?_)
        refine v_aload_n S d_Mo_fitsValues_64 rfl rfl ?_
        refine v_get S (fun w h => List.mem_cons_of_mem _ (i_Mo w h)) hKK.1 0 (by decide) rfl rfl 13 (by decide) (S.2.2.2.2 _ (List.mem_cons_of_mem _ (wd_754))) (fun _ h => h) rfl d_Mo_fitsValues_65 ?_
        refine v_if_ne S d_Mo_fitsValues_68 (tgt := 75) (by decide) (fun h7 => ?_) (fun h7 => ?_)
        · refine v_iconst S d_Mo_fitsValues_75 (v := (0 : Int32)) (by decide) ?_
          exact v_zret S hret hlocks d_Mo_fitsValues_76
        · refine v_iconst S d_Mo_fitsValues_71 (v := (1 : Int32)) (by decide) ?_
          refine v_goto S d_Mo_fitsValues_72 (tgt := 76) (by decide) ?_
          exact v_zret S hret hlocks d_Mo_fitsValues_76
      · refine v_aload_n S d_Mo_fitsValues_30 rfl rfl ?_
        refine v_get S (fun w h => List.mem_cons_of_mem _ (i_Mo w h)) hKK.1 0 (by decide) rfl rfl 12 (by decide) (S.2.2.2.2 _ (List.mem_cons_of_mem _ (wd_753))) (fun _ h => h) rfl d_Mo_fitsValues_31 ?_
        refine v_iload_n S d_Mo_fitsValues_34 rfl rfl ?_
        refine v_aload_n S d_Mo_fitsValues_35 rfl rfl ?_
        refine v_get S (fun w h => List.mem_cons_of_mem _ (i_Mo w h)) hKK.1 0 (by decide) rfl rfl 21 (by decide) (S.2.2.2.2 _ (List.mem_cons_of_mem _ (wd_762))) (fun _ h => h) rfl d_Mo_fitsValues_36 ?_
        refine v_bipush S d_Mo_fitsValues_39 (v := (12 : Int32)) (by decide) ?_
        refine v_iload_n S d_Mo_fitsValues_41 rfl rfl ?_
        refine v_imul S d_Mo_fitsValues_42 ?_
        refine v_iload_n S d_Mo_fitsValues_43 rfl rfl ?_
        refine v_iadd S d_Mo_fitsValues_44 ?_
        refine v_iald S hKK.1 15 0 (by decide) rfl rfl d_Mo_fitsValues_45 (fun h8 => ?_)
        refine v_iast1 S hKK.1 10 0 (by decide) (fun _ => rfl) rfl d_Mo_fitsValues_46 (fun h9 => ?_)
        refine v_sg (fun σ10 eσ10 => ?_)
        refine v_iinc S d_Mo_fitsValues_47 rfl (v := (l3 + (1 : Int32))) (by first | rfl | decide) (by decide) (L2 := [some (.ref (b + 0)), some (.int a0), some (.int l2), some (.int (l3 + (1 : Int32)))]) rfl ?_
        refine v_goto S d_Mo_fitsValues_50 (tgt := 19) (by decide) ?_
        refine v_sub (L2 := [some (.ref (b + 0)), some (.int a0), some (.int l2), some (.int (l3 + (1 : Int32)))]) (And.intro rfl (And.intro rfl (And.intro rfl (And.intro rfl True.intro)))) ?_
        exact ih σ10 l2 (l3 + (1 : Int32))
  unfold fn_Mo_fitsValues
  refine v_aload_n S d_Mo_fitsValues_0 rfl rfl ?_
  refine v_get S (fun w h => List.mem_cons_of_mem _ (i_Mo w h)) hKK.1 0 (by decide) rfl rfl 16 (by decide) (S.2.2.2.2 _ (List.mem_cons_of_mem _ (wd_757))) (fun _ h => h) rfl d_Mo_fitsValues_1 ?_
  refine v_iconst S d_Mo_fitsValues_4 (v := (1 : Int32)) (by decide) ?_
  refine v_isub S d_Mo_fitsValues_5 ?_
  refine v_top (fun x1 ex1 => ?_)
  refine v_istore_nP S d_Mo_fitsValues_6 rfl (by decide) (L2 := [some (.ref (b + 0)), some (.int a0), some (.int x1)]) rfl ?_
  refine v_aload_n S d_Mo_fitsValues_7 rfl rfl ?_
  refine v_aload_n S d_Mo_fitsValues_8 rfl rfl ?_
  refine v_get S (fun w h => List.mem_cons_of_mem _ (i_Mo w h)) hKK.1 0 (by decide) rfl rfl 19 (by decide) (S.2.2.2.2 _ (List.mem_cons_of_mem _ (wd_760))) (fun _ h => h) rfl d_Mo_fitsValues_9 ?_
  refine v_iload_n S d_Mo_fitsValues_12 rfl rfl ?_
  refine v_iald S hKK.1 13 0 (by decide) rfl rfl d_Mo_fitsValues_13 (fun h2 => ?_)
  refine v_puti S (fun w h => List.mem_cons_of_mem _ (i_Mo w h)) hKK.1 0 (by decide) rfl rfl 11 (by decide) (S.2.2.2.2 _ (List.mem_cons_of_mem _ (wd_752))) (fun _ h => h) t_Mo t_Mo_ok n_Mo rfl (ty := .int) rfl rfl rfl (Nat.le_of_ble_eq_true rfl) rfl d_Mo_fitsValues_14 ?_
  refine v_sg (fun σ3 eσ3 => ?_)
  refine v_iconst S d_Mo_fitsValues_17 (v := (0 : Int32)) (by decide) ?_
  refine v_istore_nP S d_Mo_fitsValues_18 rfl (by decide) (L2 := [some (.ref (b + 0)), some (.int a0), some (.int x1), some (.int (0 : Int32))]) rfl ?_
  refine v_sub (L2 := [some (.ref (b + 0)), some (.int a0), some (.int x1), some (.int (0 : Int32))]) (And.intro rfl (And.intro rfl (And.intro rfl (And.intro rfl True.intro)))) ?_
  exact C19 fuel0 σ3 x1 (0 : Int32)
def fn_Mo_trapAt (σ : mm_M) (a0 : Int32) (a1 : Int32) : Option (Int32 × mm_M) :=
    (if a0 = 0 then
    (some ((3 : Int32), σ))
    else
    (if a1 < 0 then
    (some ((4 : Int32), σ))
    else
    (bd (fn_Mo_lengthOf σ a0) (fun r4 σ3 =>
    (if a1 < r4 then
    (some ((0 : Int32), σ3))
    else
    (some ((4 : Int32), σ3)))))))
set_option maxRecDepth 100000 in
set_option maxHeartbeats 40000000 in
theorem c_Mo_trapAt (l : Launch) (D : va_G) (ca : Nat → ClassId) (ax : Nat → Nat → Nat) (b : Nat) (σ : mm_M) (a0 : Int32) (a1 : Int32)  {r : Int32} {σ' : mm_M} (hf : fn_Mo_trapAt σ a0 a1 = some (r, σ')) : Met l y_Mo_trapAt w_Mo_trapAt rm_Mo_trapAt (pc_w D cls b N_M (ce_M ca b) (kM D ca ax b) [.int a0, .int a1] σ) (qc_i D cls b N_M (ce_M ca b) r σ') 0 0 (mm_A b N_M) := by
  refine vv_go (cc := b_Mo_trapAt) (maxL := 2) (ret := (some .int)) (fin := (r, σ')) (k := fn_Mo_trapAt σ a0 a1) (by decide) rfl (by simp [Value.category]) (Nat.le_of_ble_eq_true rfl) hf ?_
  intro p e s m below meth c hlocks hret S hKK
  unfold fn_Mo_trapAt
  refine v_iload_n S d_Mo_trapAt_0 rfl rfl ?_
  refine v_if_ne S d_Mo_trapAt_1 (tgt := 8) (by decide) (fun h1 => ?_) (fun h1 => ?_)
  · refine v_iload_n S d_Mo_trapAt_8 rfl rfl ?_
    refine v_if_lt S d_Mo_trapAt_9 (tgt := 20) (by decide) (fun h2 => ?_) (fun h2 => ?_)
    · refine v_iconst S d_Mo_trapAt_20 (v := (4 : Int32)) (by decide) ?_
      refine v_goto S d_Mo_trapAt_21 (tgt := 25) (by decide) ?_
      exact v_iret S hret hlocks d_Mo_trapAt_25
    · refine v_iload_n S d_Mo_trapAt_12 rfl rfl ?_
      refine v_iload_n S d_Mo_trapAt_13 rfl rfl ?_
      refine v_ci (rest := [.int a1]) (fun _ _ hg H locs ls hsz hP hS => run_S (As := [.int a0]) (rest := [.int a1]) S kM_ok hKK (c_Mo_lengthOf l D ca ax b σ a0 hg) (k_Mo_145 S.2.2.2.2 (fun _ => List.mem_cons_of_mem _) ⟨Nat.le_of_ble_eq_true rfl, Nat.le_of_ble_eq_true rfl⟩) rfl rfl (by simp [Value.category]) d_Mo_trapAt_14 hsz hP hS) (fun r4 σ3 _ => ?_)
      refine v_icmp_lt S d_Mo_trapAt_17 (tgt := 24) (by decide) (fun h5 => ?_) (fun h5 => ?_)
      · refine v_iconst S d_Mo_trapAt_24 (v := (0 : Int32)) (by decide) ?_
        exact v_iret S hret hlocks d_Mo_trapAt_25
      · refine v_iconst S d_Mo_trapAt_20 (v := (4 : Int32)) (by decide) ?_
        refine v_goto S d_Mo_trapAt_21 (tgt := 25) (by decide) ?_
        exact v_iret S hret hlocks d_Mo_trapAt_25
  · refine v_iconst S d_Mo_trapAt_4 (v := (3 : Int32)) (by decide) ?_
    refine v_goto S d_Mo_trapAt_5 (tgt := 25) (by decide) ?_
    exact v_iret S hret hlocks d_Mo_trapAt_25
def fn_Mo_trapOf (σ : mm_M) (a0 : Int32) (a1 : Int32) : Option (Int32 × mm_M) :=
    (if a0 = (4 : Int32) then
    (bd (fn_Mo_below σ (0 : Int32)) (fun r3 σ2 =>
    (if r3 = 0 then
    (some ((2 : Int32), σ2))
    else
    (some ((0 : Int32), σ2)))))
    else
    (if a0 = (11 : Int32) then
    (bd (fn_Mo_below σ (0 : Int32)) (fun r7 σ6 =>
    (if r7 < 0 then
    (some ((5 : Int32), σ6))
    else
    (bd (fn_Mo_below σ6 (0 : Int32)) (fun r10 σ9 =>
    (if (12 : Int32) < r10 then
    (some ((5 : Int32), σ9))
    else
    (bd (fn_Mo_below σ9 (0 : Int32)) (fun r13 σ12 =>
    (if ((σ9 0 22) + r13) ≤ (30 : Int32) then
    (some ((0 : Int32), σ12))
    else
    (some ((5 : Int32), σ12)))))))))))
    else
    (if a0 = (12 : Int32) then
    (bd (fn_Mo_below σ (1 : Int32)) (fun r17 σ16 =>
    (bd (fn_Mo_below σ16 (0 : Int32)) (fun r19 σ18 =>
    (bd (fn_Mo_trapAt σ18 r17 r19) (fun r21 σ20 =>
    (some (r21, σ20))))))))
    else
    (if a0 = (13 : Int32) then
    (bd (fn_Mo_below σ (2 : Int32)) (fun r24 σ23 =>
    (bd (fn_Mo_below σ23 (1 : Int32)) (fun r26 σ25 =>
    (bd (fn_Mo_trapAt σ25 r24 r26) (fun r28 σ27 =>
    (some (r28, σ27))))))))
    else
    (if a0 = (14 : Int32) then
    (bd (fn_Mo_below σ (0 : Int32)) (fun r31 σ30 =>
    (if r31 = 0 then
    (some ((3 : Int32), σ30))
    else
    (some ((0 : Int32), σ30)))))
    else
    (if a0 = (18 : Int32) then
    (if (σ 0 16) = (8 : Int32) then
    (some ((5 : Int32), σ))
    else
    (some ((0 : Int32), σ)))
    else
    (some ((0 : Int32), σ))))))))
set_option maxRecDepth 100000 in
set_option maxHeartbeats 40000000 in
theorem c_Mo_trapOf (l : Launch) (D : va_G) (ca : Nat → ClassId) (ax : Nat → Nat → Nat) (b : Nat) (σ : mm_M) (a0 : Int32) (a1 : Int32)  {r : Int32} {σ' : mm_M} (hf : fn_Mo_trapOf σ a0 a1 = some (r, σ')) : Met l y_Mo_trapOf w_Mo_trapOf rm_Mo_trapOf (pc_w D cls b N_M (ce_M ca b) (kM D ca ax b) [.ref (b + 0), .int a0, .int a1] σ) (qc_i D cls b N_M (ce_M ca b) r σ') 0 0 (mm_A b N_M) := by
  refine vv_go (cc := b_Mo_trapOf) (maxL := 3) (ret := (some .int)) (fin := (r, σ')) (k := fn_Mo_trapOf σ a0 a1) (by decide) rfl (by simp [Value.category]) (Nat.le_of_ble_eq_true rfl) hf ?_
  intro p e s m below meth c hlocks hret S hKK
  unfold fn_Mo_trapOf
  refine v_iload_n S d_Mo_trapOf_0 rfl rfl ?_
  refine v_tsw S (4 : Int32) (tgt := 76) d_Mo_trapOf_1 (by decide) (by decide) (off := 75) rfl (by decide) (fun h1 => ?_) (fun h1 => ?_)
  · refine v_aload_n S d_Mo_trapOf_76 rfl rfl ?_
    refine v_iconst S d_Mo_trapOf_77 (v := (0 : Int32)) (by decide) ?_
    refine v_ci (rest := []) (fun _ _ hg H locs ls hsz hP hS => run_V (As := [.int (0 : Int32)]) (rest := []) S kM_ok hKK (c_Mo_below l D ca ax b σ (0 : Int32) hg) (k_Mo_139 S.2.2.2.2 (fun _ => List.mem_cons_of_mem _) ⟨Nat.le_of_ble_eq_true rfl, Nat.le_of_ble_eq_true rfl⟩) (rc_w hKK.1 hP 0 (by decide) rfl rfl) rfl rfl (Nat.zero_le _) d_Mo_trapOf_78 hsz hP hS) (fun r3 σ2 _ => ?_)
    refine v_if_ne S d_Mo_trapOf_81 (tgt := 88) (by decide) (fun h4 => ?_) (fun h4 => ?_)
    · refine v_iconst S d_Mo_trapOf_88 (v := (0 : Int32)) (by decide) ?_
      exact v_iret S hret hlocks d_Mo_trapOf_89
    · refine v_iconst S d_Mo_trapOf_84 (v := (2 : Int32)) (by decide) ?_
      refine v_goto S d_Mo_trapOf_85 (tgt := 89) (by decide) ?_
      exact v_iret S hret hlocks d_Mo_trapOf_89
  · refine v_tsw S (11 : Int32) (tgt := 90) d_Mo_trapOf_1 (by decide) (by decide) (off := 89) rfl (by decide) (fun h5 => ?_) (fun h5 => ?_)
    · refine v_aload_n S d_Mo_trapOf_90 rfl rfl ?_
      refine v_iconst S d_Mo_trapOf_91 (v := (0 : Int32)) (by decide) ?_
      refine v_ci (rest := []) (fun _ _ hg H locs ls hsz hP hS => run_V (As := [.int (0 : Int32)]) (rest := []) S kM_ok hKK (c_Mo_below l D ca ax b σ (0 : Int32) hg) (k_Mo_139 S.2.2.2.2 (fun _ => List.mem_cons_of_mem _) ⟨Nat.le_of_ble_eq_true rfl, Nat.le_of_ble_eq_true rfl⟩) (rc_w hKK.1 hP 0 (by decide) rfl rfl) rfl rfl (Nat.zero_le _) d_Mo_trapOf_92 hsz hP hS) (fun r7 σ6 _ => ?_)
      refine v_if_lt S d_Mo_trapOf_95 (tgt := 123) (by decide) (fun h8 => ?_) (fun h8 => ?_)
      · refine v_iconst S d_Mo_trapOf_123 (v := (5 : Int32)) (by decide) ?_
        refine v_goto S d_Mo_trapOf_124 (tgt := 128) (by decide) ?_
        exact v_iret S hret hlocks d_Mo_trapOf_128
      · refine v_aload_n S d_Mo_trapOf_98 rfl rfl ?_
        refine v_iconst S d_Mo_trapOf_99 (v := (0 : Int32)) (by decide) ?_
        refine v_ci (rest := []) (fun _ _ hg H locs ls hsz hP hS => run_V (As := [.int (0 : Int32)]) (rest := []) S kM_ok hKK (c_Mo_below l D ca ax b σ6 (0 : Int32) hg) (k_Mo_139 S.2.2.2.2 (fun _ => List.mem_cons_of_mem _) ⟨Nat.le_of_ble_eq_true rfl, Nat.le_of_ble_eq_true rfl⟩) (rc_w hKK.1 hP 0 (by decide) rfl rfl) rfl rfl (Nat.zero_le _) d_Mo_trapOf_100 hsz hP hS) (fun r10 σ9 _ => ?_)
        refine v_bipush S d_Mo_trapOf_103 (v := (12 : Int32)) (by decide) ?_
        refine v_icmp_gt S d_Mo_trapOf_105 (tgt := 123) (by decide) (fun h11 => ?_) (fun h11 => ?_)
        · refine v_iconst S d_Mo_trapOf_123 (v := (5 : Int32)) (by decide) ?_
          refine v_goto S d_Mo_trapOf_124 (tgt := 128) (by decide) ?_
          exact v_iret S hret hlocks d_Mo_trapOf_128
        · refine v_aload_n S d_Mo_trapOf_108 rfl rfl ?_
          refine v_get S (fun w h => List.mem_cons_of_mem _ (i_Mo w h)) hKK.1 0 (by decide) rfl rfl 22 (by decide) (S.2.2.2.2 _ (List.mem_cons_of_mem _ (wd_763))) (fun _ h => h) rfl d_Mo_trapOf_109 ?_
          refine v_aload_n S d_Mo_trapOf_112 rfl rfl ?_
          refine v_iconst S d_Mo_trapOf_113 (v := (0 : Int32)) (by decide) ?_
          refine v_ci (rest := [.int (σ9 0 22)]) (fun _ _ hg H locs ls hsz hP hS => run_V (As := [.int (0 : Int32)]) (rest := [.int (σ9 0 22)]) S kM_ok hKK (c_Mo_below l D ca ax b σ9 (0 : Int32) hg) (k_Mo_139 S.2.2.2.2 (fun _ => List.mem_cons_of_mem _) ⟨Nat.le_of_ble_eq_true rfl, Nat.le_of_ble_eq_true rfl⟩) (rc_w hKK.1 hP 0 (by decide) rfl rfl) rfl rfl (by simp [Value.category]) d_Mo_trapOf_114 hsz hP hS) (fun r13 σ12 _ => ?_)
          refine v_iadd S d_Mo_trapOf_117 ?_
          refine v_bipush S d_Mo_trapOf_118 (v := (30 : Int32)) (by decide) ?_
          refine v_icmp_le S d_Mo_trapOf_120 (tgt := 127) (by decide) (fun h14 => ?_) (fun h14 => ?_)
          · refine v_iconst S d_Mo_trapOf_127 (v := (0 : Int32)) (by decide) ?_
            exact v_iret S hret hlocks d_Mo_trapOf_128
          · refine v_iconst S d_Mo_trapOf_123 (v := (5 : Int32)) (by decide) ?_
            refine v_goto S d_Mo_trapOf_124 (tgt := 128) (by decide) ?_
            exact v_iret S hret hlocks d_Mo_trapOf_128
    · refine v_tsw S (12 : Int32) (tgt := 129) d_Mo_trapOf_1 (by decide) (by decide) (off := 128) rfl (by decide) (fun h15 => ?_) (fun h15 => ?_)
      · refine v_aload_n S d_Mo_trapOf_129 rfl rfl ?_
        refine v_iconst S d_Mo_trapOf_130 (v := (1 : Int32)) (by decide) ?_
        refine v_ci (rest := []) (fun _ _ hg H locs ls hsz hP hS => run_V (As := [.int (1 : Int32)]) (rest := []) S kM_ok hKK (c_Mo_below l D ca ax b σ (1 : Int32) hg) (k_Mo_139 S.2.2.2.2 (fun _ => List.mem_cons_of_mem _) ⟨Nat.le_of_ble_eq_true rfl, Nat.le_of_ble_eq_true rfl⟩) (rc_w hKK.1 hP 0 (by decide) rfl rfl) rfl rfl (Nat.zero_le _) d_Mo_trapOf_131 hsz hP hS) (fun r17 σ16 _ => ?_)
        refine v_aload_n S d_Mo_trapOf_134 rfl rfl ?_
        refine v_iconst S d_Mo_trapOf_135 (v := (0 : Int32)) (by decide) ?_
        refine v_ci (rest := [.int r17]) (fun _ _ hg H locs ls hsz hP hS => run_V (As := [.int (0 : Int32)]) (rest := [.int r17]) S kM_ok hKK (c_Mo_below l D ca ax b σ16 (0 : Int32) hg) (k_Mo_139 S.2.2.2.2 (fun _ => List.mem_cons_of_mem _) ⟨Nat.le_of_ble_eq_true rfl, Nat.le_of_ble_eq_true rfl⟩) (rc_w hKK.1 hP 0 (by decide) rfl rfl) rfl rfl (by simp [Value.category]) d_Mo_trapOf_136 hsz hP hS) (fun r19 σ18 _ => ?_)
        refine v_ci (rest := []) (fun _ _ hg H locs ls hsz hP hS => run_S (As := [.int r17, .int r19]) (rest := []) S kM_ok hKK (c_Mo_trapAt l D ca ax b σ18 r17 r19 hg) (k_Mo_142 S.2.2.2.2 (fun _ => List.mem_cons_of_mem _) ⟨Nat.le_of_ble_eq_true rfl, Nat.le_of_ble_eq_true rfl⟩) rfl rfl (Nat.zero_le _) d_Mo_trapOf_139 hsz hP hS) (fun r21 σ20 _ => ?_)
        exact v_iret S hret hlocks d_Mo_trapOf_142
      · refine v_tsw S (13 : Int32) (tgt := 143) d_Mo_trapOf_1 (by decide) (by decide) (off := 142) rfl (by decide) (fun h22 => ?_) (fun h22 => ?_)
        · refine v_aload_n S d_Mo_trapOf_143 rfl rfl ?_
          refine v_iconst S d_Mo_trapOf_144 (v := (2 : Int32)) (by decide) ?_
          refine v_ci (rest := []) (fun _ _ hg H locs ls hsz hP hS => run_V (As := [.int (2 : Int32)]) (rest := []) S kM_ok hKK (c_Mo_below l D ca ax b σ (2 : Int32) hg) (k_Mo_139 S.2.2.2.2 (fun _ => List.mem_cons_of_mem _) ⟨Nat.le_of_ble_eq_true rfl, Nat.le_of_ble_eq_true rfl⟩) (rc_w hKK.1 hP 0 (by decide) rfl rfl) rfl rfl (Nat.zero_le _) d_Mo_trapOf_145 hsz hP hS) (fun r24 σ23 _ => ?_)
          refine v_aload_n S d_Mo_trapOf_148 rfl rfl ?_
          refine v_iconst S d_Mo_trapOf_149 (v := (1 : Int32)) (by decide) ?_
          refine v_ci (rest := [.int r24]) (fun _ _ hg H locs ls hsz hP hS => run_V (As := [.int (1 : Int32)]) (rest := [.int r24]) S kM_ok hKK (c_Mo_below l D ca ax b σ23 (1 : Int32) hg) (k_Mo_139 S.2.2.2.2 (fun _ => List.mem_cons_of_mem _) ⟨Nat.le_of_ble_eq_true rfl, Nat.le_of_ble_eq_true rfl⟩) (rc_w hKK.1 hP 0 (by decide) rfl rfl) rfl rfl (by simp [Value.category]) d_Mo_trapOf_150 hsz hP hS) (fun r26 σ25 _ => ?_)
          refine v_ci (rest := []) (fun _ _ hg H locs ls hsz hP hS => run_S (As := [.int r24, .int r26]) (rest := []) S kM_ok hKK (c_Mo_trapAt l D ca ax b σ25 r24 r26 hg) (k_Mo_142 S.2.2.2.2 (fun _ => List.mem_cons_of_mem _) ⟨Nat.le_of_ble_eq_true rfl, Nat.le_of_ble_eq_true rfl⟩) rfl rfl (Nat.zero_le _) d_Mo_trapOf_153 hsz hP hS) (fun r28 σ27 _ => ?_)
          exact v_iret S hret hlocks d_Mo_trapOf_156
        · refine v_tsw S (14 : Int32) (tgt := 157) d_Mo_trapOf_1 (by decide) (by decide) (off := 156) rfl (by decide) (fun h29 => ?_) (fun h29 => ?_)
          · refine v_aload_n S d_Mo_trapOf_157 rfl rfl ?_
            refine v_iconst S d_Mo_trapOf_158 (v := (0 : Int32)) (by decide) ?_
            refine v_ci (rest := []) (fun _ _ hg H locs ls hsz hP hS => run_V (As := [.int (0 : Int32)]) (rest := []) S kM_ok hKK (c_Mo_below l D ca ax b σ (0 : Int32) hg) (k_Mo_139 S.2.2.2.2 (fun _ => List.mem_cons_of_mem _) ⟨Nat.le_of_ble_eq_true rfl, Nat.le_of_ble_eq_true rfl⟩) (rc_w hKK.1 hP 0 (by decide) rfl rfl) rfl rfl (Nat.zero_le _) d_Mo_trapOf_159 hsz hP hS) (fun r31 σ30 _ => ?_)
            refine v_if_ne S d_Mo_trapOf_162 (tgt := 169) (by decide) (fun h32 => ?_) (fun h32 => ?_)
            · refine v_iconst S d_Mo_trapOf_169 (v := (0 : Int32)) (by decide) ?_
              exact v_iret S hret hlocks d_Mo_trapOf_170
            · refine v_iconst S d_Mo_trapOf_165 (v := (3 : Int32)) (by decide) ?_
              refine v_goto S d_Mo_trapOf_166 (tgt := 170) (by decide) ?_
              exact v_iret S hret hlocks d_Mo_trapOf_170
          · refine v_tsw S (18 : Int32) (tgt := 171) d_Mo_trapOf_1 (by decide) (by decide) (off := 170) rfl (by decide) (fun h33 => ?_) (fun h33 => ?_)
            · refine v_aload_n S d_Mo_trapOf_171 rfl rfl ?_
              refine v_get S (fun w h => List.mem_cons_of_mem _ (i_Mo w h)) hKK.1 0 (by decide) rfl rfl 16 (by decide) (S.2.2.2.2 _ (List.mem_cons_of_mem _ (wd_757))) (fun _ h => h) rfl d_Mo_trapOf_172 ?_
              refine v_bipush S d_Mo_trapOf_175 (v := (8 : Int32)) (by decide) ?_
              refine v_icmp_ne S d_Mo_trapOf_177 (tgt := 184) (by decide) (fun h34 => ?_) (fun h34 => ?_)
              · refine v_iconst S d_Mo_trapOf_184 (v := (0 : Int32)) (by decide) ?_
                exact v_iret S hret hlocks d_Mo_trapOf_185
              · refine v_iconst S d_Mo_trapOf_180 (v := (5 : Int32)) (by decide) ?_
                refine v_goto S d_Mo_trapOf_181 (tgt := 185) (by decide) ?_
                exact v_iret S hret hlocks d_Mo_trapOf_185
            · refine v_tswQ S (5 : Int32) (tgt := 186) d_Mo_trapOf_1 (by decide) (by decide) (off := 185) rfl (by decide) ?_ (fun h35 => ?_)
              · refine v_iconst S d_Mo_trapOf_186 (v := (0 : Int32)) (by decide) ?_
                exact v_iret S hret hlocks d_Mo_trapOf_187
              · refine v_tswQ S (6 : Int32) (tgt := 186) d_Mo_trapOf_1 (by decide) (by decide) (off := 185) rfl (by decide) ?_ (fun h36 => ?_)
                · refine v_iconst S d_Mo_trapOf_186 (v := (0 : Int32)) (by decide) ?_
                  exact v_iret S hret hlocks d_Mo_trapOf_187
                · refine v_tswQ S (7 : Int32) (tgt := 186) d_Mo_trapOf_1 (by decide) (by decide) (off := 185) rfl (by decide) ?_ (fun h37 => ?_)
                  · refine v_iconst S d_Mo_trapOf_186 (v := (0 : Int32)) (by decide) ?_
                    exact v_iret S hret hlocks d_Mo_trapOf_187
                  · refine v_tswQ S (8 : Int32) (tgt := 186) d_Mo_trapOf_1 (by decide) (by decide) (off := 185) rfl (by decide) ?_ (fun h38 => ?_)
                    · refine v_iconst S d_Mo_trapOf_186 (v := (0 : Int32)) (by decide) ?_
                      exact v_iret S hret hlocks d_Mo_trapOf_187
                    · refine v_tswQ S (9 : Int32) (tgt := 186) d_Mo_trapOf_1 (by decide) (by decide) (off := 185) rfl (by decide) ?_ (fun h39 => ?_)
                      · refine v_iconst S d_Mo_trapOf_186 (v := (0 : Int32)) (by decide) ?_
                        exact v_iret S hret hlocks d_Mo_trapOf_187
                      · refine v_tswQ S (10 : Int32) (tgt := 186) d_Mo_trapOf_1 (by decide) (by decide) (off := 185) rfl (by decide) ?_ (fun h40 => ?_)
                        · refine v_iconst S d_Mo_trapOf_186 (v := (0 : Int32)) (by decide) ?_
                          exact v_iret S hret hlocks d_Mo_trapOf_187
                        · refine v_tswQ S (15 : Int32) (tgt := 186) d_Mo_trapOf_1 (by decide) (by decide) (off := 185) rfl (by decide) ?_ (fun h41 => ?_)
                          · refine v_iconst S d_Mo_trapOf_186 (v := (0 : Int32)) (by decide) ?_
                            exact v_iret S hret hlocks d_Mo_trapOf_187
                          · refine v_tswQ S (16 : Int32) (tgt := 186) d_Mo_trapOf_1 (by decide) (by decide) (off := 185) rfl (by decide) ?_ (fun h42 => ?_)
                            · refine v_iconst S d_Mo_trapOf_186 (v := (0 : Int32)) (by decide) ?_
                              exact v_iret S hret hlocks d_Mo_trapOf_187
                            · refine v_tswQ S (17 : Int32) (tgt := 186) d_Mo_trapOf_1 (by decide) (by decide) (off := 185) rfl (by decide) ?_ (fun h43 => ?_)
                              · refine v_iconst S d_Mo_trapOf_186 (v := (0 : Int32)) (by decide) ?_
                                exact v_iret S hret hlocks d_Mo_trapOf_187
                              · refine v_tswD S (tgt := 186) d_Mo_trapOf_1 (by have := a0.toInt_lt; have := a0.le_toInt; have := i32_ne h1 (by decide); have := i32_ne h5 (by decide); have := i32_ne h15 (by decide); have := i32_ne h22 (by decide); have := i32_ne h29 (by decide); have := i32_ne h33 (by decide); have := i32_ne h35 (by decide); have := i32_ne h36 (by decide); have := i32_ne h37 (by decide); have := i32_ne h38 (by decide); have := i32_ne h39 (by decide); have := i32_ne h40 (by decide); have := i32_ne h41 (by decide); have := i32_ne h42 (by decide); have := i32_ne h43 (by decide); simp only [] at *; omega) (by decide) ?_
                                refine v_iconst S d_Mo_trapOf_186 (v := (0 : Int32)) (by decide) ?_
                                exact v_iret S hret hlocks d_Mo_trapOf_187
def fn_Mo_calculate (σ : mm_M) (a0 : Int32) : Option (mm_M) :=
    (bd (fn_Mo_below σ (0 : Int32)) (fun r2 σ1 =>
    (bd (fn_Mo_below σ1 (1 : Int32)) (fun r4 σ3 =>
    (bv (fn_Mo_drop σ3 (2 : Int32)) (fun σ5 =>
    (if a0 = (1 : Int32) then
    (bv (fn_Mo_put σ5 (1 : Int32) (r4 + r2)) (fun σ13 =>
    (some σ13)))
    else
    (if a0 = (2 : Int32) then
    (bv (fn_Mo_put σ5 (1 : Int32) (r4 - r2)) (fun σ12 =>
    (some σ12)))
    else
    (if a0 = (3 : Int32) then
    (bv (fn_Mo_put σ5 (1 : Int32) (r4 * r2)) (fun σ11 =>
    (some σ11)))
    else
    (if r2 = 0 then none else
    (bv (fn_Mo_put σ5 (1 : Int32) (r4 / r2)) (fun σ10 =>
    (some σ10)))))))))))))
set_option maxRecDepth 100000 in
set_option maxHeartbeats 40000000 in
theorem c_Mo_calculate (l : Launch) (D : va_G) (ca : Nat → ClassId) (ax : Nat → Nat → Nat) (b : Nat) (σ : mm_M) (a0 : Int32)  {σ' : mm_M} (hf : fn_Mo_calculate σ a0 = some σ') : Met l y_Mo_calculate w_Mo_calculate rm_Mo_calculate (pc_w D cls b N_M (ce_M ca b) (kM D ca ax b) [.ref (b + 0), .int a0] σ) (qc_v D cls b N_M (ce_M ca b) σ') 0 0 (mm_A b N_M) := by
  refine vv_go (cc := b_Mo_calculate) (maxL := 4) (ret := none) (fin := σ') (k := fn_Mo_calculate σ a0) (by decide) rfl (by simp [Value.category]) (Nat.le_of_ble_eq_true rfl) hf ?_
  intro p e s m below meth c hlocks hret S hKK
  unfold fn_Mo_calculate
  refine v_aload_n S d_Mo_calculate_0 rfl rfl ?_
  refine v_iconst S d_Mo_calculate_1 (v := (0 : Int32)) (by decide) ?_
  refine v_ci (rest := []) (fun _ _ hg H locs ls hsz hP hS => run_V (As := [.int (0 : Int32)]) (rest := []) S kM_ok hKK (c_Mo_below l D ca ax b σ (0 : Int32) hg) (k_Mo_139 S.2.2.2.2 (fun _ => List.mem_cons_of_mem _) ⟨Nat.le_of_ble_eq_true rfl, Nat.le_of_ble_eq_true rfl⟩) (rc_w hKK.1 hP 0 (by decide) rfl rfl) rfl rfl (Nat.zero_le _) d_Mo_calculate_2 hsz hP hS) (fun r2 σ1 _ => ?_)
  refine v_istore_nP S d_Mo_calculate_5 rfl (by decide) (L2 := [some (.ref (b + 0)), some (.int a0), some (.int r2)]) rfl ?_
  refine v_aload_n S d_Mo_calculate_6 rfl rfl ?_
  refine v_iconst S d_Mo_calculate_7 (v := (1 : Int32)) (by decide) ?_
  refine v_ci (rest := []) (fun _ _ hg H locs ls hsz hP hS => run_V (As := [.int (1 : Int32)]) (rest := []) S kM_ok hKK (c_Mo_below l D ca ax b σ1 (1 : Int32) hg) (k_Mo_139 S.2.2.2.2 (fun _ => List.mem_cons_of_mem _) ⟨Nat.le_of_ble_eq_true rfl, Nat.le_of_ble_eq_true rfl⟩) (rc_w hKK.1 hP 0 (by decide) rfl rfl) rfl rfl (Nat.zero_le _) d_Mo_calculate_8 hsz hP hS) (fun r4 σ3 _ => ?_)
  refine v_istore_nP S d_Mo_calculate_11 rfl (by decide) (L2 := [some (.ref (b + 0)), some (.int a0), some (.int r2), some (.int r4)]) rfl ?_
  refine v_aload_n S d_Mo_calculate_12 rfl rfl ?_
  refine v_iconst S d_Mo_calculate_13 (v := (2 : Int32)) (by decide) ?_
  refine v_cv (rest := []) (fun _ hg H locs ls hsz hP hS => run_V (As := [.int (2 : Int32)]) (rest := []) S kM_ok hKK (c_Mo_drop l D ca ax b σ3 (2 : Int32) hg) (k_Mo_148 S.2.2.2.2 (fun _ => List.mem_cons_of_mem _) ⟨Nat.le_of_ble_eq_true rfl, Nat.le_of_ble_eq_true rfl⟩) (rc_w hKK.1 hP 0 (by decide) rfl rfl) rfl rfl (Nat.zero_le _) d_Mo_calculate_14 hsz hP hS) (fun σ5 _ => ?_)
  refine v_aload_n S d_Mo_calculate_17 rfl rfl ?_
  refine v_iconst S d_Mo_calculate_18 (v := (1 : Int32)) (by decide) ?_
  refine v_iload_n S d_Mo_calculate_19 rfl rfl ?_
  refine v_iconst S d_Mo_calculate_20 (v := (1 : Int32)) (by decide) ?_
  refine v_icmp_ne S d_Mo_calculate_21 (tgt := 30) (by decide) (fun h6 => ?_) (fun h6 => ?_)
  · refine v_iload_n S d_Mo_calculate_30 rfl rfl ?_
    refine v_iconst S d_Mo_calculate_31 (v := (2 : Int32)) (by decide) ?_
    refine v_icmp_ne S d_Mo_calculate_32 (tgt := 41) (by decide) (fun h7 => ?_) (fun h7 => ?_)
    · refine v_iload_n S d_Mo_calculate_41 rfl rfl ?_
      refine v_iconst S d_Mo_calculate_42 (v := (3 : Int32)) (by decide) ?_
      refine v_icmp_ne S d_Mo_calculate_43 (tgt := 52) (by decide) (fun h8 => ?_) (fun h8 => ?_)
      · refine v_iload_n S d_Mo_calculate_52 rfl rfl ?_
        refine v_iload_n S d_Mo_calculate_53 rfl rfl ?_
        refine v_idiv S d_Mo_calculate_54 (fun h9 => ?_)
        refine v_cv (rest := []) (fun _ hg H locs ls hsz hP hS => run_V (As := [.int (1 : Int32), .int (r4 / r2)]) (rest := []) S kM_ok hKK (c_Mo_put l D ca ax b σ5 (1 : Int32) (r4 / r2) hg) (k_Mo_151 S.2.2.2.2 (fun _ => List.mem_cons_of_mem _) ⟨Nat.le_of_ble_eq_true rfl, Nat.le_of_ble_eq_true rfl⟩) (rc_w hKK.1 hP 0 (by decide) rfl rfl) rfl rfl (Nat.zero_le _) d_Mo_calculate_55 hsz hP hS) (fun σ10 _ => ?_)
        exact v_vret S hret hlocks d_Mo_calculate_58
      · refine v_iload_n S d_Mo_calculate_46 rfl rfl ?_
        refine v_iload_n S d_Mo_calculate_47 rfl rfl ?_
        refine v_imul S d_Mo_calculate_48 ?_
        refine v_goto S d_Mo_calculate_49 (tgt := 55) (by decide) ?_
        refine v_cv (rest := []) (fun _ hg H locs ls hsz hP hS => run_V (As := [.int (1 : Int32), .int (r4 * r2)]) (rest := []) S kM_ok hKK (c_Mo_put l D ca ax b σ5 (1 : Int32) (r4 * r2) hg) (k_Mo_151 S.2.2.2.2 (fun _ => List.mem_cons_of_mem _) ⟨Nat.le_of_ble_eq_true rfl, Nat.le_of_ble_eq_true rfl⟩) (rc_w hKK.1 hP 0 (by decide) rfl rfl) rfl rfl (Nat.zero_le _) d_Mo_calculate_55 hsz hP hS) (fun σ11 _ => ?_)
        exact v_vret S hret hlocks d_Mo_calculate_58
    · refine v_iload_n S d_Mo_calculate_35 rfl rfl ?_
      refine v_iload_n S d_Mo_calculate_36 rfl rfl ?_
      refine v_isub S d_Mo_calculate_37 ?_
      refine v_goto S d_Mo_calculate_38 (tgt := 55) (by decide) ?_
      refine v_cv (rest := []) (fun _ hg H locs ls hsz hP hS => run_V (As := [.int (1 : Int32), .int (r4 - r2)]) (rest := []) S kM_ok hKK (c_Mo_put l D ca ax b σ5 (1 : Int32) (r4 - r2) hg) (k_Mo_151 S.2.2.2.2 (fun _ => List.mem_cons_of_mem _) ⟨Nat.le_of_ble_eq_true rfl, Nat.le_of_ble_eq_true rfl⟩) (rc_w hKK.1 hP 0 (by decide) rfl rfl) rfl rfl (Nat.zero_le _) d_Mo_calculate_55 hsz hP hS) (fun σ12 _ => ?_)
      exact v_vret S hret hlocks d_Mo_calculate_58
  · refine v_iload_n S d_Mo_calculate_24 rfl rfl ?_
    refine v_iload_n S d_Mo_calculate_25 rfl rfl ?_
    refine v_iadd S d_Mo_calculate_26 ?_
    refine v_goto S d_Mo_calculate_27 (tgt := 55) (by decide) ?_
    refine v_cv (rest := []) (fun _ hg H locs ls hsz hP hS => run_V (As := [.int (1 : Int32), .int (r4 + r2)]) (rest := []) S kM_ok hKK (c_Mo_put l D ca ax b σ5 (1 : Int32) (r4 + r2) hg) (k_Mo_151 S.2.2.2.2 (fun _ => List.mem_cons_of_mem _) ⟨Nat.le_of_ble_eq_true rfl, Nat.le_of_ble_eq_true rfl⟩) (rc_w hKK.1 hP 0 (by decide) rfl rfl) rfl rfl (Nat.zero_le _) d_Mo_calculate_55 hsz hP hS) (fun σ13 _ => ?_)
    exact v_vret S hret hlocks d_Mo_calculate_58
end
section
/-! contracts of 20.model; written by wip/whole/make.py -/
def fn_Mo_onArrays_35 (a0 : Int32) : Nat → mm_M → Int32 → Int32 → Option (mm_M)
  | 0, _, _, _ => none
  | n + 1, σ, l2, l3 =>
    (if l2 ≤ l3 then
    (nm (mw σ 0 22 ((σ 0 22) + l2)) (fun σ34 =>
    (some σ34)))
    else
    (if (((σ 0 22) + l3) < 0 ∨ 31 ≤ ((σ 0 22) + l3).toNatClampNeg) then none else (nm (mw σ 16 ((σ 0 22) + l3).toNatClampNeg (0 : Int32)) (fun σ36 =>
    (fn_Mo_onArrays_35 a0 n σ36 l2 (l3 + (1 : Int32)))))))
def fn_Mo_onArrays (σ : mm_M) (a0 : Int32) : Option (mm_M) :=
    (if a0 = (11 : Int32) then
    (bd (fn_Mo_below σ (0 : Int32)) (fun r30 σ29 =>
    (bv (fn_Mo_drop σ29 (1 : Int32)) (fun σ31 =>
    (bv (fn_Mo_put σ31 (2 : Int32) (((1 : Int32) + ((16 : Int32) * (σ31 0 22))) + r30)) (fun σ32 =>
    (fn_Mo_onArrays_35 a0 fuel0 σ32 r30 (0 : Int32))))))))
    else
    (if a0 = (12 : Int32) then
    (bd (fn_Mo_below σ (1 : Int32)) (fun r21 σ20 =>
    (if (16 : Int32) = 0 then none else
    (bd (fn_Mo_below σ20 (0 : Int32)) (fun r24 σ23 =>
    (if ((((r21 - (1 : Int32)) / (16 : Int32)) + r24) < 0 ∨ 31 ≤ (((r21 - (1 : Int32)) / (16 : Int32)) + r24).toNatClampNeg) then none else
    (nm (σ23 16 (((r21 - (1 : Int32)) / (16 : Int32)) + r24).toNatClampNeg) (fun x26 =>
    (bv (fn_Mo_drop σ23 (2 : Int32)) (fun σ27 =>
    (bv (fn_Mo_put σ27 (1 : Int32) x26) (fun σ28 =>
    (some σ28)))))))))))))
    else
    (if a0 = (13 : Int32) then
    (bd (fn_Mo_below σ (2 : Int32)) (fun r11 σ10 =>
    (if (16 : Int32) = 0 then none else
    (bd (fn_Mo_below σ10 (1 : Int32)) (fun r14 σ13 =>
    (bd (fn_Mo_below σ13 (0 : Int32)) (fun r16 σ15 =>
    (if ((((r11 - (1 : Int32)) / (16 : Int32)) + r14) < 0 ∨ 31 ≤ (((r11 - (1 : Int32)) / (16 : Int32)) + r14).toNatClampNeg) then none else (nm (mw σ15 16 (((r11 - (1 : Int32)) / (16 : Int32)) + r14).toNatClampNeg r16) (fun σ18 =>
    (bv (fn_Mo_drop σ18 (3 : Int32)) (fun σ19 =>
    (some σ19)))))))))))))
    else
    (bd (fn_Mo_below σ (0 : Int32)) (fun r5 σ4 =>
    (bd (fn_Mo_lengthOf σ4 r5) (fun r7 σ6 =>
    (bv (fn_Mo_drop σ6 (1 : Int32)) (fun σ8 =>
    (bv (fn_Mo_put σ8 (1 : Int32) r7) (fun σ9 =>
    (some σ9))))))))))))
set_option maxRecDepth 100000 in
set_option maxHeartbeats 40000000 in
theorem c_Mo_onArrays (l : Launch) (D : va_G) (ca : Nat → ClassId) (ax : Nat → Nat → Nat) (b : Nat) (σ : mm_M) (a0 : Int32)  {σ' : mm_M} (hf : fn_Mo_onArrays σ a0 = some σ') : Met l y_Mo_onArrays w_Mo_onArrays rm_Mo_onArrays (pc_w D cls b N_M (ce_M ca b) (kM D ca ax b) [.ref (b + 0), .int a0] σ) (qc_v D cls b N_M (ce_M ca b) σ') 0 0 (mm_A b N_M) := by
  refine vv_go (cc := b_Mo_onArrays) (maxL := 4) (ret := none) (fin := σ') (k := fn_Mo_onArrays σ a0) (by decide) rfl (by simp [Value.category]) (Nat.le_of_ble_eq_true rfl) hf ?_
  intro p e s m below meth c hlocks hret S hKK
  have C35 : ∀ (n : Nat) (σ : mm_M) (l2 : Int32) (l3 : Int32), vv p l e (headSpec w_Mo_onArrays rm_Mo_onArrays).room s m [.ref (b + 0), .int a0].toArray below meth c D cls b N_M (ce_M ca b) 4 (MQ below (qc_v D cls b N_M (ce_M ca b) σ') [.ref (b + 0), .int a0].toArray s 0 0 (mm_A b N_M)) σ' (fn_Mo_onArrays_35 a0 n σ l2 l3) σ 35 [some (.ref (b + 0)), none, some (.int l2), some (.int l3)] [] := by
    intro n
    induction n with
    | zero => intro σ l2 l3  h; cases h
    | succ n ih =>
      intro σ l2 l3
      show vv p l e (headSpec w_Mo_onArrays rm_Mo_onArrays).room s m [.ref (b + 0), .int a0].toArray below meth c D cls b N_M (ce_M ca b) 4 (MQ below (qc_v D cls b N_M (ce_M ca b) σ') [.ref (b + 0), .int a0].toArray s 0 0 (mm_A b N_M)) σ' (        (if l2 ≤ l3 then
        (nm (mw σ 0 22 ((σ 0 22) + l2)) (fun σ34 =>
        (some σ34)))
        else
        (if (((σ 0 22) + l3) < 0 ∨ 31 ≤ ((σ 0 22) + l3).toNatClampNeg) then none else (nm (mw σ 16 ((σ 0 22) + l3).toNatClampNeg (0 : Int32)) (fun σ36 =>
        (fn_Mo_onArrays_35 a0 n σ36 l2 (l3 + (1 : Int32)))))))) σ 35 [some (.ref (b + 0)), none, some (.int l2), some (.int l3)] []
      refine v_iload_n S d_Mo_onArrays_35 rfl rfl ?_
      refine v_iload_n S d_Mo_onArrays_36 rfl rfl ?_
      refine v_icmp_ge S d_Mo_onArrays_37 (tgt := 58) (by decide) (fun h33 => ?_) (fun h33 => ?_)
      · refine v_aload_n S d_Mo_onArrays_58 rfl rfl ?_
        refine v_dup S d_Mo_onArrays_59 rfl ?_
        refine v_get S (fun w h => List.mem_cons_of_mem _ (i_Mo w h)) hKK.1 0 (by decide) rfl rfl 22 (by decide) (S.2.2.2.2 _ (List.mem_cons_of_mem _ (wd_763))) (fun _ h => h) rfl d_Mo_onArrays_60 ?_
        refine v_iload_n S d_Mo_onArrays_63 rfl rfl ?_
        refine v_iadd S d_Mo_onArrays_64 ?_
        refine v_puti S (fun w h => List.mem_cons_of_mem _ (i_Mo w h)) hKK.1 0 (by decide) rfl rfl 22 (by decide) (S.2.2.2.2 _ (List.mem_cons_of_mem _ (wd_763))) (fun _ h => h) t_Mo t_Mo_ok n_Mo rfl (ty := .int) rfl rfl rfl (Nat.le_of_ble_eq_true rfl) rfl d_Mo_onArrays_65 ?_
        refine v_sg (fun σ34 eσ34 => ?_)
        refine v_goto S d_Mo_onArrays_68 (tgt := 173) (by decide) ?_
        exact v_vret S hret hlocks d_Mo_onArrays_173
      · refine v_aload_n S d_Mo_onArrays_40 rfl rfl ?_
        refine v_get S (fun w h => List.mem_cons_of_mem _ (i_Mo w h)) hKK.1 0 (by decide) rfl rfl 23 (by decide) (S.2.2.2.2 _ (List.mem_cons_of_mem _ (wd_764))) (fun _ h => h) rfl d_Mo_onArrays_41 ?_
        refine v_aload_n S d_Mo_onArrays_44 rfl rfl ?_
        refine v_get S (fun w h => List.mem_cons_of_mem _ (i_Mo w h)) hKK.1 0 (by decide) rfl rfl 22 (by decide) (S.2.2.2.2 _ (List.mem_cons_of_mem _ (wd_763))) (fun _ h => h) rfl d_Mo_onArrays_45 ?_
        refine v_iload_n S d_Mo_onArrays_48 rfl rfl ?_
        refine v_iadd S d_Mo_onArrays_49 ?_
        refine v_iconst S d_Mo_onArrays_50 (v := (0 : Int32)) (by decide) ?_
        refine v_iast1 S hKK.1 16 0 (by decide) (fun _ => rfl) rfl d_Mo_onArrays_51 (fun h35 => ?_)
        refine v_sg (fun σ36 eσ36 => ?_)
        refine v_iinc S d_Mo_onArrays_52 rfl (v := (l3 + (1 : Int32))) (by first | rfl | decide) (by decide) (L2 := [some (.ref (b + 0)), none, some (.int l2), some (.int (l3 + (1 : Int32)))]) rfl ?_
        refine v_goto S d_Mo_onArrays_55 (tgt := 35) (by decide) ?_
        refine v_sub (L2 := [some (.ref (b + 0)), none, some (.int l2), some (.int (l3 + (1 : Int32)))]) (And.intro rfl (And.intro rfl (And.intro rfl True.intro))) ?_
        exact ih σ36 l2 (l3 + (1 : Int32))
  unfold fn_Mo_onArrays
  refine v_iload_n S d_Mo_onArrays_0 rfl rfl ?_
  refine v_bipush S d_Mo_onArrays_1 (v := (11 : Int32)) (by decide) ?_
  refine v_icmp_ne S d_Mo_onArrays_3 (tgt := 71) (by decide) (fun h1 => ?_) (fun h1 => ?_)
  · refine v_iload_n S d_Mo_onArrays_71 rfl rfl ?_
    refine v_bipush S d_Mo_onArrays_72 (v := (12 : Int32)) (by decide) ?_
    refine v_icmp_ne S d_Mo_onArrays_74 (tgt := 113) (by decide) (fun h2 => ?_) (fun h2 => ?_)
    · refine v_iload_n S d_Mo_onArrays_113 rfl rfl ?_
      refine v_bipush S d_Mo_onArrays_114 (v := (13 : Int32)) (by decide) ?_
      refine v_icmp_ne S d_Mo_onArrays_116 (tgt := 153) (by decide) (fun h3 => ?_) (fun h3 => ?_)
      · refine v_aload_n S d_Mo_onArrays_153 rfl rfl ?_
        refine v_iconst S d_Mo_onArrays_154 (v := (0 : Int32)) (by decide) ?_
        refine v_ci (rest := []) (fun _ _ hg H locs ls hsz hP hS => run_V (As := [.int (0 : Int32)]) (rest := []) S kM_ok hKK (c_Mo_below l D ca ax b σ (0 : Int32) hg) (k_Mo_139 S.2.2.2.2 (fun _ => List.mem_cons_of_mem _) ⟨Nat.le_of_ble_eq_true rfl, Nat.le_of_ble_eq_true rfl⟩) (rc_w hKK.1 hP 0 (by decide) rfl rfl) rfl rfl (Nat.zero_le _) d_Mo_onArrays_155 hsz hP hS) (fun r5 σ4 _ => ?_)
        refine v_ci (rest := []) (fun _ _ hg H locs ls hsz hP hS => run_S (As := [.int r5]) (rest := []) S kM_ok hKK (c_Mo_lengthOf l D ca ax b σ4 r5 hg) (k_Mo_145 S.2.2.2.2 (fun _ => List.mem_cons_of_mem _) ⟨Nat.le_of_ble_eq_true rfl, Nat.le_of_ble_eq_true rfl⟩) rfl rfl (Nat.zero_le _) d_Mo_onArrays_158 hsz hP hS) (fun r7 σ6 _ => ?_)
        refine v_istore_nP S d_Mo_onArrays_161 rfl (by decide) (L2 := [some (.ref (b + 0)), some (.int a0), some (.int r7)]) rfl ?_
        refine v_aload_n S d_Mo_onArrays_162 rfl rfl ?_
        refine v_iconst S d_Mo_onArrays_163 (v := (1 : Int32)) (by decide) ?_
        refine v_cv (rest := []) (fun _ hg H locs ls hsz hP hS => run_V (As := [.int (1 : Int32)]) (rest := []) S kM_ok hKK (c_Mo_drop l D ca ax b σ6 (1 : Int32) hg) (k_Mo_148 S.2.2.2.2 (fun _ => List.mem_cons_of_mem _) ⟨Nat.le_of_ble_eq_true rfl, Nat.le_of_ble_eq_true rfl⟩) (rc_w hKK.1 hP 0 (by decide) rfl rfl) rfl rfl (Nat.zero_le _) d_Mo_onArrays_164 hsz hP hS) (fun σ8 _ => ?_)
        refine v_aload_n S d_Mo_onArrays_167 rfl rfl ?_
        refine v_iconst S d_Mo_onArrays_168 (v := (1 : Int32)) (by decide) ?_
        refine v_iload_n S d_Mo_onArrays_169 rfl rfl ?_
        refine v_cv (rest := []) (fun _ hg H locs ls hsz hP hS => run_V (As := [.int (1 : Int32), .int r7]) (rest := []) S kM_ok hKK (c_Mo_put l D ca ax b σ8 (1 : Int32) r7 hg) (k_Mo_151 S.2.2.2.2 (fun _ => List.mem_cons_of_mem _) ⟨Nat.le_of_ble_eq_true rfl, Nat.le_of_ble_eq_true rfl⟩) (rc_w hKK.1 hP 0 (by decide) rfl rfl) rfl rfl (Nat.zero_le _) d_Mo_onArrays_170 hsz hP hS) (fun σ9 _ => ?_)
        exact v_vret S hret hlocks d_Mo_onArrays_173
      · refine v_aload_n S d_Mo_onArrays_119 rfl rfl ?_
        refine v_get S (fun w h => List.mem_cons_of_mem _ (i_Mo w h)) hKK.1 0 (by decide) rfl rfl 23 (by decide) (S.2.2.2.2 _ (List.mem_cons_of_mem _ (wd_764))) (fun _ h => h) rfl d_Mo_onArrays_120 ?_
        refine v_aload_n S d_Mo_onArrays_123 rfl rfl ?_
        refine v_iconst S d_Mo_onArrays_124 (v := (2 : Int32)) (by decide) ?_
        refine v_ci (rest := [.ref (b + 16)]) (fun _ _ hg H locs ls hsz hP hS => run_V (As := [.int (2 : Int32)]) (rest := [.ref (b + 16)]) S kM_ok hKK (c_Mo_below l D ca ax b σ (2 : Int32) hg) (k_Mo_139 S.2.2.2.2 (fun _ => List.mem_cons_of_mem _) ⟨Nat.le_of_ble_eq_true rfl, Nat.le_of_ble_eq_true rfl⟩) (rc_w hKK.1 hP 0 (by decide) rfl rfl) rfl rfl (by simp [Value.category]) d_Mo_onArrays_125 hsz hP hS) (fun r11 σ10 _ => ?_)
        refine v_iconst S d_Mo_onArrays_128 (v := (1 : Int32)) (by decide) ?_
        refine v_isub S d_Mo_onArrays_129 ?_
        refine v_bipush S d_Mo_onArrays_130 (v := (16 : Int32)) (by decide) ?_
        refine v_idiv S d_Mo_onArrays_132 (fun h12 => ?_)
        refine v_aload_n S d_Mo_onArrays_133 rfl rfl ?_
        refine v_iconst S d_Mo_onArrays_134 (v := (1 : Int32)) (by decide) ?_
        refine v_ci (rest := [.int ((r11 - (1 : Int32)) / (16 : Int32)), .ref (b + 16)]) (fun _ _ hg H locs ls hsz hP hS => run_V (As := [.int (1 : Int32)]) (rest := [.int ((r11 - (1 : Int32)) / (16 : Int32)), .ref (b + 16)]) S kM_ok hKK (c_Mo_below l D ca ax b σ10 (1 : Int32) hg) (k_Mo_139 S.2.2.2.2 (fun _ => List.mem_cons_of_mem _) ⟨Nat.le_of_ble_eq_true rfl, Nat.le_of_ble_eq_true rfl⟩) (rc_w hKK.1 hP 0 (by decide) rfl rfl) rfl rfl (by simp [Value.category]) d_Mo_onArrays_135 hsz hP hS) (fun r14 σ13 _ => ?_)
        refine v_iadd S d_Mo_onArrays_138 ?_
        refine v_aload_n S d_Mo_onArrays_139 rfl rfl ?_
        refine v_iconst S d_Mo_onArrays_140 (v := (0 : Int32)) (by decide) ?_
        refine v_ci (rest := [.int (((r11 - (1 : Int32)) / (16 : Int32)) + r14), .ref (b + 16)]) (fun _ _ hg H locs ls hsz hP hS => run_V (As := [.int (0 : Int32)]) (rest := [.int (((r11 - (1 : Int32)) / (16 : Int32)) + r14), .ref (b + 16)]) S kM_ok hKK (c_Mo_below l D ca ax b σ13 (0 : Int32) hg) (k_Mo_139 S.2.2.2.2 (fun _ => List.mem_cons_of_mem _) ⟨Nat.le_of_ble_eq_true rfl, Nat.le_of_ble_eq_true rfl⟩) (rc_w hKK.1 hP 0 (by decide) rfl rfl) rfl rfl (by simp [Value.category]) d_Mo_onArrays_141 hsz hP hS) (fun r16 σ15 _ => ?_)
        refine v_iast1 S hKK.1 16 0 (by decide) (fun _ => rfl) rfl d_Mo_onArrays_144 (fun h17 => ?_)
        refine v_sg (fun σ18 eσ18 => ?_)
        refine v_aload_n S d_Mo_onArrays_145 rfl rfl ?_
        refine v_iconst S d_Mo_onArrays_146 (v := (3 : Int32)) (by decide) ?_
        refine v_cv (rest := []) (fun _ hg H locs ls hsz hP hS => run_V (As := [.int (3 : Int32)]) (rest := []) S kM_ok hKK (c_Mo_drop l D ca ax b σ18 (3 : Int32) hg) (k_Mo_148 S.2.2.2.2 (fun _ => List.mem_cons_of_mem _) ⟨Nat.le_of_ble_eq_true rfl, Nat.le_of_ble_eq_true rfl⟩) (rc_w hKK.1 hP 0 (by decide) rfl rfl) rfl rfl (Nat.zero_le _) d_Mo_onArrays_147 hsz hP hS) (fun σ19 _ => ?_)
        refine v_goto S d_Mo_onArrays_150 (tgt := 173) (by decide) ?_
        exact v_vret S hret hlocks d_Mo_onArrays_173
    · refine v_aload_n S d_Mo_onArrays_77 rfl rfl ?_
      refine v_get S (fun w h => List.mem_cons_of_mem _ (i_Mo w h)) hKK.1 0 (by decide) rfl rfl 23 (by decide) (S.2.2.2.2 _ (List.mem_cons_of_mem _ (wd_764))) (fun _ h => h) rfl d_Mo_onArrays_78 ?_
      refine v_aload_n S d_Mo_onArrays_81 rfl rfl ?_
      refine v_iconst S d_Mo_onArrays_82 (v := (1 : Int32)) (by decide) ?_
      refine v_ci (rest := [.ref (b + 16)]) (fun _ _ hg H locs ls hsz hP hS => run_V (As := [.int (1 : Int32)]) (rest := [.ref (b + 16)]) S kM_ok hKK (c_Mo_below l D ca ax b σ (1 : Int32) hg) (k_Mo_139 S.2.2.2.2 (fun _ => List.mem_cons_of_mem _) ⟨Nat.le_of_ble_eq_true rfl, Nat.le_of_ble_eq_true rfl⟩) (rc_w hKK.1 hP 0 (by decide) rfl rfl) rfl rfl (by simp [Value.category]) d_Mo_onArrays_83 hsz hP hS) (fun r21 σ20 _ => ?_)
      refine v_iconst S d_Mo_onArrays_86 (v := (1 : Int32)) (by decide) ?_
      refine v_isub S d_Mo_onArrays_87 ?_
      refine v_bipush S d_Mo_onArrays_88 (v := (16 : Int32)) (by decide) ?_
      refine v_idiv S d_Mo_onArrays_90 (fun h22 => ?_)
      refine v_aload_n S d_Mo_onArrays_91 rfl rfl ?_
      refine v_iconst S d_Mo_onArrays_92 (v := (0 : Int32)) (by decide) ?_
      refine v_ci (rest := [.int ((r21 - (1 : Int32)) / (16 : Int32)), .ref (b + 16)]) (fun _ _ hg H locs ls hsz hP hS => run_V (As := [.int (0 : Int32)]) (rest := [.int ((r21 - (1 : Int32)) / (16 : Int32)), .ref (b + 16)]) S kM_ok hKK (c_Mo_below l D ca ax b σ20 (0 : Int32) hg) (k_Mo_139 S.2.2.2.2 (fun _ => List.mem_cons_of_mem _) ⟨Nat.le_of_ble_eq_true rfl, Nat.le_of_ble_eq_true rfl⟩) (rc_w hKK.1 hP 0 (by decide) rfl rfl) rfl rfl (by simp [Value.category]) d_Mo_onArrays_93 hsz hP hS) (fun r24 σ23 _ => ?_)
      refine v_iadd S d_Mo_onArrays_96 ?_
      refine v_iald S hKK.1 16 0 (by decide) rfl rfl d_Mo_onArrays_97 (fun h25 => ?_)
      refine v_top (fun x26 ex26 => ?_)
      refine v_istore_nP S d_Mo_onArrays_98 rfl (by decide) (L2 := [some (.ref (b + 0)), some (.int a0), some (.int x26)]) rfl ?_
      refine v_aload_n S d_Mo_onArrays_99 rfl rfl ?_
      refine v_iconst S d_Mo_onArrays_100 (v := (2 : Int32)) (by decide) ?_
      refine v_cv (rest := []) (fun _ hg H locs ls hsz hP hS => run_V (As := [.int (2 : Int32)]) (rest := []) S kM_ok hKK (c_Mo_drop l D ca ax b σ23 (2 : Int32) hg) (k_Mo_148 S.2.2.2.2 (fun _ => List.mem_cons_of_mem _) ⟨Nat.le_of_ble_eq_true rfl, Nat.le_of_ble_eq_true rfl⟩) (rc_w hKK.1 hP 0 (by decide) rfl rfl) rfl rfl (Nat.zero_le _) d_Mo_onArrays_101 hsz hP hS) (fun σ27 _ => ?_)
      refine v_aload_n S d_Mo_onArrays_104 rfl rfl ?_
      refine v_iconst S d_Mo_onArrays_105 (v := (1 : Int32)) (by decide) ?_
      refine v_iload_n S d_Mo_onArrays_106 rfl rfl ?_
      refine v_cv (rest := []) (fun _ hg H locs ls hsz hP hS => run_V (As := [.int (1 : Int32), .int x26]) (rest := []) S kM_ok hKK (c_Mo_put l D ca ax b σ27 (1 : Int32) x26 hg) (k_Mo_151 S.2.2.2.2 (fun _ => List.mem_cons_of_mem _) ⟨Nat.le_of_ble_eq_true rfl, Nat.le_of_ble_eq_true rfl⟩) (rc_w hKK.1 hP 0 (by decide) rfl rfl) rfl rfl (Nat.zero_le _) d_Mo_onArrays_107 hsz hP hS) (fun σ28 _ => ?_)
      refine v_goto S d_Mo_onArrays_110 (tgt := 173) (by decide) ?_
      exact v_vret S hret hlocks d_Mo_onArrays_173
  · refine v_aload_n S d_Mo_onArrays_6 rfl rfl ?_
    refine v_iconst S d_Mo_onArrays_7 (v := (0 : Int32)) (by decide) ?_
    refine v_ci (rest := []) (fun _ _ hg H locs ls hsz hP hS => run_V (As := [.int (0 : Int32)]) (rest := []) S kM_ok hKK (c_Mo_below l D ca ax b σ (0 : Int32) hg) (k_Mo_139 S.2.2.2.2 (fun _ => List.mem_cons_of_mem _) ⟨Nat.le_of_ble_eq_true rfl, Nat.le_of_ble_eq_true rfl⟩) (rc_w hKK.1 hP 0 (by decide) rfl rfl) rfl rfl (Nat.zero_le _) d_Mo_onArrays_8 hsz hP hS) (fun r30 σ29 _ => ?_)
    refine v_istore_nP S d_Mo_onArrays_11 rfl (by decide) (L2 := [some (.ref (b + 0)), some (.int a0), some (.int r30)]) rfl ?_
    refine v_aload_n S d_Mo_onArrays_12 rfl rfl ?_
    refine v_iconst S d_Mo_onArrays_13 (v := (1 : Int32)) (by decide) ?_
    refine v_cv (rest := []) (fun _ hg H locs ls hsz hP hS => run_V (As := [.int (1 : Int32)]) (rest := []) S kM_ok hKK (c_Mo_drop l D ca ax b σ29 (1 : Int32) hg) (k_Mo_148 S.2.2.2.2 (fun _ => List.mem_cons_of_mem _) ⟨Nat.le_of_ble_eq_true rfl, Nat.le_of_ble_eq_true rfl⟩) (rc_w hKK.1 hP 0 (by decide) rfl rfl) rfl rfl (Nat.zero_le _) d_Mo_onArrays_14 hsz hP hS) (fun σ31 _ => ?_)
    refine v_aload_n S d_Mo_onArrays_17 rfl rfl ?_
    refine v_iconst S d_Mo_onArrays_18 (v := (2 : Int32)) (by decide) ?_
    refine v_iconst S d_Mo_onArrays_19 (v := (1 : Int32)) (by decide) ?_
    refine v_bipush S d_Mo_onArrays_20 (v := (16 : Int32)) (by decide) ?_
    refine v_aload_n S d_Mo_onArrays_22 rfl rfl ?_
    refine v_get S (fun w h => List.mem_cons_of_mem _ (i_Mo w h)) hKK.1 0 (by decide) rfl rfl 22 (by decide) (S.2.2.2.2 _ (List.mem_cons_of_mem _ (wd_763))) (fun _ h => h) rfl d_Mo_onArrays_23 ?_
    refine v_imul S d_Mo_onArrays_26 ?_
    refine v_iadd S d_Mo_onArrays_27 ?_
    refine v_iload_n S d_Mo_onArrays_28 rfl rfl ?_
    refine v_iadd S d_Mo_onArrays_29 ?_
    refine v_cv (rest := []) (fun _ hg H locs ls hsz hP hS => run_V (As := [.int (2 : Int32), .int (((1 : Int32) + ((16 : Int32) * (σ31 0 22))) + r30)]) (rest := []) S kM_ok hKK (c_Mo_put l D ca ax b σ31 (2 : Int32) (((1 : Int32) + ((16 : Int32) * (σ31 0 22))) + r30) hg) (k_Mo_151 S.2.2.2.2 (fun _ => List.mem_cons_of_mem _) ⟨Nat.le_of_ble_eq_true rfl, Nat.le_of_ble_eq_true rfl⟩) (rc_w hKK.1 hP 0 (by decide) rfl rfl) rfl rfl (Nat.zero_le _) d_Mo_onArrays_30 hsz hP hS) (fun σ32 _ => ?_)
    refine v_iconst S d_Mo_onArrays_33 (v := (0 : Int32)) (by decide) ?_
    refine v_istore_nP S d_Mo_onArrays_34 rfl (by decide) (L2 := [some (.ref (b + 0)), some (.int a0), some (.int r30), some (.int (0 : Int32))]) rfl ?_
    refine v_sub (L2 := [some (.ref (b + 0)), none, some (.int r30), some (.int (0 : Int32))]) (And.intro rfl (And.intro rfl (And.intro rfl True.intro))) ?_
    exact C35 fuel0 σ32 r30 (0 : Int32)
def fn_Mo_onPlaces (σ : mm_M) (a0 : Int32) (a1 : Int32) : Option (mm_M) :=
    (nm ((12 : Int32) * ((σ 0 16) - (1 : Int32))) (fun x1 =>
    (if (((σ 0 16) - (1 : Int32)) < 0 ∨ 8 ≤ ((σ 0 16) - (1 : Int32)).toNatClampNeg) then none else
    (nm ((x1 + (5 : Int32)) + (σ 13 ((σ 0 16) - (1 : Int32)).toNatClampNeg)) (fun x3 =>
    (if a0 = (5 : Int32) then
    (if ((x1 + a1) < 0 ∨ 96 ≤ (x1 + a1).toNatClampNeg) then none else
    (if ((x1 + a1) < 0 ∨ 96 ≤ (x1 + a1).toNatClampNeg) then none else
    (bv (fn_Mo_put σ (σ 15 (x1 + a1).toNatClampNeg) (σ 14 (x1 + a1).toNatClampNeg)) (fun σ35 =>
    (some σ35)))))
    else
    (if a0 = (6 : Int32) then
    (if (x3 < 0 ∨ 96 ≤ x3.toNatClampNeg) then none else
    (if ((x1 + a1) < 0 ∨ 96 ≤ (x1 + a1).toNatClampNeg) then none else (nm (mw σ 15 (x1 + a1).toNatClampNeg (σ 15 x3.toNatClampNeg)) (fun σ28 =>
    (if (x3 < 0 ∨ 96 ≤ x3.toNatClampNeg) then none else
    (if ((x1 + a1) < 0 ∨ 96 ≤ (x1 + a1).toNatClampNeg) then none else (nm (mw σ28 14 (x1 + a1).toNatClampNeg (σ28 14 x3.toNatClampNeg)) (fun σ31 =>
    (bv (fn_Mo_drop σ31 (1 : Int32)) (fun σ32 =>
    (some σ32)))))))))))
    else
    (if a0 = (15 : Int32) then
    (if (x3 < 0 ∨ 96 ≤ x3.toNatClampNeg) then none else
    (if (x3 < 0 ∨ 96 ≤ x3.toNatClampNeg) then none else
    (bv (fn_Mo_put σ (σ 15 x3.toNatClampNeg) (σ 14 x3.toNatClampNeg)) (fun σ25 =>
    (some σ25)))))
    else
    (if a0 = (16 : Int32) then
    (if (x3 < 0 ∨ 96 ≤ x3.toNatClampNeg) then none else
    (nm (σ 15 x3.toNatClampNeg) (fun x10 =>
    (if (x3 < 0 ∨ 96 ≤ x3.toNatClampNeg) then none else
    (nm (σ 14 x3.toNatClampNeg) (fun x12 =>
    (if ((x3 - (1 : Int32)) < 0 ∨ 96 ≤ (x3 - (1 : Int32)).toNatClampNeg) then none else
    (if (x3 < 0 ∨ 96 ≤ x3.toNatClampNeg) then none else (nm (mw σ 15 x3.toNatClampNeg (σ 15 (x3 - (1 : Int32)).toNatClampNeg)) (fun σ15 =>
    (if ((x3 - (1 : Int32)) < 0 ∨ 96 ≤ (x3 - (1 : Int32)).toNatClampNeg) then none else
    (if (x3 < 0 ∨ 96 ≤ x3.toNatClampNeg) then none else (nm (mw σ15 14 x3.toNatClampNeg (σ15 14 (x3 - (1 : Int32)).toNatClampNeg)) (fun σ18 =>
    (if ((x3 - (1 : Int32)) < 0 ∨ 96 ≤ (x3 - (1 : Int32)).toNatClampNeg) then none else (nm (mw σ18 15 (x3 - (1 : Int32)).toNatClampNeg x10) (fun σ20 =>
    (if ((x3 - (1 : Int32)) < 0 ∨ 96 ≤ (x3 - (1 : Int32)).toNatClampNeg) then none else (nm (mw σ20 14 (x3 - (1 : Int32)).toNatClampNeg x12) (fun σ22 =>
    (some σ22)))))))))))))))))))))
    else
    (bv (fn_Mo_drop σ (1 : Int32)) (fun σ8 =>
    (some σ8))))))))))))
set_option maxRecDepth 100000 in
set_option maxHeartbeats 40000000 in
theorem c_Mo_onPlaces (l : Launch) (D : va_G) (ca : Nat → ClassId) (ax : Nat → Nat → Nat) (b : Nat) (σ : mm_M) (a0 : Int32) (a1 : Int32)  {σ' : mm_M} (hf : fn_Mo_onPlaces σ a0 a1 = some σ') : Met l y_Mo_onPlaces w_Mo_onPlaces rm_Mo_onPlaces (pc_w D cls b N_M (ce_M ca b) (kM D ca ax b) [.ref (b + 0), .int a0, .int a1] σ) (qc_v D cls b N_M (ce_M ca b) σ') 0 0 (mm_A b N_M) := by
  refine vv_go (cc := b_Mo_onPlaces) (maxL := 7) (ret := none) (fin := σ') (k := fn_Mo_onPlaces σ a0 a1) (by decide) rfl (by simp [Value.category]) (Nat.le_of_ble_eq_true rfl) hf ?_
  intro p e s m below meth c hlocks hret S hKK
  unfold fn_Mo_onPlaces
  refine v_bipush S d_Mo_onPlaces_0 (v := (12 : Int32)) (by decide) ?_
  refine v_aload_n S d_Mo_onPlaces_2 rfl rfl ?_
  refine v_get S (fun w h => List.mem_cons_of_mem _ (i_Mo w h)) hKK.1 0 (by decide) rfl rfl 16 (by decide) (S.2.2.2.2 _ (List.mem_cons_of_mem _ (wd_757))) (fun _ h => h) rfl d_Mo_onPlaces_3 ?_
  refine v_iconst S d_Mo_onPlaces_6 (v := (1 : Int32)) (by decide) ?_
  refine v_isub S d_Mo_onPlaces_7 ?_
  refine v_imul S d_Mo_onPlaces_8 ?_
  refine v_top (fun x1 ex1 => ?_)
  refine v_istore_nP S d_Mo_onPlaces_9 rfl (by decide) (L2 := [some (.ref (b + 0)), some (.int a0), some (.int a1), some (.int x1)]) rfl ?_
  refine v_iload_n S d_Mo_onPlaces_10 rfl rfl ?_
  refine v_iconst S d_Mo_onPlaces_11 (v := (5 : Int32)) (by decide) ?_
  refine v_iadd S d_Mo_onPlaces_12 ?_
  refine v_aload_n S d_Mo_onPlaces_13 rfl rfl ?_
  refine v_get S (fun w h => List.mem_cons_of_mem _ (i_Mo w h)) hKK.1 0 (by decide) rfl rfl 19 (by decide) (S.2.2.2.2 _ (List.mem_cons_of_mem _ (wd_760))) (fun _ h => h) rfl d_Mo_onPlaces_14 ?_
  refine v_aload_n S d_Mo_onPlaces_17 rfl rfl ?_
  refine v_get S (fun w h => List.mem_cons_of_mem _ (i_Mo w h)) hKK.1 0 (by decide) rfl rfl 16 (by decide) (S.2.2.2.2 _ (List.mem_cons_of_mem _ (wd_757))) (fun _ h => h) rfl d_Mo_onPlaces_18 ?_
  refine v_iconst S d_Mo_onPlaces_21 (v := (1 : Int32)) (by decide) ?_
  refine v_isub S d_Mo_onPlaces_22 ?_
  refine v_iald S hKK.1 13 0 (by decide) rfl rfl d_Mo_onPlaces_23 (fun h2 => ?_)
  refine v_iadd S d_Mo_onPlaces_24 ?_
  refine v_top (fun x3 ex3 => ?_)
  refine v_istoreP S d_Mo_onPlaces_25 (by decide) (L2 := [some (.ref (b + 0)), some (.int a0), some (.int a1), some (.int x1), some (.int x3)]) rfl ?_
  refine v_iload_n S d_Mo_onPlaces_27 rfl rfl ?_
  refine v_iconst S d_Mo_onPlaces_28 (v := (5 : Int32)) (by decide) ?_
  refine v_icmp_ne S d_Mo_onPlaces_29 (tgt := 55) (by decide) (fun h4 => ?_) (fun h4 => ?_)
  · refine v_iload_n S d_Mo_onPlaces_55 rfl rfl ?_
    refine v_bipush S d_Mo_onPlaces_56 (v := (6 : Int32)) (by decide) ?_
    refine v_icmp_ne S d_Mo_onPlaces_58 (tgt := 99) (by decide) (fun h5 => ?_) (fun h5 => ?_)
    · refine v_iload_n S d_Mo_onPlaces_99 rfl rfl ?_
      refine v_bipush S d_Mo_onPlaces_100 (v := (15 : Int32)) (by decide) ?_
      refine v_icmp_ne S d_Mo_onPlaces_102 (tgt := 126) (by decide) (fun h6 => ?_) (fun h6 => ?_)
      · refine v_iload_n S d_Mo_onPlaces_126 rfl rfl ?_
        refine v_bipush S d_Mo_onPlaces_127 (v := (16 : Int32)) (by decide) ?_
        refine v_icmp_ne S d_Mo_onPlaces_129 (tgt := 207) (by decide) (fun h7 => ?_) (fun h7 => ?_)
        · refine v_aload_n S d_Mo_onPlaces_207 rfl rfl ?_
          refine v_iconst S d_Mo_onPlaces_208 (v := (1 : Int32)) (by decide) ?_
          refine v_cv (rest := []) (fun _ hg H locs ls hsz hP hS => run_V (As := [.int (1 : Int32)]) (rest := []) S kM_ok hKK (c_Mo_drop l D ca ax b σ (1 : Int32) hg) (k_Mo_148 S.2.2.2.2 (fun _ => List.mem_cons_of_mem _) ⟨Nat.le_of_ble_eq_true rfl, Nat.le_of_ble_eq_true rfl⟩) (rc_w hKK.1 hP 0 (by decide) rfl rfl) rfl rfl (Nat.zero_le _) d_Mo_onPlaces_209 hsz hP hS) (fun σ8 _ => ?_)
          exact v_vret S hret hlocks d_Mo_onPlaces_212
        · refine v_aload_n S d_Mo_onPlaces_132 rfl rfl ?_
          refine v_get S (fun w h => List.mem_cons_of_mem _ (i_Mo w h)) hKK.1 0 (by decide) rfl rfl 21 (by decide) (S.2.2.2.2 _ (List.mem_cons_of_mem _ (wd_762))) (fun _ h => h) rfl d_Mo_onPlaces_133 ?_
          refine v_iload S d_Mo_onPlaces_136 rfl ?_
          refine v_iald S hKK.1 15 0 (by decide) rfl rfl d_Mo_onPlaces_138 (fun h9 => ?_)
          refine v_top (fun x10 ex10 => ?_)
          refine v_istoreP S d_Mo_onPlaces_139 (by decide) (L2 := [some (.ref (b + 0)), some (.int a0), some (.int a1), some (.int x1), some (.int x3), some (.int x10)]) rfl ?_
          refine v_aload_n S d_Mo_onPlaces_141 rfl rfl ?_
          refine v_get S (fun w h => List.mem_cons_of_mem _ (i_Mo w h)) hKK.1 0 (by decide) rfl rfl 20 (by decide) (S.2.2.2.2 _ (List.mem_cons_of_mem _ (wd_761))) (fun _ h => h) rfl d_Mo_onPlaces_142 ?_
          refine v_iload S d_Mo_onPlaces_145 rfl ?_
          refine v_iald S hKK.1 14 0 (by decide) rfl rfl d_Mo_onPlaces_147 (fun h11 => ?_)
          refine v_top (fun x12 ex12 => ?_)
          refine v_istoreP S d_Mo_onPlaces_148 (by decide) (L2 := [some (.ref (b + 0)), some (.int a0), some (.int a1), some (.int x1), some (.int x3), some (.int x10), some (.int x12)]) rfl ?_
          refine v_aload_n S d_Mo_onPlaces_150 rfl rfl ?_
          refine v_get S (fun w h => List.mem_cons_of_mem _ (i_Mo w h)) hKK.1 0 (by decide) rfl rfl 21 (by decide) (S.2.2.2.2 _ (List.mem_cons_of_mem _ (wd_762))) (fun _ h => h) rfl d_Mo_onPlaces_151 ?_
          refine v_iload S d_Mo_onPlaces_154 rfl ?_
          refine v_aload_n S d_Mo_onPlaces_156 rfl rfl ?_
          refine v_get S (fun w h => List.mem_cons_of_mem _ (i_Mo w h)) hKK.1 0 (by decide) rfl rfl 21 (by decide) (S.2.2.2.2 _ (List.mem_cons_of_mem _ (wd_762))) (fun _ h => h) rfl d_Mo_onPlaces_157 ?_
          refine v_iload S d_Mo_onPlaces_160 rfl ?_
          refine v_iconst S d_Mo_onPlaces_162 (v := (1 : Int32)) (by decide) ?_
          refine v_isub S d_Mo_onPlaces_163 ?_
          refine v_iald S hKK.1 15 0 (by decide) rfl rfl d_Mo_onPlaces_164 (fun h13 => ?_)
          refine v_iast1 S hKK.1 15 0 (by decide) (fun _ => rfl) rfl d_Mo_onPlaces_165 (fun h14 => ?_)
          refine v_sg (fun σ15 eσ15 => ?_)
          refine v_aload_n S d_Mo_onPlaces_166 rfl rfl ?_
          refine v_get S (fun w h => List.mem_cons_of_mem _ (i_Mo w h)) hKK.1 0 (by decide) rfl rfl 20 (by decide) (S.2.2.2.2 _ (List.mem_cons_of_mem _ (wd_761))) (fun _ h => h) rfl d_Mo_onPlaces_167 ?_
          refine v_iload S d_Mo_onPlaces_170 rfl ?_
          refine v_aload_n S d_Mo_onPlaces_172 rfl rfl ?_
          refine v_get S (fun w h => List.mem_cons_of_mem _ (i_Mo w h)) hKK.1 0 (by decide) rfl rfl 20 (by decide) (S.2.2.2.2 _ (List.mem_cons_of_mem _ (wd_761))) (fun _ h => h) rfl d_Mo_onPlaces_173 ?_
          refine v_iload S d_Mo_onPlaces_176 rfl ?_
          refine v_iconst S d_Mo_onPlaces_178 (v := (1 : Int32)) (by decide) ?_
          refine v_isub S d_Mo_onPlaces_179 ?_
          refine v_iald S hKK.1 14 0 (by decide) rfl rfl d_Mo_onPlaces_180 (fun h16 => ?_)
          refine v_iast1 S hKK.1 14 0 (by decide) (fun _ => rfl) rfl d_Mo_onPlaces_181 (fun h17 => ?_)
          refine v_sg (fun σ18 eσ18 => ?_)
          refine v_aload_n S d_Mo_onPlaces_182 rfl rfl ?_
          refine v_get S (fun w h => List.mem_cons_of_mem _ (i_Mo w h)) hKK.1 0 (by decide) rfl rfl 21 (by decide) (S.2.2.2.2 _ (List.mem_cons_of_mem _ (wd_762))) (fun _ h => h) rfl d_Mo_onPlaces_183 ?_
          refine v_iload S d_Mo_onPlaces_186 rfl ?_
          refine v_iconst S d_Mo_onPlaces_188 (v := (1 : Int32)) (by decide) ?_
          refine v_isub S d_Mo_onPlaces_189 ?_
          refine v_iload S d_Mo_onPlaces_190 rfl ?_
          refine v_iast1 S hKK.1 15 0 (by decide) (fun _ => rfl) rfl d_Mo_onPlaces_192 (fun h19 => ?_)
          refine v_sg (fun σ20 eσ20 => ?_)
          refine v_aload_n S d_Mo_onPlaces_193 rfl rfl ?_
          refine v_get S (fun w h => List.mem_cons_of_mem _ (i_Mo w h)) hKK.1 0 (by decide) rfl rfl 20 (by decide) (S.2.2.2.2 _ (List.mem_cons_of_mem _ (wd_761))) (fun _ h => h) rfl d_Mo_onPlaces_194 ?_
          refine v_iload S d_Mo_onPlaces_197 rfl ?_
          refine v_iconst S d_Mo_onPlaces_199 (v := (1 : Int32)) (by decide) ?_
          refine v_isub S d_Mo_onPlaces_200 ?_
          refine v_iload S d_Mo_onPlaces_201 rfl ?_
          refine v_iast1 S hKK.1 14 0 (by decide) (fun _ => rfl) rfl d_Mo_onPlaces_203 (fun h21 => ?_)
          refine v_sg (fun σ22 eσ22 => ?_)
          refine v_goto S d_Mo_onPlaces_204 (tgt := 212) (by decide) ?_
          exact v_vret S hret hlocks d_Mo_onPlaces_212
      · refine v_aload_n S d_Mo_onPlaces_105 rfl rfl ?_
        refine v_aload_n S d_Mo_onPlaces_106 rfl rfl ?_
        refine v_get S (fun w h => List.mem_cons_of_mem _ (i_Mo w h)) hKK.1 0 (by decide) rfl rfl 21 (by decide) (S.2.2.2.2 _ (List.mem_cons_of_mem _ (wd_762))) (fun _ h => h) rfl d_Mo_onPlaces_107 ?_
        refine v_iload S d_Mo_onPlaces_110 rfl ?_
        refine v_iald S hKK.1 15 0 (by decide) rfl rfl d_Mo_onPlaces_112 (fun h23 => ?_)
        refine v_aload_n S d_Mo_onPlaces_113 rfl rfl ?_
        refine v_get S (fun w h => List.mem_cons_of_mem _ (i_Mo w h)) hKK.1 0 (by decide) rfl rfl 20 (by decide) (S.2.2.2.2 _ (List.mem_cons_of_mem _ (wd_761))) (fun _ h => h) rfl d_Mo_onPlaces_114 ?_
        refine v_iload S d_Mo_onPlaces_117 rfl ?_
        refine v_iald S hKK.1 14 0 (by decide) rfl rfl d_Mo_onPlaces_119 (fun h24 => ?_)
        refine v_cv (rest := []) (fun _ hg H locs ls hsz hP hS => run_V (As := [.int (σ 15 x3.toNatClampNeg), .int (σ 14 x3.toNatClampNeg)]) (rest := []) S kM_ok hKK (c_Mo_put l D ca ax b σ (σ 15 x3.toNatClampNeg) (σ 14 x3.toNatClampNeg) hg) (k_Mo_151 S.2.2.2.2 (fun _ => List.mem_cons_of_mem _) ⟨Nat.le_of_ble_eq_true rfl, Nat.le_of_ble_eq_true rfl⟩) (rc_w hKK.1 hP 0 (by decide) rfl rfl) rfl rfl (Nat.zero_le _) d_Mo_onPlaces_120 hsz hP hS) (fun σ25 _ => ?_)
        refine v_goto S d_Mo_onPlaces_123 (tgt := 212) (by decide) ?_
        exact v_vret S hret hlocks d_Mo_onPlaces_212
    · refine v_aload_n S d_Mo_onPlaces_61 rfl rfl ?_
      refine v_get S (fun w h => List.mem_cons_of_mem _ (i_Mo w h)) hKK.1 0 (by decide) rfl rfl 21 (by decide) (S.2.2.2.2 _ (List.mem_cons_of_mem _ (wd_762))) (fun _ h => h) rfl d_Mo_onPlaces_62 ?_
      refine v_iload_n S d_Mo_onPlaces_65 rfl rfl ?_
      refine v_iload_n S d_Mo_onPlaces_66 rfl rfl ?_
      refine v_iadd S d_Mo_onPlaces_67 ?_
      refine v_aload_n S d_Mo_onPlaces_68 rfl rfl ?_
      refine v_get S (fun w h => List.mem_cons_of_mem _ (i_Mo w h)) hKK.1 0 (by decide) rfl rfl 21 (by decide) (S.2.2.2.2 _ (List.mem_cons_of_mem _ (wd_762))) (fun _ h => h) rfl d_Mo_onPlaces_69 ?_
      refine v_iload S d_Mo_onPlaces_72 rfl ?_
      refine v_iald S hKK.1 15 0 (by decide) rfl rfl d_Mo_onPlaces_74 (fun h26 => ?_)
      refine v_iast1 S hKK.1 15 0 (by decide) (fun _ => rfl) rfl d_Mo_onPlaces_75 (fun h27 => ?_)
      refine v_sg (fun σ28 eσ28 => ?_)
      refine v_aload_n S d_Mo_onPlaces_76 rfl rfl ?_
      refine v_get S (fun w h => List.mem_cons_of_mem _ (i_Mo w h)) hKK.1 0 (by decide) rfl rfl 20 (by decide) (S.2.2.2.2 _ (List.mem_cons_of_mem _ (wd_761))) (fun _ h => h) rfl d_Mo_onPlaces_77 ?_
      refine v_iload_n S d_Mo_onPlaces_80 rfl rfl ?_
      refine v_iload_n S d_Mo_onPlaces_81 rfl rfl ?_
      refine v_iadd S d_Mo_onPlaces_82 ?_
      refine v_aload_n S d_Mo_onPlaces_83 rfl rfl ?_
      refine v_get S (fun w h => List.mem_cons_of_mem _ (i_Mo w h)) hKK.1 0 (by decide) rfl rfl 20 (by decide) (S.2.2.2.2 _ (List.mem_cons_of_mem _ (wd_761))) (fun _ h => h) rfl d_Mo_onPlaces_84 ?_
      refine v_iload S d_Mo_onPlaces_87 rfl ?_
      refine v_iald S hKK.1 14 0 (by decide) rfl rfl d_Mo_onPlaces_89 (fun h29 => ?_)
      refine v_iast1 S hKK.1 14 0 (by decide) (fun _ => rfl) rfl d_Mo_onPlaces_90 (fun h30 => ?_)
      refine v_sg (fun σ31 eσ31 => ?_)
      refine v_aload_n S d_Mo_onPlaces_91 rfl rfl ?_
      refine v_iconst S d_Mo_onPlaces_92 (v := (1 : Int32)) (by decide) ?_
      refine v_cv (rest := []) (fun _ hg H locs ls hsz hP hS => run_V (As := [.int (1 : Int32)]) (rest := []) S kM_ok hKK (c_Mo_drop l D ca ax b σ31 (1 : Int32) hg) (k_Mo_148 S.2.2.2.2 (fun _ => List.mem_cons_of_mem _) ⟨Nat.le_of_ble_eq_true rfl, Nat.le_of_ble_eq_true rfl⟩) (rc_w hKK.1 hP 0 (by decide) rfl rfl) rfl rfl (Nat.zero_le _) d_Mo_onPlaces_93 hsz hP hS) (fun σ32 _ => ?_)
      refine v_goto S d_Mo_onPlaces_96 (tgt := 212) (by decide) ?_
      exact v_vret S hret hlocks d_Mo_onPlaces_212
  · refine v_aload_n S d_Mo_onPlaces_32 rfl rfl ?_
    refine v_aload_n S d_Mo_onPlaces_33 rfl rfl ?_
    refine v_get S (fun w h => List.mem_cons_of_mem _ (i_Mo w h)) hKK.1 0 (by decide) rfl rfl 21 (by decide) (S.2.2.2.2 _ (List.mem_cons_of_mem _ (wd_762))) (fun _ h => h) rfl d_Mo_onPlaces_34 ?_
    refine v_iload_n S d_Mo_onPlaces_37 rfl rfl ?_
    refine v_iload_n S d_Mo_onPlaces_38 rfl rfl ?_
    refine v_iadd S d_Mo_onPlaces_39 ?_
    refine v_iald S hKK.1 15 0 (by decide) rfl rfl d_Mo_onPlaces_40 (fun h33 => ?_)
    refine v_aload_n S d_Mo_onPlaces_41 rfl rfl ?_
    refine v_get S (fun w h => List.mem_cons_of_mem _ (i_Mo w h)) hKK.1 0 (by decide) rfl rfl 20 (by decide) (S.2.2.2.2 _ (List.mem_cons_of_mem _ (wd_761))) (fun _ h => h) rfl d_Mo_onPlaces_42 ?_
    refine v_iload_n S d_Mo_onPlaces_45 rfl rfl ?_
    refine v_iload_n S d_Mo_onPlaces_46 rfl rfl ?_
    refine v_iadd S d_Mo_onPlaces_47 ?_
    refine v_iald S hKK.1 14 0 (by decide) rfl rfl d_Mo_onPlaces_48 (fun h34 => ?_)
    refine v_cv (rest := []) (fun _ hg H locs ls hsz hP hS => run_V (As := [.int (σ 15 (x1 + a1).toNatClampNeg), .int (σ 14 (x1 + a1).toNatClampNeg)]) (rest := []) S kM_ok hKK (c_Mo_put l D ca ax b σ (σ 15 (x1 + a1).toNatClampNeg) (σ 14 (x1 + a1).toNatClampNeg) hg) (k_Mo_151 S.2.2.2.2 (fun _ => List.mem_cons_of_mem _) ⟨Nat.le_of_ble_eq_true rfl, Nat.le_of_ble_eq_true rfl⟩) (rc_w hKK.1 hP 0 (by decide) rfl rfl) rfl rfl (Nat.zero_le _) d_Mo_onPlaces_49 hsz hP hS) (fun σ35 _ => ?_)
    refine v_goto S d_Mo_onPlaces_52 (tgt := 212) (by decide) ?_
    exact v_vret S hret hlocks d_Mo_onPlaces_212
def fn_Mo_call_40 (a0 : Int32) : Nat → mm_M → Int32 → Int32 → Int32 → Option (mm_M)
  | 0, _, _, _, _ => none
  | n + 1, σ, l2, l3, l4 =>
    (if (a0 < 0 ∨ 4 ≤ a0.toNatClampNeg) then none else
    (if (σ 5 a0.toNatClampNeg) ≤ l4 then
    (some σ)
    else
    (if ((l3 + l4) < 0 ∨ 96 ≤ (l3 + l4).toNatClampNeg) then none else
    (if ((((12 : Int32) * (l2 + (1 : Int32))) + l4) < 0 ∨ 96 ≤ (((12 : Int32) * (l2 + (1 : Int32))) + l4).toNatClampNeg) then none else (nm (mw σ 15 (((12 : Int32) * (l2 + (1 : Int32))) + l4).toNatClampNeg (σ 15 (l3 + l4).toNatClampNeg)) (fun σ11 =>
    (if ((l3 + l4) < 0 ∨ 96 ≤ (l3 + l4).toNatClampNeg) then none else
    (if ((((12 : Int32) * (l2 + (1 : Int32))) + l4) < 0 ∨ 96 ≤ (((12 : Int32) * (l2 + (1 : Int32))) + l4).toNatClampNeg) then none else (nm (mw σ11 14 (((12 : Int32) * (l2 + (1 : Int32))) + l4).toNatClampNeg (σ11 14 (l3 + l4).toNatClampNeg)) (fun σ14 =>
    (fn_Mo_call_40 a0 n σ14 l2 l3 (l4 + (1 : Int32)))))))))))))
def fn_Mo_call (σ : mm_M) (a0 : Int32) : Option (mm_M) :=
    (nm ((σ 0 16) - (1 : Int32)) (fun x1 =>
    (if (a0 < 0 ∨ 4 ≤ a0.toNatClampNeg) then none else
    (bv (fn_Mo_drop σ (σ 5 a0.toNatClampNeg)) (fun σ3 =>
    (if (x1 < 0 ∨ 8 ≤ x1.toNatClampNeg) then none else
    (nm ((((12 : Int32) * x1) + (6 : Int32)) + (σ3 13 x1.toNatClampNeg)) (fun x5 =>
    (bv (fn_Mo_enter σ3 a0) (fun σ6 =>
    (fn_Mo_call_40 a0 fuel0 σ6 x1 x5 (0 : Int32))))))))))))
set_option maxRecDepth 100000 in
set_option maxHeartbeats 40000000 in
theorem c_Mo_call (l : Launch) (D : va_G) (ca : Nat → ClassId) (ax : Nat → Nat → Nat) (b : Nat) (σ : mm_M) (a0 : Int32)  {σ' : mm_M} (hf : fn_Mo_call σ a0 = some σ') : Met l y_Mo_call w_Mo_call rm_Mo_call (pc_w D cls b N_M (ce_M ca b) (kM D ca ax b) [.ref (b + 0), .int a0] σ) (qc_v D cls b N_M (ce_M ca b) σ') 0 0 (mm_A b N_M) := by
  refine vv_go (cc := b_Mo_call) (maxL := 5) (ret := none) (fin := σ') (k := fn_Mo_call σ a0) (by decide) rfl (by simp [Value.category]) (Nat.le_of_ble_eq_true rfl) hf ?_
  intro p e s m below meth c hlocks hret S hKK
  have C40 : ∀ (n : Nat) (σ : mm_M) (l2 : Int32) (l3 : Int32) (l4 : Int32), vv p l e (headSpec w_Mo_call rm_Mo_call).room s m [.ref (b + 0), .int a0].toArray below meth c D cls b N_M (ce_M ca b) 5 (MQ below (qc_v D cls b N_M (ce_M ca b) σ') [.ref (b + 0), .int a0].toArray s 0 0 (mm_A b N_M)) σ' (fn_Mo_call_40 a0 n σ l2 l3 l4) σ 40 [some (.ref (b + 0)), some (.int a0), some (.int l2), some (.int l3), some (.int l4)] [] := by
    intro n
    induction n with
    | zero => intro σ l2 l3 l4  h; cases h
    | succ n ih =>
      intro σ l2 l3 l4
      show vv p l e (headSpec w_Mo_call rm_Mo_call).room s m [.ref (b + 0), .int a0].toArray below meth c D cls b N_M (ce_M ca b) 5 (MQ below (qc_v D cls b N_M (ce_M ca b) σ') [.ref (b + 0), .int a0].toArray s 0 0 (mm_A b N_M)) σ' (        (if (a0 < 0 ∨ 4 ≤ a0.toNatClampNeg) then none else
        (if (σ 5 a0.toNatClampNeg) ≤ l4 then
        (some σ)
        else
        (if ((l3 + l4) < 0 ∨ 96 ≤ (l3 + l4).toNatClampNeg) then none else
        (if ((((12 : Int32) * (l2 + (1 : Int32))) + l4) < 0 ∨ 96 ≤ (((12 : Int32) * (l2 + (1 : Int32))) + l4).toNatClampNeg) then none else (nm (mw σ 15 (((12 : Int32) * (l2 + (1 : Int32))) + l4).toNatClampNeg (σ 15 (l3 + l4).toNatClampNeg)) (fun σ11 =>
        (if ((l3 + l4) < 0 ∨ 96 ≤ (l3 + l4).toNatClampNeg) then none else
        (if ((((12 : Int32) * (l2 + (1 : Int32))) + l4) < 0 ∨ 96 ≤ (((12 : Int32) * (l2 + (1 : Int32))) + l4).toNatClampNeg) then none else (nm (mw σ11 14 (((12 : Int32) * (l2 + (1 : Int32))) + l4).toNatClampNeg (σ11 14 (l3 + l4).toNatClampNeg)) (fun σ14 =>
        (fn_Mo_call_40 a0 n σ14 l2 l3 (l4 + (1 : Int32)))))))))))))) σ 40 [some (.ref (b + 0)), some (.int a0), some (.int l2), some (.int l3), some (.int l4)] []
      refine v_iload S d_Mo_call_40 rfl ?_
      refine v_aload_n S d_Mo_call_42 rfl rfl ?_
      refine v_get S (fun w h => List.mem_cons_of_mem _ (i_Mo w h)) hKK.1 0 (by decide) rfl rfl 5 (by decide) (S.2.2.2.2 _ (List.mem_cons_of_mem _ (wd_746))) (fun _ h => h) rfl d_Mo_call_43 ?_
      refine v_iload_n S d_Mo_call_46 rfl rfl ?_
      refine v_iald S hKK.1 5 0 (by decide) rfl rfl d_Mo_call_47 (fun h7 => ?_)
      refine v_icmp_ge S d_Mo_call_48 (tgt := 103) (by decide) (fun h8 => ?_) (fun h8 => ?_)
      · exact v_vret S hret hlocks d_Mo_call_103
      · refine v_aload_n S d_Mo_call_51 rfl rfl ?_
        refine v_get S (fun w h => List.mem_cons_of_mem _ (i_Mo w h)) hKK.1 0 (by decide) rfl rfl 21 (by decide) (S.2.2.2.2 _ (List.mem_cons_of_mem _ (wd_762))) (fun _ h => h) rfl d_Mo_call_52 ?_
        refine v_bipush S d_Mo_call_55 (v := (12 : Int32)) (by decide) ?_
        refine v_iload_n S d_Mo_call_57 rfl rfl ?_
        refine v_iconst S d_Mo_call_58 (v := (1 : Int32)) (by decide) ?_
        refine v_iadd S d_Mo_call_59 ?_
        refine v_imul S d_Mo_call_60 ?_
        refine v_iload S d_Mo_call_61 rfl ?_
        refine v_iadd S d_Mo_call_63 ?_
        refine v_aload_n S d_Mo_call_64 rfl rfl ?_
        refine v_get S (fun w h => List.mem_cons_of_mem _ (i_Mo w h)) hKK.1 0 (by decide) rfl rfl 21 (by decide) (S.2.2.2.2 _ (List.mem_cons_of_mem _ (wd_762))) (fun _ h => h) rfl d_Mo_call_65 ?_
        refine v_iload_n S d_Mo_call_68 rfl rfl ?_
        refine v_iload S d_Mo_call_69 rfl ?_
        refine v_iadd S d_Mo_call_71 ?_
        refine v_iald S hKK.1 15 0 (by decide) rfl rfl d_Mo_call_72 (fun h9 => ?_)
        refine v_iast1 S hKK.1 15 0 (by decide) (fun _ => rfl) rfl d_Mo_call_73 (fun h10 => ?_)
        refine v_sg (fun σ11 eσ11 => ?_)
        refine v_aload_n S d_Mo_call_74 rfl rfl ?_
        refine v_get S (fun w h => List.mem_cons_of_mem _ (i_Mo w h)) hKK.1 0 (by decide) rfl rfl 20 (by decide) (S.2.2.2.2 _ (List.mem_cons_of_mem _ (wd_761))) (fun _ h => h) rfl d_Mo_call_75 ?_
        refine v_bipush S d_Mo_call_78 (v := (12 : Int32)) (by decide) ?_
        refine v_iload_n S d_Mo_call_80 rfl rfl ?_
        refine v_iconst S d_Mo_call_81 (v := (1 : Int32)) (by decide) ?_
        refine v_iadd S d_Mo_call_82 ?_
        refine v_imul S d_Mo_call_83 ?_
        refine v_iload S d_Mo_call_84 rfl ?_
        refine v_iadd S d_Mo_call_86 ?_
        refine v_aload_n S d_Mo_call_87 rfl rfl ?_
        refine v_get S (fun w h => List.mem_cons_of_mem _ (i_Mo w h)) hKK.1 0 (by decide) rfl rfl 20 (by decide) (S.2.2.2.2 _ (List.mem_cons_of_mem _ (wd_761))) (fun _ h => h) rfl d_Mo_call_88 ?_
        refine v_iload_n S d_Mo_call_91 rfl rfl ?_
        refine v_iload S d_Mo_call_92 rfl ?_
        refine v_iadd S d_Mo_call_94 ?_
        refine v_iald S hKK.1 14 0 (by decide) rfl rfl d_Mo_call_95 (fun h12 => ?_)
        refine v_iast1 S hKK.1 14 0 (by decide) (fun _ => rfl) rfl d_Mo_call_96 (fun h13 => ?_)
        refine v_sg (fun σ14 eσ14 => ?_)
        refine v_iinc S d_Mo_call_97 rfl (v := (l4 + (1 : Int32))) (by first | rfl | decide) (by decide) (L2 := [some (.ref (b + 0)), some (.int a0), some (.int l2), some (.int l3), some (.int (l4 + (1 : Int32)))]) rfl ?_
        refine v_goto S d_Mo_call_100 (tgt := 40) (by decide) ?_
        refine v_sub (L2 := [some (.ref (b + 0)), some (.int a0), some (.int l2), some (.int l3), some (.int (l4 + (1 : Int32)))]) (And.intro rfl (And.intro rfl (And.intro rfl (And.intro rfl (And.intro rfl True.intro))))) ?_
        exact ih σ14 l2 l3 (l4 + (1 : Int32))
  unfold fn_Mo_call
  refine v_aload_n S d_Mo_call_0 rfl rfl ?_
  refine v_get S (fun w h => List.mem_cons_of_mem _ (i_Mo w h)) hKK.1 0 (by decide) rfl rfl 16 (by decide) (S.2.2.2.2 _ (List.mem_cons_of_mem _ (wd_757))) (fun _ h => h) rfl d_Mo_call_1 ?_
  refine v_iconst S d_Mo_call_4 (v := (1 : Int32)) (by decide) ?_
  refine v_isub S d_Mo_call_5 ?_
  refine v_top (fun x1 ex1 => ?_)
  refine v_istore_nP S d_Mo_call_6 rfl (by decide) (L2 := [some (.ref (b + 0)), some (.int a0), some (.int x1)]) rfl ?_
  refine v_aload_n S d_Mo_call_7 rfl rfl ?_
  refine v_aload_n S d_Mo_call_8 rfl rfl ?_
  refine v_get S (fun w h => List.mem_cons_of_mem _ (i_Mo w h)) hKK.1 0 (by decide) rfl rfl 5 (by decide) (S.2.2.2.2 _ (List.mem_cons_of_mem _ (wd_746))) (fun _ h => h) rfl d_Mo_call_9 ?_
  refine v_iload_n S d_Mo_call_12 rfl rfl ?_
  refine v_iald S hKK.1 5 0 (by decide) rfl rfl d_Mo_call_13 (fun h2 => ?_)
  refine v_cv (rest := []) (fun _ hg H locs ls hsz hP hS => run_V (As := [.int (σ 5 a0.toNatClampNeg)]) (rest := []) S kM_ok hKK (c_Mo_drop l D ca ax b σ (σ 5 a0.toNatClampNeg) hg) (k_Mo_148 S.2.2.2.2 (fun _ => List.mem_cons_of_mem _) ⟨Nat.le_of_ble_eq_true rfl, Nat.le_of_ble_eq_true rfl⟩) (rc_w hKK.1 hP 0 (by decide) rfl rfl) rfl rfl (Nat.zero_le _) d_Mo_call_14 hsz hP hS) (fun σ3 _ => ?_)
  refine v_bipush S d_Mo_call_17 (v := (12 : Int32)) (by decide) ?_
  refine v_iload_n S d_Mo_call_19 rfl rfl ?_
  refine v_imul S d_Mo_call_20 ?_
  refine v_bipush S d_Mo_call_21 (v := (6 : Int32)) (by decide) ?_
  refine v_iadd S d_Mo_call_23 ?_
  refine v_aload_n S d_Mo_call_24 rfl rfl ?_
  refine v_get S (fun w h => List.mem_cons_of_mem _ (i_Mo w h)) hKK.1 0 (by decide) rfl rfl 19 (by decide) (S.2.2.2.2 _ (List.mem_cons_of_mem _ (wd_760))) (fun _ h => h) rfl d_Mo_call_25 ?_
  refine v_iload_n S d_Mo_call_28 rfl rfl ?_
  refine v_iald S hKK.1 13 0 (by decide) rfl rfl d_Mo_call_29 (fun h4 => ?_)
  refine v_iadd S d_Mo_call_30 ?_
  refine v_top (fun x5 ex5 => ?_)
  refine v_istore_nP S d_Mo_call_31 rfl (by decide) (L2 := [some (.ref (b + 0)), some (.int a0), some (.int x1), some (.int x5)]) rfl ?_
  refine v_aload_n S d_Mo_call_32 rfl rfl ?_
  refine v_iload_n S d_Mo_call_33 rfl rfl ?_
  refine v_cv (rest := []) (fun _ hg H locs ls hsz hP hS => run_V (As := [.int a0]) (rest := []) S kM_ok hKK (c_Mo_enter l D ca ax b σ3 a0 hg) (k_Mo_136 S.2.2.2.2 (fun _ => List.mem_cons_of_mem _) ⟨Nat.le_of_ble_eq_true rfl, Nat.le_of_ble_eq_true rfl⟩) (rc_w hKK.1 hP 0 (by decide) rfl rfl) rfl rfl (Nat.zero_le _) d_Mo_call_34 hsz hP hS) (fun σ6 _ => ?_)
  refine v_iconst S d_Mo_call_37 (v := (0 : Int32)) (by decide) ?_
  refine v_istoreP S d_Mo_call_38 (by decide) (L2 := [some (.ref (b + 0)), some (.int a0), some (.int x1), some (.int x5), some (.int (0 : Int32))]) rfl ?_
  refine v_sub (L2 := [some (.ref (b + 0)), some (.int a0), some (.int x1), some (.int x5), some (.int (0 : Int32))]) (And.intro rfl (And.intro rfl (And.intro rfl (And.intro rfl (And.intro rfl True.intro))))) ?_
  exact C40 fuel0 σ6 x1 x5 (0 : Int32)
def fn_Mo_seen (σ : mm_M) (a0 : Int32) (a1 : Int32) : Option (Int32 × mm_M) :=
    (if a0 = (2 : Int32) then
    (if a1 = 0 then
    (some ((0 : Int32), σ))
    else
    (some ((1 : Int32), σ)))
    else
    (some (a1, σ)))
set_option maxRecDepth 100000 in
set_option maxHeartbeats 40000000 in
theorem c_Mo_seen (l : Launch) (D : va_G) (ca : Nat → ClassId) (ax : Nat → Nat → Nat) (b : Nat) (σ : mm_M) (a0 : Int32) (a1 : Int32)  {r : Int32} {σ' : mm_M} (hf : fn_Mo_seen σ a0 a1 = some (r, σ')) : Met l y_Mo_seen w_Mo_seen rm_Mo_seen (pc_w D cls b N_M (ce_M ca b) (kM D ca ax b) [.int a0, .int a1] σ) (qc_i D cls b N_M (ce_M ca b) r σ') 0 0 (mm_A b N_M) := by
  refine vv_go (cc := b_Mo_seen) (maxL := 2) (ret := (some .int)) (fin := (r, σ')) (k := fn_Mo_seen σ a0 a1) (by decide) rfl (by simp [Value.category]) (Nat.le_of_ble_eq_true rfl) hf ?_
  intro p e s m below meth c hlocks hret S hKK
  unfold fn_Mo_seen
  refine v_iload_n S d_Mo_seen_0 rfl rfl ?_
  refine v_iconst S d_Mo_seen_1 (v := (2 : Int32)) (by decide) ?_
  refine v_icmp_ne S d_Mo_seen_2 (tgt := 17) (by decide) (fun h1 => ?_) (fun h1 => ?_)
  · refine v_iload_n S d_Mo_seen_17 rfl rfl ?_
    exact v_iret S hret hlocks d_Mo_seen_18
  · refine v_iload_n S d_Mo_seen_5 rfl rfl ?_
    refine v_if_ne S d_Mo_seen_6 (tgt := 13) (by decide) (fun h2 => ?_) (fun h2 => ?_)
    · refine v_iconst S d_Mo_seen_13 (v := (1 : Int32)) (by decide) ?_
      refine v_goto S d_Mo_seen_14 (tgt := 18) (by decide) ?_
      exact v_iret S hret hlocks d_Mo_seen_18
    · refine v_iconst S d_Mo_seen_9 (v := (0 : Int32)) (by decide) ?_
      refine v_goto S d_Mo_seen_10 (tgt := 18) (by decide) ?_
      exact v_iret S hret hlocks d_Mo_seen_18
def fn_Mo_giveBack (σ : mm_M)  : Option (mm_M) :=
    (if (((σ 0 16) - (1 : Int32)) < 0 ∨ 8 ≤ ((σ 0 16) - (1 : Int32)).toNatClampNeg) then none else
    (nm ((((12 : Int32) * ((σ 0 16) - (1 : Int32))) + (5 : Int32)) + (σ 13 ((σ 0 16) - (1 : Int32)).toNatClampNeg)) (fun x2 =>
    (if (x2 < 0 ∨ 96 ≤ x2.toNatClampNeg) then none else
    (nm (σ 15 x2.toNatClampNeg) (fun x4 =>
    (if (x2 < 0 ∨ 96 ≤ x2.toNatClampNeg) then none else
    (nm (σ 14 x2.toNatClampNeg) (fun x6 =>
    (nm (mw σ 0 16 ((σ 0 16) - (1 : Int32))) (fun σ7 =>
    (if (σ7 0 16) ≤ 0 then
    (bd (fn_Mo_seen σ7 x4 x6) (fun r10 σ9 =>
    (nm (mw σ9 0 24 r10) (fun σ11 =>
    (some σ11)))))
    else
    (bv (fn_Mo_put σ7 x4 x6) (fun σ12 =>
    (some σ12)))))))))))))))
set_option maxRecDepth 100000 in
set_option maxHeartbeats 40000000 in
theorem c_Mo_giveBack (l : Launch) (D : va_G) (ca : Nat → ClassId) (ax : Nat → Nat → Nat) (b : Nat) (σ : mm_M)   {σ' : mm_M} (hf : fn_Mo_giveBack σ  = some σ') : Met l y_Mo_giveBack w_Mo_giveBack rm_Mo_giveBack (pc_w D cls b N_M (ce_M ca b) (kM D ca ax b) [.ref (b + 0)] σ) (qc_v D cls b N_M (ce_M ca b) σ') 0 0 (mm_A b N_M) := by
  refine vv_go (cc := b_Mo_giveBack) (maxL := 4) (ret := none) (fin := σ') (k := fn_Mo_giveBack σ ) (by decide) rfl (by simp [Value.category]) (Nat.le_of_ble_eq_true rfl) hf ?_
  intro p e s m below meth c hlocks hret S hKK
  unfold fn_Mo_giveBack
  refine v_bipush S d_Mo_giveBack_0 (v := (12 : Int32)) (by decide) ?_
  refine v_aload_n S d_Mo_giveBack_2 rfl rfl ?_
  refine v_get S (fun w h => List.mem_cons_of_mem _ (i_Mo w h)) hKK.1 0 (by decide) rfl rfl 16 (by decide) (S.2.2.2.2 _ (List.mem_cons_of_mem _ (wd_757))) (fun _ h => h) rfl d_Mo_giveBack_3 ?_
  refine v_iconst S d_Mo_giveBack_6 (v := (1 : Int32)) (by decide) ?_
  refine v_isub S d_Mo_giveBack_7 ?_
  refine v_imul S d_Mo_giveBack_8 ?_
  refine v_iconst S d_Mo_giveBack_9 (v := (5 : Int32)) (by decide) ?_
  refine v_iadd S d_Mo_giveBack_10 ?_
  refine v_aload_n S d_Mo_giveBack_11 rfl rfl ?_
  refine v_get S (fun w h => List.mem_cons_of_mem _ (i_Mo w h)) hKK.1 0 (by decide) rfl rfl 19 (by decide) (S.2.2.2.2 _ (List.mem_cons_of_mem _ (wd_760))) (fun _ h => h) rfl d_Mo_giveBack_12 ?_
  refine v_aload_n S d_Mo_giveBack_15 rfl rfl ?_
  refine v_get S (fun w h => List.mem_cons_of_mem _ (i_Mo w h)) hKK.1 0 (by decide) rfl rfl 16 (by decide) (S.2.2.2.2 _ (List.mem_cons_of_mem _ (wd_757))) (fun _ h => h) rfl d_Mo_giveBack_16 ?_
  refine v_iconst S d_Mo_giveBack_19 (v := (1 : Int32)) (by decide) ?_
  refine v_isub S d_Mo_giveBack_20 ?_
  refine v_iald S hKK.1 13 0 (by decide) rfl rfl d_Mo_giveBack_21 (fun h1 => ?_)
  refine v_iadd S d_Mo_giveBack_22 ?_
  refine v_top (fun x2 ex2 => ?_)
  refine v_istore_nP S d_Mo_giveBack_23 rfl (by decide) (L2 := [some (.ref (b + 0)), some (.int x2)]) rfl ?_
  refine v_aload_n S d_Mo_giveBack_24 rfl rfl ?_
  refine v_get S (fun w h => List.mem_cons_of_mem _ (i_Mo w h)) hKK.1 0 (by decide) rfl rfl 21 (by decide) (S.2.2.2.2 _ (List.mem_cons_of_mem _ (wd_762))) (fun _ h => h) rfl d_Mo_giveBack_25 ?_
  refine v_iload_n S d_Mo_giveBack_28 rfl rfl ?_
  refine v_iald S hKK.1 15 0 (by decide) rfl rfl d_Mo_giveBack_29 (fun h3 => ?_)
  refine v_top (fun x4 ex4 => ?_)
  refine v_istore_nP S d_Mo_giveBack_30 rfl (by decide) (L2 := [some (.ref (b + 0)), some (.int x2), some (.int x4)]) rfl ?_
  refine v_aload_n S d_Mo_giveBack_31 rfl rfl ?_
  refine v_get S (fun w h => List.mem_cons_of_mem _ (i_Mo w h)) hKK.1 0 (by decide) rfl rfl 20 (by decide) (S.2.2.2.2 _ (List.mem_cons_of_mem _ (wd_761))) (fun _ h => h) rfl d_Mo_giveBack_32 ?_
  refine v_iload_n S d_Mo_giveBack_35 rfl rfl ?_
  refine v_iald S hKK.1 14 0 (by decide) rfl rfl d_Mo_giveBack_36 (fun h5 => ?_)
  refine v_top (fun x6 ex6 => ?_)
  refine v_istore_nP S d_Mo_giveBack_37 rfl (by decide) (L2 := [some (.ref (b + 0)), some (.int x2), some (.int x4), some (.int x6)]) rfl ?_
  refine v_aload_n S d_Mo_giveBack_38 rfl rfl ?_
  refine v_dup S d_Mo_giveBack_39 rfl ?_
  refine v_get S (fun w h => List.mem_cons_of_mem _ (i_Mo w h)) hKK.1 0 (by decide) rfl rfl 16 (by decide) (S.2.2.2.2 _ (List.mem_cons_of_mem _ (wd_757))) (fun _ h => h) rfl d_Mo_giveBack_40 ?_
  refine v_iconst S d_Mo_giveBack_43 (v := (1 : Int32)) (by decide) ?_
  refine v_isub S d_Mo_giveBack_44 ?_
  refine v_puti S (fun w h => List.mem_cons_of_mem _ (i_Mo w h)) hKK.1 0 (by decide) rfl rfl 16 (by decide) (S.2.2.2.2 _ (List.mem_cons_of_mem _ (wd_757))) (fun _ h => h) t_Mo t_Mo_ok n_Mo rfl (ty := .int) rfl rfl rfl (Nat.le_of_ble_eq_true rfl) rfl d_Mo_giveBack_45 ?_
  refine v_sg (fun σ7 eσ7 => ?_)
  refine v_aload_n S d_Mo_giveBack_48 rfl rfl ?_
  refine v_get S (fun w h => List.mem_cons_of_mem _ (i_Mo w h)) hKK.1 0 (by decide) rfl rfl 16 (by decide) (S.2.2.2.2 _ (List.mem_cons_of_mem _ (wd_757))) (fun _ h => h) rfl d_Mo_giveBack_49 ?_
  refine v_if_le S d_Mo_giveBack_52 (tgt := 64) (by decide) (fun h8 => ?_) (fun h8 => ?_)
  · refine v_aload_n S d_Mo_giveBack_64 rfl rfl ?_
    refine v_iload_n S d_Mo_giveBack_65 rfl rfl ?_
    refine v_iload_n S d_Mo_giveBack_66 rfl rfl ?_
    refine v_ci (rest := [.ref (b + 0)]) (fun _ _ hg H locs ls hsz hP hS => run_S (As := [.int x4, .int x6]) (rest := [.ref (b + 0)]) S kM_ok hKK (c_Mo_seen l D ca ax b σ7 x4 x6 hg) (k_Mo_154 S.2.2.2.2 (fun _ => List.mem_cons_of_mem _) ⟨Nat.le_of_ble_eq_true rfl, Nat.le_of_ble_eq_true rfl⟩) rfl rfl (by simp [Value.category]) d_Mo_giveBack_67 hsz hP hS) (fun r10 σ9 _ => ?_)
    refine v_puti S (fun w h => List.mem_cons_of_mem _ (i_Mo w h)) hKK.1 0 (by decide) rfl rfl 24 (by decide) (S.2.2.2.2 _ (List.mem_cons_of_mem _ (wd_765))) (fun _ h => h) t_Mo t_Mo_ok n_Mo rfl (ty := .int) rfl rfl rfl (Nat.le_of_ble_eq_true rfl) rfl d_Mo_giveBack_70 ?_
    refine v_sg (fun σ11 eσ11 => ?_)
    exact v_vret S hret hlocks d_Mo_giveBack_73
  · refine v_aload_n S d_Mo_giveBack_55 rfl rfl ?_
    refine v_iload_n S d_Mo_giveBack_56 rfl rfl ?_
    refine v_iload_n S d_Mo_giveBack_57 rfl rfl ?_
    refine v_cv (rest := []) (fun _ hg H locs ls hsz hP hS => run_V (As := [.int x4, .int x6]) (rest := []) S kM_ok hKK (c_Mo_put l D ca ax b σ7 x4 x6 hg) (k_Mo_151 S.2.2.2.2 (fun _ => List.mem_cons_of_mem _) ⟨Nat.le_of_ble_eq_true rfl, Nat.le_of_ble_eq_true rfl⟩) (rc_w hKK.1 hP 0 (by decide) rfl rfl) rfl rfl (Nat.zero_le _) d_Mo_giveBack_58 hsz hP hS) (fun σ12 _ => ?_)
    refine v_goto S d_Mo_giveBack_61 (tgt := 73) (by decide) ?_
    exact v_vret S hret hlocks d_Mo_giveBack_73
end
section
/-! contracts of 20.model; written by wip/whole/make.py -/
def fn_Mo_perform_90 (a0 : Int32) (σ : mm_M) (l2 : Int32) (l3 : Int32) (s0 : Int32) : Option (mm_M) :=
    (if l2 = 0 then
    (bv (fn_Mo_put σ s0 l3) (fun σ13 =>
    (some σ13)))
    else
    (bv (fn_Mo_put σ s0 (0 : Int32)) (fun σ12 =>
    (some σ12))))
def fn_Mo_perform_80 (a0 : Int32) (σ : mm_M) (l2 : Int32) (l3 : Int32) : Option (mm_M) :=
    (if l2 = 0 then
    (fn_Mo_perform_90 a0 σ l2 l3 (1 : Int32))
    else
    (fn_Mo_perform_90 a0 σ l2 l3 (2 : Int32)))
def fn_Mo_perform_158 (a0 : Int32) (σ : mm_M) (l2 : Int32) (l3 : Int32) : Option (mm_M) :=
    (if l2 = (18 : Int32) then
    (bv (fn_Mo_call σ l3) (fun σ25 =>
    (some σ25)))
    else
    (if l2 = (19 : Int32) then
    (bv (fn_Mo_giveBack σ) (fun σ24 =>
    (some σ24)))
    else
    (if l2 = (7 : Int32) then
    (some σ)
    else
    (bv (fn_Mo_onPlaces σ l2 l3) (fun σ23 =>
    (some σ23))))))
def fn_Mo_perform_69 (a0 : Int32) (σ : mm_M) (l2 : Int32) (l3 : Int32) (s0 : Int32) (s1 : Int32) : Option (mm_M) :=
    (if (s1 < 0 ∨ 8 ≤ s1.toNatClampNeg) then none else (nm (mw σ 12 s1.toNatClampNeg s0) (fun σ8 =>
    (if l2 = 0 then
    (fn_Mo_perform_80 a0 σ8 l2 l3)
    else
    (if l2 = (9 : Int32) then
    (fn_Mo_perform_80 a0 σ8 l2 l3)
    else
    (if (5 : Int32) ≤ l2 then
    (if l2 = (8 : Int32) then
    (bv (fn_Mo_drop σ8 (1 : Int32)) (fun σ17 =>
    (some σ17)))
    else
    (if l2 = (10 : Int32) then
    (bv (fn_Mo_drop σ8 (1 : Int32)) (fun σ28 =>
    (some σ28)))
    else
    (if l2 < (11 : Int32) then
    (fn_Mo_perform_158 a0 σ8 l2 l3)
    else
    (if (14 : Int32) < l2 then
    (fn_Mo_perform_158 a0 σ8 l2 l3)
    else
    (bv (fn_Mo_onArrays σ8 l2) (fun σ27 =>
    (some σ27)))))))
    else
    (bv (fn_Mo_calculate σ8 l2) (fun σ29 =>
    (some σ29)))))))))
def fn_Mo_perform_45 (a0 : Int32) (σ : mm_M) (l2 : Int32) (l3 : Int32) (s0 : Int32) : Option (mm_M) :=
    (if s0 = 0 then
    (fn_Mo_perform_69 a0 σ l2 l3 (a0 + (1 : Int32)) ((σ 0 16) - (1 : Int32)))
    else
    (fn_Mo_perform_69 a0 σ l2 l3 l3 ((σ 0 16) - (1 : Int32))))
def fn_Mo_perform_40 (a0 : Int32) (σ : mm_M) (l2 : Int32) (l3 : Int32) : Option (mm_M) :=
    (fn_Mo_perform_45 a0 σ l2 l3 (1 : Int32))
def fn_Mo_perform_44 (a0 : Int32) (σ : mm_M) (l2 : Int32) (l3 : Int32) : Option (mm_M) :=
    (fn_Mo_perform_45 a0 σ l2 l3 (0 : Int32))
def fn_Mo_perform_32 (a0 : Int32) (σ : mm_M) (l2 : Int32) (l3 : Int32) : Option (mm_M) :=
    (bd (fn_Mo_below σ (0 : Int32)) (fun r32 σ31 =>
    (if r32 = 0 then
    (fn_Mo_perform_40 a0 σ31 l2 l3)
    else
    (fn_Mo_perform_44 a0 σ31 l2 l3))))
def fn_Mo_perform (σ : mm_M) (a0 : Int32) : Option (mm_M) :=
    (if (a0 < 0 ∨ 100 ≤ a0.toNatClampNeg) then none else
    (nm (σ 1 a0.toNatClampNeg) (fun x2 =>
    (if (a0 < 0 ∨ 100 ≤ a0.toNatClampNeg) then none else
    (nm (σ 2 a0.toNatClampNeg) (fun x4 =>
    (if x2 = (7 : Int32) then
    (fn_Mo_perform_40 a0 σ x2 x4)
    else
    (if x2 = (8 : Int32) then
    (fn_Mo_perform_32 a0 σ x2 x4)
    else
    (if x2 = (10 : Int32) then
    (fn_Mo_perform_32 a0 σ x2 x4)
    else
    (fn_Mo_perform_44 a0 σ x2 x4))))))))))
set_option maxRecDepth 100000 in
set_option maxHeartbeats 40000000 in
theorem c_Mo_perform (l : Launch) (D : va_G) (ca : Nat → ClassId) (ax : Nat → Nat → Nat) (b : Nat) (σ : mm_M) (a0 : Int32)  {σ' : mm_M} (hf : fn_Mo_perform σ a0 = some σ') : Met l y_Mo_perform w_Mo_perform rm_Mo_perform (pc_w D cls b N_M (ce_M ca b) (kM D ca ax b) [.ref (b + 0), .int a0] σ) (qc_v D cls b N_M (ce_M ca b) σ') 0 0 (mm_A b N_M) := by
  refine vv_go (cc := b_Mo_perform) (maxL := 5) (ret := none) (fin := σ') (k := fn_Mo_perform σ a0) (by decide) rfl (by simp [Value.category]) (Nat.le_of_ble_eq_true rfl) hf ?_
  intro p e s m below meth c hlocks hret S hKK
  have C90 : ∀ (σ : mm_M) (l2 : Int32) (l3 : Int32) (s0 : Int32), vv p l e (headSpec w_Mo_perform rm_Mo_perform).room s m [.ref (b + 0), .int a0].toArray below meth c D cls b N_M (ce_M ca b) 5 (MQ below (qc_v D cls b N_M (ce_M ca b) σ') [.ref (b + 0), .int a0].toArray s 0 0 (mm_A b N_M)) σ' (fn_Mo_perform_90 a0 σ l2 l3 s0) σ 90 [none, none, some (.int l2), some (.int l3)] [.int s0, .ref (b + 0)] := by
    intro σ l2 l3 s0
    unfold fn_Mo_perform_90
    refine v_iload_n S d_Mo_perform_90 rfl rfl ?_
    refine v_if_ne S d_Mo_perform_91 (tgt := 98) (by decide) (fun h11 => ?_) (fun h11 => ?_)
    · refine v_iconst S d_Mo_perform_98 (v := (0 : Int32)) (by decide) ?_
      refine v_cv (rest := []) (fun _ hg H locs ls hsz hP hS => run_V (As := [.int s0, .int (0 : Int32)]) (rest := []) S kM_ok hKK (c_Mo_put l D ca ax b σ s0 (0 : Int32) hg) (k_Mo_151 S.2.2.2.2 (fun _ => List.mem_cons_of_mem _) ⟨Nat.le_of_ble_eq_true rfl, Nat.le_of_ble_eq_true rfl⟩) (rc_w hKK.1 hP 0 (by decide) rfl rfl) rfl rfl (Nat.zero_le _) d_Mo_perform_99 hsz hP hS) (fun σ12 _ => ?_)
      refine v_goto S d_Mo_perform_102 (tgt := 197) (by decide) ?_
      exact v_vret S hret hlocks d_Mo_perform_197
    · refine v_iload_n S d_Mo_perform_94 rfl rfl ?_
      refine v_goto S d_Mo_perform_95 (tgt := 99) (by decide) ?_
      refine v_cv (rest := []) (fun _ hg H locs ls hsz hP hS => run_V (As := [.int s0, .int l3]) (rest := []) S kM_ok hKK (c_Mo_put l D ca ax b σ s0 l3 hg) (k_Mo_151 S.2.2.2.2 (fun _ => List.mem_cons_of_mem _) ⟨Nat.le_of_ble_eq_true rfl, Nat.le_of_ble_eq_true rfl⟩) (rc_w hKK.1 hP 0 (by decide) rfl rfl) rfl rfl (Nat.zero_le _) d_Mo_perform_99 hsz hP hS) (fun σ13 _ => ?_)
      refine v_goto S d_Mo_perform_102 (tgt := 197) (by decide) ?_
      exact v_vret S hret hlocks d_Mo_perform_197
  have C80 : ∀ (σ : mm_M) (l2 : Int32) (l3 : Int32), vv p l e (headSpec w_Mo_perform rm_Mo_perform).room s m [.ref (b + 0), .int a0].toArray below meth c D cls b N_M (ce_M ca b) 5 (MQ below (qc_v D cls b N_M (ce_M ca b) σ') [.ref (b + 0), .int a0].toArray s 0 0 (mm_A b N_M)) σ' (fn_Mo_perform_80 a0 σ l2 l3) σ 80 [some (.ref (b + 0)), none, some (.int l2), some (.int l3)] [] := by
    intro σ l2 l3
    unfold fn_Mo_perform_80
    refine v_aload_n S d_Mo_perform_80 rfl rfl ?_
    refine v_iload_n S d_Mo_perform_81 rfl rfl ?_
    refine v_if_ne S d_Mo_perform_82 (tgt := 89) (by decide) (fun h10 => ?_) (fun h10 => ?_)
    · refine v_iconst S d_Mo_perform_89 (v := (2 : Int32)) (by decide) ?_
      refine v_sub (L2 := [none, none, some (.int l2), some (.int l3)]) (And.intro rfl (And.intro rfl True.intro)) ?_
      exact C90 σ l2 l3 (2 : Int32)
    · refine v_iconst S d_Mo_perform_85 (v := (1 : Int32)) (by decide) ?_
      refine v_goto S d_Mo_perform_86 (tgt := 90) (by decide) ?_
      refine v_sub (L2 := [none, none, some (.int l2), some (.int l3)]) (And.intro rfl (And.intro rfl True.intro)) ?_
      exact C90 σ l2 l3 (1 : Int32)
  have C158 : ∀ (σ : mm_M) (l2 : Int32) (l3 : Int32), vv p l e (headSpec w_Mo_perform rm_Mo_perform).room s m [.ref (b + 0), .int a0].toArray below meth c D cls b N_M (ce_M ca b) 5 (MQ below (qc_v D cls b N_M (ce_M ca b) σ') [.ref (b + 0), .int a0].toArray s 0 0 (mm_A b N_M)) σ' (fn_Mo_perform_158 a0 σ l2 l3) σ 158 [some (.ref (b + 0)), none, some (.int l2), some (.int l3)] [] := by
    intro σ l2 l3
    unfold fn_Mo_perform_158
    refine v_iload_n S d_Mo_perform_158 rfl rfl ?_
    refine v_bipush S d_Mo_perform_159 (v := (18 : Int32)) (by decide) ?_
    refine v_icmp_ne S d_Mo_perform_161 (tgt := 172) (by decide) (fun h20 => ?_) (fun h20 => ?_)
    · refine v_iload_n S d_Mo_perform_172 rfl rfl ?_
      refine v_bipush S d_Mo_perform_173 (v := (19 : Int32)) (by decide) ?_
      refine v_icmp_ne S d_Mo_perform_175 (tgt := 185) (by decide) (fun h21 => ?_) (fun h21 => ?_)
      · refine v_iload_n S d_Mo_perform_185 rfl rfl ?_
        refine v_bipush S d_Mo_perform_186 (v := (7 : Int32)) (by decide) ?_
        refine v_icmp_eq S d_Mo_perform_188 (tgt := 197) (by decide) (fun h22 => ?_) (fun h22 => ?_)
        · exact v_vret S hret hlocks d_Mo_perform_197
        · refine v_aload_n S d_Mo_perform_191 rfl rfl ?_
          refine v_iload_n S d_Mo_perform_192 rfl rfl ?_
          refine v_iload_n S d_Mo_perform_193 rfl rfl ?_
          refine v_cv (rest := []) (fun _ hg H locs ls hsz hP hS => run_V (As := [.int l2, .int l3]) (rest := []) S kM_ok hKK (c_Mo_onPlaces l D ca ax b σ l2 l3 hg) (k_Mo_172 S.2.2.2.2 (fun _ => List.mem_cons_of_mem _) ⟨Nat.le_of_ble_eq_true rfl, Nat.le_of_ble_eq_true rfl⟩) (rc_w hKK.1 hP 0 (by decide) rfl rfl) rfl rfl (Nat.zero_le _) d_Mo_perform_194 hsz hP hS) (fun σ23 _ => ?_)
          exact v_vret S hret hlocks d_Mo_perform_197
      · refine v_aload_n S d_Mo_perform_178 rfl rfl ?_
        refine v_cv (rest := []) (fun _ hg H locs ls hsz hP hS => run_V (As := []) (rest := []) S kM_ok hKK (c_Mo_giveBack l D ca ax b σ hg) (k_Mo_169 S.2.2.2.2 (fun _ => List.mem_cons_of_mem _) ⟨Nat.le_of_ble_eq_true rfl, Nat.le_of_ble_eq_true rfl⟩) (rc_w hKK.1 hP 0 (by decide) rfl rfl) rfl rfl (Nat.zero_le _) d_Mo_perform_179 hsz hP hS) (fun σ24 _ => ?_)
        refine v_goto S d_Mo_perform_182 (tgt := 197) (by decide) ?_
        exact v_vret S hret hlocks d_Mo_perform_197
    · refine v_aload_n S d_Mo_perform_164 rfl rfl ?_
      refine v_iload_n S d_Mo_perform_165 rfl rfl ?_
      refine v_cv (rest := []) (fun _ hg H locs ls hsz hP hS => run_V (As := [.int l3]) (rest := []) S kM_ok hKK (c_Mo_call l D ca ax b σ l3 hg) (k_Mo_166 S.2.2.2.2 (fun _ => List.mem_cons_of_mem _) ⟨Nat.le_of_ble_eq_true rfl, Nat.le_of_ble_eq_true rfl⟩) (rc_w hKK.1 hP 0 (by decide) rfl rfl) rfl rfl (Nat.zero_le _) d_Mo_perform_166 hsz hP hS) (fun σ25 _ => ?_)
      refine v_goto S d_Mo_perform_169 (tgt := 197) (by decide) ?_
      exact v_vret S hret hlocks d_Mo_perform_197
  have C69 : ∀ (σ : mm_M) (l2 : Int32) (l3 : Int32) (s0 : Int32) (s1 : Int32), vv p l e (headSpec w_Mo_perform rm_Mo_perform).room s m [.ref (b + 0), .int a0].toArray below meth c D cls b N_M (ce_M ca b) 5 (MQ below (qc_v D cls b N_M (ce_M ca b) σ') [.ref (b + 0), .int a0].toArray s 0 0 (mm_A b N_M)) σ' (fn_Mo_perform_69 a0 σ l2 l3 s0 s1) σ 69 [some (.ref (b + 0)), none, some (.int l2), some (.int l3)] [.int s0, .int s1, .ref (b + 12)] := by
    intro σ l2 l3 s0 s1
    unfold fn_Mo_perform_69
    refine v_iast1 S hKK.1 12 0 (by decide) (fun _ => rfl) rfl d_Mo_perform_69 (fun h7 => ?_)
    refine v_sg (fun σ8 eσ8 => ?_)
    refine v_iload_n S d_Mo_perform_70 rfl rfl ?_
    refine v_if_eq S d_Mo_perform_71 (tgt := 80) (by decide) (fun h9 => ?_) (fun h9 => ?_)
    · refine v_sub (L2 := [some (.ref (b + 0)), none, some (.int l2), some (.int l3)]) (And.intro rfl (And.intro rfl (And.intro rfl True.intro))) ?_
      exact C80 σ8 l2 l3
    · refine v_iload_n S d_Mo_perform_74 rfl rfl ?_
      refine v_bipush S d_Mo_perform_75 (v := (9 : Int32)) (by decide) ?_
      refine v_icmp_ne S d_Mo_perform_77 (tgt := 105) (by decide) (fun h14 => ?_) (fun h14 => ?_)
      · refine v_iload_n S d_Mo_perform_105 rfl rfl ?_
        refine v_iconst S d_Mo_perform_106 (v := (5 : Int32)) (by decide) ?_
        refine v_icmp_ge S d_Mo_perform_107 (tgt := 118) (by decide) (fun h15 => ?_) (fun h15 => ?_)
        · refine v_iload_n S d_Mo_perform_118 rfl rfl ?_
          refine v_bipush S d_Mo_perform_119 (v := (8 : Int32)) (by decide) ?_
          refine v_icmp_eq S d_Mo_perform_121 (tgt := 130) (by decide) (fun h16 => ?_) (fun h16 => ?_)
          · refine v_aload_n S d_Mo_perform_130 rfl rfl ?_
            refine v_iconst S d_Mo_perform_131 (v := (1 : Int32)) (by decide) ?_
            refine v_cv (rest := []) (fun _ hg H locs ls hsz hP hS => run_V (As := [.int (1 : Int32)]) (rest := []) S kM_ok hKK (c_Mo_drop l D ca ax b σ8 (1 : Int32) hg) (k_Mo_148 S.2.2.2.2 (fun _ => List.mem_cons_of_mem _) ⟨Nat.le_of_ble_eq_true rfl, Nat.le_of_ble_eq_true rfl⟩) (rc_w hKK.1 hP 0 (by decide) rfl rfl) rfl rfl (Nat.zero_le _) d_Mo_perform_132 hsz hP hS) (fun σ17 _ => ?_)
            refine v_goto S d_Mo_perform_135 (tgt := 197) (by decide) ?_
            exact v_vret S hret hlocks d_Mo_perform_197
          · refine v_iload_n S d_Mo_perform_124 rfl rfl ?_
            refine v_bipush S d_Mo_perform_125 (v := (10 : Int32)) (by decide) ?_
            refine v_icmp_ne S d_Mo_perform_127 (tgt := 138) (by decide) (fun h18 => ?_) (fun h18 => ?_)
            · refine v_iload_n S d_Mo_perform_138 rfl rfl ?_
              refine v_bipush S d_Mo_perform_139 (v := (11 : Int32)) (by decide) ?_
              refine v_icmp_lt S d_Mo_perform_141 (tgt := 158) (by decide) (fun h19 => ?_) (fun h19 => ?_)
              · refine v_sub (L2 := [some (.ref (b + 0)), none, some (.int l2), some (.int l3)]) (And.intro rfl (And.intro rfl (And.intro rfl True.intro))) ?_
                exact C158 σ8 l2 l3
              · refine v_iload_n S d_Mo_perform_144 rfl rfl ?_
                refine v_bipush S d_Mo_perform_145 (v := (14 : Int32)) (by decide) ?_
                refine v_icmp_gt S d_Mo_perform_147 (tgt := 158) (by decide) (fun h26 => ?_) (fun h26 => ?_)
                · refine v_sub (L2 := [some (.ref (b + 0)), none, some (.int l2), some (.int l3)]) (And.intro rfl (And.intro rfl (And.intro rfl True.intro))) ?_
                  exact C158 σ8 l2 l3
                · refine v_aload_n S d_Mo_perform_150 rfl rfl ?_
                  refine v_iload_n S d_Mo_perform_151 rfl rfl ?_
                  refine v_cv (rest := []) (fun _ hg H locs ls hsz hP hS => run_V (As := [.int l2]) (rest := []) S kM_ok hKK (c_Mo_onArrays l D ca ax b σ8 l2 hg) (k_Mo_163 S.2.2.2.2 (fun _ => List.mem_cons_of_mem _) ⟨Nat.le_of_ble_eq_true rfl, Nat.le_of_ble_eq_true rfl⟩) (rc_w hKK.1 hP 0 (by decide) rfl rfl) rfl rfl (Nat.zero_le _) d_Mo_perform_152 hsz hP hS) (fun σ27 _ => ?_)
                  refine v_goto S d_Mo_perform_155 (tgt := 197) (by decide) ?_
                  exact v_vret S hret hlocks d_Mo_perform_197
            · refine v_aload_n S d_Mo_perform_130 rfl rfl ?_
              refine v_iconst S d_Mo_perform_131 (v := (1 : Int32)) (by decide) ?_
              refine v_cv (rest := []) (fun _ hg H locs ls hsz hP hS => run_V (As := [.int (1 : Int32)]) (rest := []) S kM_ok hKK (c_Mo_drop l D ca ax b σ8 (1 : Int32) hg) (k_Mo_148 S.2.2.2.2 (fun _ => List.mem_cons_of_mem _) ⟨Nat.le_of_ble_eq_true rfl, Nat.le_of_ble_eq_true rfl⟩) (rc_w hKK.1 hP 0 (by decide) rfl rfl) rfl rfl (Nat.zero_le _) d_Mo_perform_132 hsz hP hS) (fun σ28 _ => ?_)
              refine v_goto S d_Mo_perform_135 (tgt := 197) (by decide) ?_
              exact v_vret S hret hlocks d_Mo_perform_197
        · refine v_aload_n S d_Mo_perform_110 rfl rfl ?_
          refine v_iload_n S d_Mo_perform_111 rfl rfl ?_
          refine v_cv (rest := []) (fun _ hg H locs ls hsz hP hS => run_V (As := [.int l2]) (rest := []) S kM_ok hKK (c_Mo_calculate l D ca ax b σ8 l2 hg) (k_Mo_160 S.2.2.2.2 (fun _ => List.mem_cons_of_mem _) ⟨Nat.le_of_ble_eq_true rfl, Nat.le_of_ble_eq_true rfl⟩) (rc_w hKK.1 hP 0 (by decide) rfl rfl) rfl rfl (Nat.zero_le _) d_Mo_perform_112 hsz hP hS) (fun σ29 _ => ?_)
          refine v_goto S d_Mo_perform_115 (tgt := 197) (by decide) ?_
          exact v_vret S hret hlocks d_Mo_perform_197
      · refine v_sub (L2 := [some (.ref (b + 0)), none, some (.int l2), some (.int l3)]) (And.intro rfl (And.intro rfl (And.intro rfl True.intro))) ?_
        exact C80 σ8 l2 l3
  have C45 : ∀ (σ : mm_M) (l2 : Int32) (l3 : Int32) (s0 : Int32), vv p l e (headSpec w_Mo_perform rm_Mo_perform).room s m [.ref (b + 0), .int a0].toArray below meth c D cls b N_M (ce_M ca b) 5 (MQ below (qc_v D cls b N_M (ce_M ca b) σ') [.ref (b + 0), .int a0].toArray s 0 0 (mm_A b N_M)) σ' (fn_Mo_perform_45 a0 σ l2 l3 s0) σ 45 [some (.ref (b + 0)), some (.int a0), some (.int l2), some (.int l3)] [.int s0] := by
    intro σ l2 l3 s0
    unfold fn_Mo_perform_45
    refine v_istoreP S d_Mo_perform_45 (by decide) (L2 := [some (.ref (b + 0)), some (.int a0), some (.int l2), some (.int l3), some (.int s0)]) rfl ?_
    refine v_aload_n S d_Mo_perform_47 rfl rfl ?_
    refine v_get S (fun w h => List.mem_cons_of_mem _ (i_Mo w h)) hKK.1 0 (by decide) rfl rfl 18 (by decide) (S.2.2.2.2 _ (List.mem_cons_of_mem _ (wd_759))) (fun _ h => h) rfl d_Mo_perform_48 ?_
    refine v_aload_n S d_Mo_perform_51 rfl rfl ?_
    refine v_get S (fun w h => List.mem_cons_of_mem _ (i_Mo w h)) hKK.1 0 (by decide) rfl rfl 16 (by decide) (S.2.2.2.2 _ (List.mem_cons_of_mem _ (wd_757))) (fun _ h => h) rfl d_Mo_perform_52 ?_
    refine v_iconst S d_Mo_perform_55 (v := (1 : Int32)) (by decide) ?_
    refine v_isub S d_Mo_perform_56 ?_
    refine v_iload S d_Mo_perform_57 rfl ?_
    refine v_if_eq S d_Mo_perform_59 (tgt := 66) (by decide) (fun h6 => ?_) (fun h6 => ?_)
    · refine v_iload_n S d_Mo_perform_66 rfl rfl ?_
      refine v_iconst S d_Mo_perform_67 (v := (1 : Int32)) (by decide) ?_
      refine v_iadd S d_Mo_perform_68 ?_
      refine v_sub (L2 := [some (.ref (b + 0)), none, some (.int l2), some (.int l3)]) (And.intro rfl (And.intro rfl (And.intro rfl True.intro))) ?_
      exact C69 σ l2 l3 (a0 + (1 : Int32)) ((σ 0 16) - (1 : Int32))
    · refine v_iload_n S d_Mo_perform_62 rfl rfl ?_
      refine v_goto S d_Mo_perform_63 (tgt := 69) (by decide) ?_
      refine v_sub (L2 := [some (.ref (b + 0)), none, some (.int l2), some (.int l3)]) (And.intro rfl (And.intro rfl (And.intro rfl True.intro))) ?_
      exact C69 σ l2 l3 l3 ((σ 0 16) - (1 : Int32))
  have C40 : ∀ (σ : mm_M) (l2 : Int32) (l3 : Int32), vv p l e (headSpec w_Mo_perform rm_Mo_perform).room s m [.ref (b + 0), .int a0].toArray below meth c D cls b N_M (ce_M ca b) 5 (MQ below (qc_v D cls b N_M (ce_M ca b) σ') [.ref (b + 0), .int a0].toArray s 0 0 (mm_A b N_M)) σ' (fn_Mo_perform_40 a0 σ l2 l3) σ 40 [some (.ref (b + 0)), some (.int a0), some (.int l2), some (.int l3)] [] := by
    intro σ l2 l3
    unfold fn_Mo_perform_40
    refine v_iconst S d_Mo_perform_40 (v := (1 : Int32)) (by decide) ?_
    refine v_goto S d_Mo_perform_41 (tgt := 45) (by decide) ?_
    refine v_sub (L2 := [some (.ref (b + 0)), some (.int a0), some (.int l2), some (.int l3)]) (And.intro rfl (And.intro rfl (And.intro rfl (And.intro rfl True.intro)))) ?_
    exact C45 σ l2 l3 (1 : Int32)
  have C44 : ∀ (σ : mm_M) (l2 : Int32) (l3 : Int32), vv p l e (headSpec w_Mo_perform rm_Mo_perform).room s m [.ref (b + 0), .int a0].toArray below meth c D cls b N_M (ce_M ca b) 5 (MQ below (qc_v D cls b N_M (ce_M ca b) σ') [.ref (b + 0), .int a0].toArray s 0 0 (mm_A b N_M)) σ' (fn_Mo_perform_44 a0 σ l2 l3) σ 44 [some (.ref (b + 0)), some (.int a0), some (.int l2), some (.int l3)] [] := by
    intro σ l2 l3
    unfold fn_Mo_perform_44
    refine v_iconst S d_Mo_perform_44 (v := (0 : Int32)) (by decide) ?_
    refine v_sub (L2 := [some (.ref (b + 0)), some (.int a0), some (.int l2), some (.int l3)]) (And.intro rfl (And.intro rfl (And.intro rfl (And.intro rfl True.intro)))) ?_
    exact C45 σ l2 l3 (0 : Int32)
  have C32 : ∀ (σ : mm_M) (l2 : Int32) (l3 : Int32), vv p l e (headSpec w_Mo_perform rm_Mo_perform).room s m [.ref (b + 0), .int a0].toArray below meth c D cls b N_M (ce_M ca b) 5 (MQ below (qc_v D cls b N_M (ce_M ca b) σ') [.ref (b + 0), .int a0].toArray s 0 0 (mm_A b N_M)) σ' (fn_Mo_perform_32 a0 σ l2 l3) σ 32 [some (.ref (b + 0)), some (.int a0), some (.int l2), some (.int l3)] [] := by
    intro σ l2 l3
    unfold fn_Mo_perform_32
    refine v_aload_n S d_Mo_perform_32 rfl rfl ?_
    refine v_iconst S d_Mo_perform_33 (v := (0 : Int32)) (by decide) ?_
    refine v_ci (rest := []) (fun _ _ hg H locs ls hsz hP hS => run_V (As := [.int (0 : Int32)]) (rest := []) S kM_ok hKK (c_Mo_below l D ca ax b σ (0 : Int32) hg) (k_Mo_139 S.2.2.2.2 (fun _ => List.mem_cons_of_mem _) ⟨Nat.le_of_ble_eq_true rfl, Nat.le_of_ble_eq_true rfl⟩) (rc_w hKK.1 hP 0 (by decide) rfl rfl) rfl rfl (Nat.zero_le _) d_Mo_perform_34 hsz hP hS) (fun r32 σ31 _ => ?_)
    refine v_if_ne S d_Mo_perform_37 (tgt := 44) (by decide) (fun h33 => ?_) (fun h33 => ?_)
    · refine v_sub (L2 := [some (.ref (b + 0)), some (.int a0), some (.int l2), some (.int l3)]) (And.intro rfl (And.intro rfl (And.intro rfl (And.intro rfl True.intro)))) ?_
      exact C44 σ31 l2 l3
    · refine v_sub (L2 := [some (.ref (b + 0)), some (.int a0), some (.int l2), some (.int l3)]) (And.intro rfl (And.intro rfl (And.intro rfl (And.intro rfl True.intro)))) ?_
      exact C40 σ31 l2 l3
  unfold fn_Mo_perform
  refine v_aload_n S d_Mo_perform_0 rfl rfl ?_
  refine v_get S (fun w h => List.mem_cons_of_mem _ (i_Mo w h)) hKK.1 0 (by decide) rfl rfl 1 (by decide) (S.2.2.2.2 _ (List.mem_cons_of_mem _ (wd_742))) (fun _ h => h) rfl d_Mo_perform_1 ?_
  refine v_iload_n S d_Mo_perform_4 rfl rfl ?_
  refine v_iald S hKK.1 1 0 (by decide) rfl rfl d_Mo_perform_5 (fun h1 => ?_)
  refine v_top (fun x2 ex2 => ?_)
  refine v_istore_nP S d_Mo_perform_6 rfl (by decide) (L2 := [some (.ref (b + 0)), some (.int a0), some (.int x2)]) rfl ?_
  refine v_aload_n S d_Mo_perform_7 rfl rfl ?_
  refine v_get S (fun w h => List.mem_cons_of_mem _ (i_Mo w h)) hKK.1 0 (by decide) rfl rfl 2 (by decide) (S.2.2.2.2 _ (List.mem_cons_of_mem _ (wd_743))) (fun _ h => h) rfl d_Mo_perform_8 ?_
  refine v_iload_n S d_Mo_perform_11 rfl rfl ?_
  refine v_iald S hKK.1 2 0 (by decide) rfl rfl d_Mo_perform_12 (fun h3 => ?_)
  refine v_top (fun x4 ex4 => ?_)
  refine v_istore_nP S d_Mo_perform_13 rfl (by decide) (L2 := [some (.ref (b + 0)), some (.int a0), some (.int x2), some (.int x4)]) rfl ?_
  refine v_iload_n S d_Mo_perform_14 rfl rfl ?_
  refine v_bipush S d_Mo_perform_15 (v := (7 : Int32)) (by decide) ?_
  refine v_icmp_eq S d_Mo_perform_17 (tgt := 40) (by decide) (fun h5 => ?_) (fun h5 => ?_)
  · refine v_sub (L2 := [some (.ref (b + 0)), some (.int a0), some (.int x2), some (.int x4)]) (And.intro rfl (And.intro rfl (And.intro rfl (And.intro rfl True.intro)))) ?_
    exact C40 σ x2 x4
  · refine v_iload_n S d_Mo_perform_20 rfl rfl ?_
    refine v_bipush S d_Mo_perform_21 (v := (8 : Int32)) (by decide) ?_
    refine v_icmp_eq S d_Mo_perform_23 (tgt := 32) (by decide) (fun h30 => ?_) (fun h30 => ?_)
    · refine v_sub (L2 := [some (.ref (b + 0)), some (.int a0), some (.int x2), some (.int x4)]) (And.intro rfl (And.intro rfl (And.intro rfl (And.intro rfl True.intro)))) ?_
      exact C32 σ x2 x4
    · refine v_iload_n S d_Mo_perform_26 rfl rfl ?_
      refine v_bipush S d_Mo_perform_27 (v := (10 : Int32)) (by decide) ?_
      refine v_icmp_ne S d_Mo_perform_29 (tgt := 44) (by decide) (fun h34 => ?_) (fun h34 => ?_)
      · refine v_sub (L2 := [some (.ref (b + 0)), some (.int a0), some (.int x2), some (.int x4)]) (And.intro rfl (And.intro rfl (And.intro rfl (And.intro rfl True.intro)))) ?_
        exact C44 σ x2 x4
      · refine v_sub (L2 := [some (.ref (b + 0)), some (.int a0), some (.int x2), some (.int x4)]) (And.intro rfl (And.intro rfl (And.intro rfl (And.intro rfl True.intro)))) ?_
        exact C32 σ x2 x4
def fn_Mo_stepOnce_63  (σ : mm_M) (l1 : Int32) (s0 : Int32) : Option (Int32 × mm_M) :=
    (nm (mw σ 0 25 s0) (fun σ8 =>
    (if (σ8 0 25) = 0 then
    (bv (fn_Mo_perform σ8 l1) (fun σ10 =>
    (if (1 : Int32) = 0 ∨ (1 : Int32) = 1 then some ((1 : Int32), σ10) else none)))
    else
    (nm (mw σ8 0 16 (0 : Int32)) (fun σ11 =>
    (if (0 : Int32) = 0 ∨ (0 : Int32) = 1 then some ((0 : Int32), σ11) else none))))))
def fn_Mo_stepOnce_43  (σ : mm_M) (l1 : Int32) : Option (Int32 × mm_M) :=
    (fn_Mo_stepOnce_63 σ l1 (1 : Int32))
def fn_Mo_stepOnce (σ : mm_M)  : Option (Int32 × mm_M) :=
    (nm (mw σ 0 25 (0 : Int32)) (fun σ1 =>
    (if (σ1 0 16) = 0 then
    (if (0 : Int32) = 0 ∨ (0 : Int32) = 1 then some ((0 : Int32), σ1) else none)
    else
    (if (((σ1 0 16) - (1 : Int32)) < 0 ∨ 8 ≤ ((σ1 0 16) - (1 : Int32)).toNatClampNeg) then none else
    (nm (σ1 12 ((σ1 0 16) - (1 : Int32)).toNatClampNeg) (fun x4 =>
    (bd (fn_Mo_isAddress σ1 x4) (fun r6 σ5 =>
    (if r6 = 0 then
    (fn_Mo_stepOnce_43 σ5 x4)
    else
    (bd (fn_Mo_fitsValues σ5 x4) (fun r13 σ12 =>
    (if r13 = 0 then
    (fn_Mo_stepOnce_43 σ12 x4)
    else
    (if (x4 < 0 ∨ 100 ≤ x4.toNatClampNeg) then none else
    (if (x4 < 0 ∨ 100 ≤ x4.toNatClampNeg) then none else
    (bd (fn_Mo_trapOf σ12 (σ12 1 x4.toNatClampNeg) (σ12 2 x4.toNatClampNeg)) (fun r18 σ17 =>
    (fn_Mo_stepOnce_63 σ17 x4 r18)))))))))))))))))
set_option maxRecDepth 100000 in
set_option maxHeartbeats 40000000 in
theorem c_Mo_stepOnce (l : Launch) (D : va_G) (ca : Nat → ClassId) (ax : Nat → Nat → Nat) (b : Nat) (σ : mm_M)   {r : Int32} {σ' : mm_M} (hf : fn_Mo_stepOnce σ  = some (r, σ')) : Met l y_Mo_stepOnce w_Mo_stepOnce rm_Mo_stepOnce (pc_w D cls b N_M (ce_M ca b) (kM D ca ax b) [.ref (b + 0)] σ) (qc_i D cls b N_M (ce_M ca b) r σ') 0 0 (mm_A b N_M) := by
  refine vv_go (cc := b_Mo_stepOnce) (maxL := 2) (ret := (some .boolean)) (fin := (r, σ')) (k := fn_Mo_stepOnce σ ) (by decide) rfl (by simp [Value.category]) (Nat.le_of_ble_eq_true rfl) hf ?_
  intro p e s m below meth c hlocks hret S hKK
  have C63 : ∀ (σ : mm_M) (l1 : Int32) (s0 : Int32), vv p l e (headSpec w_Mo_stepOnce rm_Mo_stepOnce).room s m [.ref (b + 0)].toArray below meth c D cls b N_M (ce_M ca b) 2 (MQ below (qc_i D cls b N_M (ce_M ca b) r σ') [.ref (b + 0)].toArray s 0 0 (mm_A b N_M)) (r, σ') (fn_Mo_stepOnce_63  σ l1 s0) σ 63 [some (.ref (b + 0)), some (.int l1)] [.int s0, .ref (b + 0)] := by
    intro σ l1 s0
    unfold fn_Mo_stepOnce_63
    refine v_puti S (fun w h => List.mem_cons_of_mem _ (i_Mo w h)) hKK.1 0 (by decide) rfl rfl 25 (by decide) (S.2.2.2.2 _ (List.mem_cons_of_mem _ (wd_766))) (fun _ h => h) t_Mo t_Mo_ok n_Mo rfl (ty := .int) rfl rfl rfl (Nat.le_of_ble_eq_true rfl) rfl d_Mo_stepOnce_63 ?_
    refine v_sg (fun σ8 eσ8 => ?_)
    refine v_aload_n S d_Mo_stepOnce_66 rfl rfl ?_
    refine v_get S (fun w h => List.mem_cons_of_mem _ (i_Mo w h)) hKK.1 0 (by decide) rfl rfl 25 (by decide) (S.2.2.2.2 _ (List.mem_cons_of_mem _ (wd_766))) (fun _ h => h) rfl d_Mo_stepOnce_67 ?_
    refine v_if_eq S d_Mo_stepOnce_70 (tgt := 80) (by decide) (fun h9 => ?_) (fun h9 => ?_)
    · refine v_aload_n S d_Mo_stepOnce_80 rfl rfl ?_
      refine v_iload_n S d_Mo_stepOnce_81 rfl rfl ?_
      refine v_cv (rest := []) (fun _ hg H locs ls hsz hP hS => run_V (As := [.int l1]) (rest := []) S kM_ok hKK (c_Mo_perform l D ca ax b σ8 l1 hg) (k_Mo_184 S.2.2.2.2 (fun _ => List.mem_cons_of_mem _) ⟨Nat.le_of_ble_eq_true rfl, Nat.le_of_ble_eq_true rfl⟩) (rc_w hKK.1 hP 0 (by decide) rfl rfl) rfl rfl (Nat.zero_le _) d_Mo_stepOnce_82 hsz hP hS) (fun σ10 _ => ?_)
      refine v_iconst S d_Mo_stepOnce_85 (v := (1 : Int32)) (by decide) ?_
      exact v_zret S hret hlocks d_Mo_stepOnce_86
    · refine v_aload_n S d_Mo_stepOnce_73 rfl rfl ?_
      refine v_iconst S d_Mo_stepOnce_74 (v := (0 : Int32)) (by decide) ?_
      refine v_puti S (fun w h => List.mem_cons_of_mem _ (i_Mo w h)) hKK.1 0 (by decide) rfl rfl 16 (by decide) (S.2.2.2.2 _ (List.mem_cons_of_mem _ (wd_757))) (fun _ h => h) t_Mo t_Mo_ok n_Mo rfl (ty := .int) rfl rfl rfl (Nat.le_of_ble_eq_true rfl) rfl d_Mo_stepOnce_75 ?_
      refine v_sg (fun σ11 eσ11 => ?_)
      refine v_iconst S d_Mo_stepOnce_78 (v := (0 : Int32)) (by decide) ?_
      exact v_zret S hret hlocks d_Mo_stepOnce_79
  have C43 : ∀ (σ : mm_M) (l1 : Int32), vv p l e (headSpec w_Mo_stepOnce rm_Mo_stepOnce).room s m [.ref (b + 0)].toArray below meth c D cls b N_M (ce_M ca b) 2 (MQ below (qc_i D cls b N_M (ce_M ca b) r σ') [.ref (b + 0)].toArray s 0 0 (mm_A b N_M)) (r, σ') (fn_Mo_stepOnce_43  σ l1) σ 43 [some (.ref (b + 0)), some (.int l1)] [.ref (b + 0)] := by
    intro σ l1
    unfold fn_Mo_stepOnce_43
    refine v_iconst S d_Mo_stepOnce_43 (v := (1 : Int32)) (by decide) ?_
    refine v_goto S d_Mo_stepOnce_44 (tgt := 63) (by decide) ?_
    refine v_sub (L2 := [some (.ref (b + 0)), some (.int l1)]) (And.intro rfl (And.intro rfl True.intro)) ?_
    exact C63 σ l1 (1 : Int32)
  unfold fn_Mo_stepOnce
  refine v_aload_n S d_Mo_stepOnce_0 rfl rfl ?_
  refine v_iconst S d_Mo_stepOnce_1 (v := (0 : Int32)) (by decide) ?_
  refine v_puti S (fun w h => List.mem_cons_of_mem _ (i_Mo w h)) hKK.1 0 (by decide) rfl rfl 25 (by decide) (S.2.2.2.2 _ (List.mem_cons_of_mem _ (wd_766))) (fun _ h => h) t_Mo t_Mo_ok n_Mo rfl (ty := .int) rfl rfl rfl (Nat.le_of_ble_eq_true rfl) rfl d_Mo_stepOnce_2 ?_
  refine v_sg (fun σ1 eσ1 => ?_)
  refine v_aload_n S d_Mo_stepOnce_5 rfl rfl ?_
  refine v_get S (fun w h => List.mem_cons_of_mem _ (i_Mo w h)) hKK.1 0 (by decide) rfl rfl 16 (by decide) (S.2.2.2.2 _ (List.mem_cons_of_mem _ (wd_757))) (fun _ h => h) rfl d_Mo_stepOnce_6 ?_
  refine v_if_ne S d_Mo_stepOnce_9 (tgt := 14) (by decide) (fun h2 => ?_) (fun h2 => ?_)
  · refine v_aload_n S d_Mo_stepOnce_14 rfl rfl ?_
    refine v_get S (fun w h => List.mem_cons_of_mem _ (i_Mo w h)) hKK.1 0 (by decide) rfl rfl 18 (by decide) (S.2.2.2.2 _ (List.mem_cons_of_mem _ (wd_759))) (fun _ h => h) rfl d_Mo_stepOnce_15 ?_
    refine v_aload_n S d_Mo_stepOnce_18 rfl rfl ?_
    refine v_get S (fun w h => List.mem_cons_of_mem _ (i_Mo w h)) hKK.1 0 (by decide) rfl rfl 16 (by decide) (S.2.2.2.2 _ (List.mem_cons_of_mem _ (wd_757))) (fun _ h => h) rfl d_Mo_stepOnce_19 ?_
    refine v_iconst S d_Mo_stepOnce_22 (v := (1 : Int32)) (by decide) ?_
    refine v_isub S d_Mo_stepOnce_23 ?_
    refine v_iald S hKK.1 12 0 (by decide) rfl rfl d_Mo_stepOnce_24 (fun h3 => ?_)
    refine v_top (fun x4 ex4 => ?_)
    refine v_istore_nP S d_Mo_stepOnce_25 rfl (by decide) (L2 := [some (.ref (b + 0)), some (.int x4)]) rfl ?_
    refine v_aload_n S d_Mo_stepOnce_26 rfl rfl ?_
    refine v_aload_n S d_Mo_stepOnce_27 rfl rfl ?_
    refine v_iload_n S d_Mo_stepOnce_28 rfl rfl ?_
    refine v_ci (rest := [.ref (b + 0)]) (fun _ _ hg H locs ls hsz hP hS => run_V (As := [.int x4]) (rest := [.ref (b + 0)]) S kM_ok hKK (c_Mo_isAddress l D ca ax b σ1 x4 hg) (k_Mo_76 S.2.2.2.2 (fun _ => List.mem_cons_of_mem _) ⟨Nat.le_of_ble_eq_true rfl, Nat.le_of_ble_eq_true rfl⟩) (rc_w hKK.1 hP 0 (by decide) rfl rfl) rfl rfl (by simp [Value.category]) d_Mo_stepOnce_29 hsz hP hS) (fun r6 σ5 _ => ?_)
    refine v_if_eq S d_Mo_stepOnce_32 (tgt := 43) (by decide) (fun h7 => ?_) (fun h7 => ?_)
    · refine v_sub (L2 := [some (.ref (b + 0)), some (.int x4)]) (And.intro rfl (And.intro rfl True.intro)) ?_
      exact C43 σ5 x4
    · refine v_aload_n S d_Mo_stepOnce_35 rfl rfl ?_
      refine v_iload_n S d_Mo_stepOnce_36 rfl rfl ?_
      refine v_ci (rest := [.ref (b + 0)]) (fun _ _ hg H locs ls hsz hP hS => run_V (As := [.int x4]) (rest := [.ref (b + 0)]) S kM_ok hKK (c_Mo_fitsValues l D ca ax b σ5 x4 hg) (k_Mo_178 S.2.2.2.2 (fun _ => List.mem_cons_of_mem _) ⟨Nat.le_of_ble_eq_true rfl, Nat.le_of_ble_eq_true rfl⟩) (rc_w hKK.1 hP 0 (by decide) rfl rfl) rfl rfl (by simp [Value.category]) d_Mo_stepOnce_37 hsz hP hS) (fun r13 σ12 _ => ?_)
      refine v_if_ne S d_Mo_stepOnce_40 (tgt := 47) (by decide) (fun h14 => ?_) (fun h14 => ?_)
      · refine v_aload_n S d_Mo_stepOnce_47 rfl rfl ?_
        refine v_aload_n S d_Mo_stepOnce_48 rfl rfl ?_
        refine v_get S (fun w h => List.mem_cons_of_mem _ (i_Mo w h)) hKK.1 0 (by decide) rfl rfl 1 (by decide) (S.2.2.2.2 _ (List.mem_cons_of_mem _ (wd_742))) (fun _ h => h) rfl d_Mo_stepOnce_49 ?_
        refine v_iload_n S d_Mo_stepOnce_52 rfl rfl ?_
        refine v_iald S hKK.1 1 0 (by decide) rfl rfl d_Mo_stepOnce_53 (fun h15 => ?_)
        refine v_aload_n S d_Mo_stepOnce_54 rfl rfl ?_
        refine v_get S (fun w h => List.mem_cons_of_mem _ (i_Mo w h)) hKK.1 0 (by decide) rfl rfl 2 (by decide) (S.2.2.2.2 _ (List.mem_cons_of_mem _ (wd_743))) (fun _ h => h) rfl d_Mo_stepOnce_55 ?_
        refine v_iload_n S d_Mo_stepOnce_58 rfl rfl ?_
        refine v_iald S hKK.1 2 0 (by decide) rfl rfl d_Mo_stepOnce_59 (fun h16 => ?_)
        refine v_ci (rest := [.ref (b + 0)]) (fun _ _ hg H locs ls hsz hP hS => run_V (As := [.int (σ12 1 x4.toNatClampNeg), .int (σ12 2 x4.toNatClampNeg)]) (rest := [.ref (b + 0)]) S kM_ok hKK (c_Mo_trapOf l D ca ax b σ12 (σ12 1 x4.toNatClampNeg) (σ12 2 x4.toNatClampNeg) hg) (k_Mo_181 S.2.2.2.2 (fun _ => List.mem_cons_of_mem _) ⟨Nat.le_of_ble_eq_true rfl, Nat.le_of_ble_eq_true rfl⟩) (rc_w hKK.1 hP 0 (by decide) rfl rfl) rfl rfl (by simp [Value.category]) d_Mo_stepOnce_60 hsz hP hS) (fun r18 σ17 _ => ?_)
        refine v_sub (L2 := [some (.ref (b + 0)), some (.int x4)]) (And.intro rfl (And.intro rfl True.intro)) ?_
        exact C63 σ17 x4 r18
      · refine v_sub (L2 := [some (.ref (b + 0)), some (.int x4)]) (And.intro rfl (And.intro rfl True.intro)) ?_
        exact C43 σ12 x4
  · refine v_iconst S d_Mo_stepOnce_12 (v := (0 : Int32)) (by decide) ?_
    exact v_zret S hret hlocks d_Mo_stepOnce_13
def fn_Mo_step (σ : mm_M)  : Option (Int32 × mm_M) :=
    (bd (fn_Mo_stepOnce σ) (fun r2 σ1 =>
    (nm (mw σ1 0 26 (σ1 0 25)) (fun σ3 =>
    (if (σ3 0 16) ≤ 0 then
    (some ((0 : Int32), σ3))
    else
    (some ((1 : Int32), σ3)))))))
set_option maxRecDepth 100000 in
set_option maxHeartbeats 40000000 in
theorem c_Mo_step (l : Launch) (D : va_G) (ca : Nat → ClassId) (ax : Nat → Nat → Nat) (b : Nat) (σ : mm_M)   {r : Int32} {σ' : mm_M} (hf : fn_Mo_step σ  = some (r, σ')) : Met l y_Mo_step w_Mo_step rm_Mo_step (pc_w D cls b N_M (ce_M ca b) (kM D ca ax b) [.ref (b + 0)] σ) (qc_i D cls b N_M (ce_M ca b) r σ') 0 0 (mm_A b N_M) := by
  refine vv_go (cc := b_Mo_step) (maxL := 2) (ret := (some .int)) (fin := (r, σ')) (k := fn_Mo_step σ ) (by decide) rfl (by simp [Value.category]) (Nat.le_of_ble_eq_true rfl) hf ?_
  intro p e s m below meth c hlocks hret S hKK
  unfold fn_Mo_step
  refine v_aload_n S d_Mo_step_0 rfl rfl ?_
  refine v_ci (rest := []) (fun _ _ hg H locs ls hsz hP hS => run_V (As := []) (rest := []) S kM_ok hKK (c_Mo_stepOnce l D ca ax b σ hg) (k_Mo_187 S.2.2.2.2 (fun _ => List.mem_cons_of_mem _) ⟨Nat.le_of_ble_eq_true rfl, Nat.le_of_ble_eq_true rfl⟩) (rc_w hKK.1 hP 0 (by decide) rfl rfl) rfl rfl (Nat.zero_le _) d_Mo_step_1 hsz hP hS) (fun r2 σ1 _ => ?_)
  refine v_istore_nP S d_Mo_step_4 rfl (by decide) (L2 := [some (.ref (b + 0)), some (.int r2)]) rfl ?_
  refine v_aload_n S d_Mo_step_5 rfl rfl ?_
  refine v_aload_n S d_Mo_step_6 rfl rfl ?_
  refine v_get S (fun w h => List.mem_cons_of_mem _ (i_Mo w h)) hKK.1 0 (by decide) rfl rfl 25 (by decide) (S.2.2.2.2 _ (List.mem_cons_of_mem _ (wd_766))) (fun _ h => h) rfl d_Mo_step_7 ?_
  refine v_puti S (fun w h => List.mem_cons_of_mem _ (i_Mo w h)) hKK.1 0 (by decide) rfl rfl 26 (by decide) (S.2.2.2.2 _ (List.mem_cons_of_mem _ (wd_767))) (fun _ h => h) t_Mo t_Mo_ok n_Mo rfl (ty := .int) rfl rfl rfl (Nat.le_of_ble_eq_true rfl) rfl d_Mo_step_10 ?_
  refine v_sg (fun σ3 eσ3 => ?_)
  refine v_aload_n S d_Mo_step_13 rfl rfl ?_
  refine v_get S (fun w h => List.mem_cons_of_mem _ (i_Mo w h)) hKK.1 0 (by decide) rfl rfl 16 (by decide) (S.2.2.2.2 _ (List.mem_cons_of_mem _ (wd_757))) (fun _ h => h) rfl d_Mo_step_14 ?_
  refine v_if_le S d_Mo_step_17 (tgt := 24) (by decide) (fun h4 => ?_) (fun h4 => ?_)
  · refine v_iconst S d_Mo_step_24 (v := (0 : Int32)) (by decide) ?_
    exact v_iret S hret hlocks d_Mo_step_25
  · refine v_iconst S d_Mo_step_20 (v := (1 : Int32)) (by decide) ?_
    refine v_goto S d_Mo_step_21 (tgt := 25) (by decide) ?_
    exact v_iret S hret hlocks d_Mo_step_25
def fn_Mo_steps_92 (a0 : Int32) (σ : mm_M) (l2 : Int32) (s0 : Int32) : Option (Int32 × mm_M) :=
    (nm (mw σ 0 26 s0) (fun σ7 =>
    (if (σ7 0 26) = 0 then
    (some (l2, σ7))
    else
    (some ((0 : Int32), σ7)))))
def fn_Mo_steps_60 (a0 : Int32) (σ : mm_M) (l2 : Int32) : Option (Int32 × mm_M) :=
    (if (σ 0 26) = 0 then
    (if (σ 0 25) = 0 then
    (fn_Mo_steps_92 a0 σ l2 (0 : Int32))
    else
    (fn_Mo_steps_92 a0 σ l2 ((σ 0 25) + (1 : Int32))))
    else
    (fn_Mo_steps_92 a0 σ l2 (σ 0 26)))
def fn_Mo_steps_28 (a0 : Int32) : Nat → mm_M → Int32 → Option (Int32 × mm_M)
  | 0, _, _ => none
  | n + 1, σ, l2 =>
    (if (σ 0 26) = 0 then
    (if (σ 0 25) = 0 then
    (if a0 ≤ l2 then
    (fn_Mo_steps_60 a0 σ l2)
    else
    (bd (fn_Mo_stepOnce σ) (fun r12 σ11 =>
    (if r12 = 0 then
    (fn_Mo_steps_60 a0 σ11 l2)
    else
    (fn_Mo_steps_28 a0 n σ11 (l2 + (1 : Int32)))))))
    else
    (fn_Mo_steps_60 a0 σ l2))
    else
    (fn_Mo_steps_60 a0 σ l2))
def fn_Mo_steps (σ : mm_M) (a0 : Int32) : Option (Int32 × mm_M) :=
    (if a0 < (1 : Int32) then
    (nm (mw σ 0 26 (1 : Int32)) (fun σ2 =>
    (nm (mw σ2 0 25 (0 : Int32)) (fun σ3 =>
    (fn_Mo_steps_28 a0 fuel0 σ3 (0 : Int32))))))
    else
    (if a0 ≤ (200 : Int32) then
    (nm (mw σ 0 26 (0 : Int32)) (fun σ16 =>
    (nm (mw σ16 0 25 (0 : Int32)) (fun σ17 =>
    (fn_Mo_steps_28 a0 fuel0 σ17 (0 : Int32))))))
    else
    (nm (mw σ 0 26 (1 : Int32)) (fun σ18 =>
    (nm (mw σ18 0 25 (0 : Int32)) (fun σ19 =>
    (fn_Mo_steps_28 a0 fuel0 σ19 (0 : Int32))))))))
set_option maxRecDepth 100000 in
set_option maxHeartbeats 40000000 in
theorem c_Mo_steps (l : Launch) (D : va_G) (ca : Nat → ClassId) (ax : Nat → Nat → Nat) (b : Nat) (σ : mm_M) (a0 : Int32)  {r : Int32} {σ' : mm_M} (hf : fn_Mo_steps σ a0 = some (r, σ')) : Met l y_Mo_steps w_Mo_steps rm_Mo_steps (pc_w D cls b N_M (ce_M ca b) (kM D ca ax b) [.ref (b + 0), .int a0] σ) (qc_i D cls b N_M (ce_M ca b) r σ') 0 0 (mm_A b N_M) := by
  refine vv_go (cc := b_Mo_steps) (maxL := 3) (ret := (some .int)) (fin := (r, σ')) (k := fn_Mo_steps σ a0) (by decide) rfl (by simp [Value.category]) (Nat.le_of_ble_eq_true rfl) hf ?_
  intro p e s m below meth c hlocks hret S hKK
  have C92 : ∀ (σ : mm_M) (l2 : Int32) (s0 : Int32), vv p l e (headSpec w_Mo_steps rm_Mo_steps).room s m [.ref (b + 0), .int a0].toArray below meth c D cls b N_M (ce_M ca b) 3 (MQ below (qc_i D cls b N_M (ce_M ca b) r σ') [.ref (b + 0), .int a0].toArray s 0 0 (mm_A b N_M)) (r, σ') (fn_Mo_steps_92 a0 σ l2 s0) σ 92 [some (.ref (b + 0)), none, some (.int l2)] [.int s0, .ref (b + 0)] := by
    intro σ l2 s0
    unfold fn_Mo_steps_92
    refine v_puti S (fun w h => List.mem_cons_of_mem _ (i_Mo w h)) hKK.1 0 (by decide) rfl rfl 26 (by decide) (S.2.2.2.2 _ (List.mem_cons_of_mem _ (wd_767))) (fun _ h => h) t_Mo t_Mo_ok n_Mo rfl (ty := .int) rfl rfl rfl (Nat.le_of_ble_eq_true rfl) rfl d_Mo_steps_92 ?_
    refine v_sg (fun σ7 eσ7 => ?_)
    refine v_aload_n S d_Mo_steps_95 rfl rfl ?_
    refine v_get S (fun w h => List.mem_cons_of_mem _ (i_Mo w h)) hKK.1 0 (by decide) rfl rfl 26 (by decide) (S.2.2.2.2 _ (List.mem_cons_of_mem _ (wd_767))) (fun _ h => h) rfl d_Mo_steps_96 ?_
    refine v_if_ne S d_Mo_steps_99 (tgt := 106) (by decide) (fun h8 => ?_) (fun h8 => ?_)
    · refine v_iconst S d_Mo_steps_106 (v := (0 : Int32)) (by decide) ?_
      exact v_iret S hret hlocks d_Mo_steps_107
    · refine v_iload_n S d_Mo_steps_102 rfl rfl ?_
      refine v_goto S d_Mo_steps_103 (tgt := 107) (by decide) ?_
      exact v_iret S hret hlocks d_Mo_steps_107
  have C60 : ∀ (σ : mm_M) (l2 : Int32), vv p l e (headSpec w_Mo_steps rm_Mo_steps).room s m [.ref (b + 0), .int a0].toArray below meth c D cls b N_M (ce_M ca b) 3 (MQ below (qc_i D cls b N_M (ce_M ca b) r σ') [.ref (b + 0), .int a0].toArray s 0 0 (mm_A b N_M)) (r, σ') (fn_Mo_steps_60 a0 σ l2) σ 60 [some (.ref (b + 0)), none, some (.int l2)] [] := by
    intro σ l2
    unfold fn_Mo_steps_60
    refine v_aload_n S d_Mo_steps_60 rfl rfl ?_
    refine v_aload_n S d_Mo_steps_61 rfl rfl ?_
    refine v_get S (fun w h => List.mem_cons_of_mem _ (i_Mo w h)) hKK.1 0 (by decide) rfl rfl 26 (by decide) (S.2.2.2.2 _ (List.mem_cons_of_mem _ (wd_767))) (fun _ h => h) rfl d_Mo_steps_62 ?_
    refine v_if_eq S d_Mo_steps_65 (tgt := 75) (by decide) (fun h5 => ?_) (fun h5 => ?_)
    · refine v_aload_n S d_Mo_steps_75 rfl rfl ?_
      refine v_get S (fun w h => List.mem_cons_of_mem _ (i_Mo w h)) hKK.1 0 (by decide) rfl rfl 25 (by decide) (S.2.2.2.2 _ (List.mem_cons_of_mem _ (wd_766))) (fun _ h => h) rfl d_Mo_steps_76 ?_
      refine v_if_ne S d_Mo_steps_79 (tgt := 86) (by decide) (fun h6 => ?_) (fun h6 => ?_)
      · refine v_aload_n S d_Mo_steps_86 rfl rfl ?_
        refine v_get S (fun w h => List.mem_cons_of_mem _ (i_Mo w h)) hKK.1 0 (by decide) rfl rfl 25 (by decide) (S.2.2.2.2 _ (List.mem_cons_of_mem _ (wd_766))) (fun _ h => h) rfl d_Mo_steps_87 ?_
        refine v_iconst S d_Mo_steps_90 (v := (1 : Int32)) (by decide) ?_
        refine v_iadd S d_Mo_steps_91 ?_
        refine v_sub (L2 := [some (.ref (b + 0)), none, some (.int l2)]) (And.intro rfl (And.intro rfl True.intro)) ?_
        exact C92 σ l2 ((σ 0 25) + (1 : Int32))
      · refine v_iconst S d_Mo_steps_82 (v := (0 : Int32)) (by decide) ?_
        refine v_goto S d_Mo_steps_83 (tgt := 92) (by decide) ?_
        refine v_sub (L2 := [some (.ref (b + 0)), none, some (.int l2)]) (And.intro rfl (And.intro rfl True.intro)) ?_
        exact C92 σ l2 (0 : Int32)
    · refine v_aload_n S d_Mo_steps_68 rfl rfl ?_
      refine v_get S (fun w h => List.mem_cons_of_mem _ (i_Mo w h)) hKK.1 0 (by decide) rfl rfl 26 (by decide) (S.2.2.2.2 _ (List.mem_cons_of_mem _ (wd_767))) (fun _ h => h) rfl d_Mo_steps_69 ?_
      refine v_goto S d_Mo_steps_72 (tgt := 92) (by decide) ?_
      refine v_sub (L2 := [some (.ref (b + 0)), none, some (.int l2)]) (And.intro rfl (And.intro rfl True.intro)) ?_
      exact C92 σ l2 (σ 0 26)
  have C28 : ∀ (n : Nat) (σ : mm_M) (l2 : Int32), vv p l e (headSpec w_Mo_steps rm_Mo_steps).room s m [.ref (b + 0), .int a0].toArray below meth c D cls b N_M (ce_M ca b) 3 (MQ below (qc_i D cls b N_M (ce_M ca b) r σ') [.ref (b + 0), .int a0].toArray s 0 0 (mm_A b N_M)) (r, σ') (fn_Mo_steps_28 a0 n σ l2) σ 28 [some (.ref (b + 0)), some (.int a0), some (.int l2)] [] := by
    intro n
    induction n with
    | zero => intro σ l2  h; cases h
    | succ n ih =>
      intro σ l2
      show vv p l e (headSpec w_Mo_steps rm_Mo_steps).room s m [.ref (b + 0), .int a0].toArray below meth c D cls b N_M (ce_M ca b) 3 (MQ below (qc_i D cls b N_M (ce_M ca b) r σ') [.ref (b + 0), .int a0].toArray s 0 0 (mm_A b N_M)) (r, σ') (        (if (σ 0 26) = 0 then
        (if (σ 0 25) = 0 then
        (if a0 ≤ l2 then
        (fn_Mo_steps_60 a0 σ l2)
        else
        (bd (fn_Mo_stepOnce σ) (fun r12 σ11 =>
        (if r12 = 0 then
        (fn_Mo_steps_60 a0 σ11 l2)
        else
        (fn_Mo_steps_28 a0 n σ11 (l2 + (1 : Int32)))))))
        else
        (fn_Mo_steps_60 a0 σ l2))
        else
        (fn_Mo_steps_60 a0 σ l2))) σ 28 [some (.ref (b + 0)), some (.int a0), some (.int l2)] []
      refine v_aload_n S d_Mo_steps_28 rfl rfl ?_
      refine v_get S (fun w h => List.mem_cons_of_mem _ (i_Mo w h)) hKK.1 0 (by decide) rfl rfl 26 (by decide) (S.2.2.2.2 _ (List.mem_cons_of_mem _ (wd_767))) (fun _ h => h) rfl d_Mo_steps_29 ?_
      refine v_if_ne S d_Mo_steps_32 (tgt := 60) (by decide) (fun h4 => ?_) (fun h4 => ?_)
      · refine v_sub (L2 := [some (.ref (b + 0)), none, some (.int l2)]) (And.intro rfl (And.intro rfl True.intro)) ?_
        exact C60 σ l2
      · refine v_aload_n S d_Mo_steps_35 rfl rfl ?_
        refine v_get S (fun w h => List.mem_cons_of_mem _ (i_Mo w h)) hKK.1 0 (by decide) rfl rfl 25 (by decide) (S.2.2.2.2 _ (List.mem_cons_of_mem _ (wd_766))) (fun _ h => h) rfl d_Mo_steps_36 ?_
        refine v_if_ne S d_Mo_steps_39 (tgt := 60) (by decide) (fun h9 => ?_) (fun h9 => ?_)
        · refine v_sub (L2 := [some (.ref (b + 0)), none, some (.int l2)]) (And.intro rfl (And.intro rfl True.intro)) ?_
          exact C60 σ l2
        · refine v_iload_n S d_Mo_steps_42 rfl rfl ?_
          refine v_iload_n S d_Mo_steps_43 rfl rfl ?_
          refine v_icmp_ge S d_Mo_steps_44 (tgt := 60) (by decide) (fun h10 => ?_) (fun h10 => ?_)
          · refine v_sub (L2 := [some (.ref (b + 0)), none, some (.int l2)]) (And.intro rfl (And.intro rfl True.intro)) ?_
            exact C60 σ l2
          · refine v_aload_n S d_Mo_steps_47 rfl rfl ?_
            refine v_ci (rest := []) (fun _ _ hg H locs ls hsz hP hS => run_V (As := []) (rest := []) S kM_ok hKK (c_Mo_stepOnce l D ca ax b σ hg) (k_Mo_187 S.2.2.2.2 (fun _ => List.mem_cons_of_mem _) ⟨Nat.le_of_ble_eq_true rfl, Nat.le_of_ble_eq_true rfl⟩) (rc_w hKK.1 hP 0 (by decide) rfl rfl) rfl rfl (Nat.zero_le _) d_Mo_steps_48 hsz hP hS) (fun r12 σ11 _ => ?_)
            refine v_if_eq S d_Mo_steps_51 (tgt := 60) (by decide) (fun h13 => ?_) (fun h13 => ?_)
            · refine v_sub (L2 := [some (.ref (b + 0)), none, some (.int l2)]) (And.intro rfl (And.intro rfl True.intro)) ?_
              exact C60 σ11 l2
            · refine v_iinc S d_Mo_steps_54 rfl (v := (l2 + (1 : Int32))) (by first | rfl | decide) (by decide) (L2 := [some (.ref (b + 0)), some (.int a0), some (.int (l2 + (1 : Int32)))]) rfl ?_
              refine v_goto S d_Mo_steps_57 (tgt := 28) (by decide) ?_
              refine v_sub (L2 := [some (.ref (b + 0)), some (.int a0), some (.int (l2 + (1 : Int32)))]) (And.intro rfl (And.intro rfl (And.intro rfl True.intro))) ?_
              exact ih σ11 (l2 + (1 : Int32))
  unfold fn_Mo_steps
  refine v_aload_n S d_Mo_steps_0 rfl rfl ?_
  refine v_iload_n S d_Mo_steps_1 rfl rfl ?_
  refine v_iconst S d_Mo_steps_2 (v := (1 : Int32)) (by decide) ?_
  refine v_icmp_lt S d_Mo_steps_3 (tgt := 13) (by decide) (fun h1 => ?_) (fun h1 => ?_)
  · refine v_iconst S d_Mo_steps_13 (v := (1 : Int32)) (by decide) ?_
    refine v_goto S d_Mo_steps_14 (tgt := 18) (by decide) ?_
    refine v_puti S (fun w h => List.mem_cons_of_mem _ (i_Mo w h)) hKK.1 0 (by decide) rfl rfl 26 (by decide) (S.2.2.2.2 _ (List.mem_cons_of_mem _ (wd_767))) (fun _ h => h) t_Mo t_Mo_ok n_Mo rfl (ty := .int) rfl rfl rfl (Nat.le_of_ble_eq_true rfl) rfl d_Mo_steps_18 ?_
    refine v_sg (fun σ2 eσ2 => ?_)
    refine v_iconst S d_Mo_steps_21 (v := (0 : Int32)) (by decide) ?_
    refine v_istore_nP S d_Mo_steps_22 rfl (by decide) (L2 := [some (.ref (b + 0)), some (.int a0), some (.int (0 : Int32))]) rfl ?_
    refine v_aload_n S d_Mo_steps_23 rfl rfl ?_
    refine v_iconst S d_Mo_steps_24 (v := (0 : Int32)) (by decide) ?_
    refine v_puti S (fun w h => List.mem_cons_of_mem _ (i_Mo w h)) hKK.1 0 (by decide) rfl rfl 25 (by decide) (S.2.2.2.2 _ (List.mem_cons_of_mem _ (wd_766))) (fun _ h => h) t_Mo t_Mo_ok n_Mo rfl (ty := .int) rfl rfl rfl (Nat.le_of_ble_eq_true rfl) rfl d_Mo_steps_25 ?_
    refine v_sg (fun σ3 eσ3 => ?_)
    refine v_sub (L2 := [some (.ref (b + 0)), some (.int a0), some (.int (0 : Int32))]) (And.intro rfl (And.intro rfl (And.intro rfl True.intro))) ?_
    exact C28 fuel0 σ3 (0 : Int32)
  · refine v_iload_n S d_Mo_steps_6 rfl rfl ?_
    refine v_sipush S d_Mo_steps_7 (v := (200 : Int32)) (by decide) ?_
    refine v_icmp_le S d_Mo_steps_10 (tgt := 17) (by decide) (fun h15 => ?_) (fun h15 => ?_)
    · refine v_iconst S d_Mo_steps_17 (v := (0 : Int32)) (by decide) ?_
      refine v_puti S (fun w h => List.mem_cons_of_mem _ (i_Mo w h)) hKK.1 0 (by decide) rfl rfl 26 (by decide) (S.2.2.2.2 _ (List.mem_cons_of_mem _ (wd_767))) (fun _ h => h) t_Mo t_Mo_ok n_Mo rfl (ty := .int) rfl rfl rfl (Nat.le_of_ble_eq_true rfl) rfl d_Mo_steps_18 ?_
      refine v_sg (fun σ16 eσ16 => ?_)
      refine v_iconst S d_Mo_steps_21 (v := (0 : Int32)) (by decide) ?_
      refine v_istore_nP S d_Mo_steps_22 rfl (by decide) (L2 := [some (.ref (b + 0)), some (.int a0), some (.int (0 : Int32))]) rfl ?_
      refine v_aload_n S d_Mo_steps_23 rfl rfl ?_
      refine v_iconst S d_Mo_steps_24 (v := (0 : Int32)) (by decide) ?_
      refine v_puti S (fun w h => List.mem_cons_of_mem _ (i_Mo w h)) hKK.1 0 (by decide) rfl rfl 25 (by decide) (S.2.2.2.2 _ (List.mem_cons_of_mem _ (wd_766))) (fun _ h => h) t_Mo t_Mo_ok n_Mo rfl (ty := .int) rfl rfl rfl (Nat.le_of_ble_eq_true rfl) rfl d_Mo_steps_25 ?_
      refine v_sg (fun σ17 eσ17 => ?_)
      refine v_sub (L2 := [some (.ref (b + 0)), some (.int a0), some (.int (0 : Int32))]) (And.intro rfl (And.intro rfl (And.intro rfl True.intro))) ?_
      exact C28 fuel0 σ17 (0 : Int32)
    · refine v_iconst S d_Mo_steps_13 (v := (1 : Int32)) (by decide) ?_
      refine v_goto S d_Mo_steps_14 (tgt := 18) (by decide) ?_
      refine v_puti S (fun w h => List.mem_cons_of_mem _ (i_Mo w h)) hKK.1 0 (by decide) rfl rfl 26 (by decide) (S.2.2.2.2 _ (List.mem_cons_of_mem _ (wd_767))) (fun _ h => h) t_Mo t_Mo_ok n_Mo rfl (ty := .int) rfl rfl rfl (Nat.le_of_ble_eq_true rfl) rfl d_Mo_steps_18 ?_
      refine v_sg (fun σ18 eσ18 => ?_)
      refine v_iconst S d_Mo_steps_21 (v := (0 : Int32)) (by decide) ?_
      refine v_istore_nP S d_Mo_steps_22 rfl (by decide) (L2 := [some (.ref (b + 0)), some (.int a0), some (.int (0 : Int32))]) rfl ?_
      refine v_aload_n S d_Mo_steps_23 rfl rfl ?_
      refine v_iconst S d_Mo_steps_24 (v := (0 : Int32)) (by decide) ?_
      refine v_puti S (fun w h => List.mem_cons_of_mem _ (i_Mo w h)) hKK.1 0 (by decide) rfl rfl 25 (by decide) (S.2.2.2.2 _ (List.mem_cons_of_mem _ (wd_766))) (fun _ h => h) t_Mo t_Mo_ok n_Mo rfl (ty := .int) rfl rfl rfl (Nat.le_of_ble_eq_true rfl) rfl d_Mo_steps_25 ?_
      refine v_sg (fun σ19 eσ19 => ?_)
      refine v_sub (L2 := [some (.ref (b + 0)), some (.int a0), some (.int (0 : Int32))]) (And.intro rfl (And.intro rfl (And.intro rfl True.intro))) ?_
      exact C28 fuel0 σ19 (0 : Int32)
end
section
/-! contracts of 20.model; written by wip/whole/make.py -/
def fn_Mo_about_32 (a0 : Int32) (σ : mm_M) (l2 : Int32) (s0 : Int32) : Option (Int32 × mm_M) :=
    (if (s0 < 0 ∨ 8 ≤ s0.toNatClampNeg) then none else
    (nm ((((12 : Int32) * s0) + (5 : Int32)) + (σ 13 s0.toNatClampNeg)) (fun x5 =>
    (if a0 = (0 : Int32) then
    (if l2 = 0 then
    (some ((0 : Int32), σ))
    else
    (some ((1 : Int32), σ)))
    else
    (if a0 = (1 : Int32) then
    (if l2 = 0 then
    (some ((-1 : Int32), σ))
    else
    (if (s0 < 0 ∨ 8 ≤ s0.toNatClampNeg) then none else
    (some ((σ 12 s0.toNatClampNeg), σ))))
    else
    (if a0 = (2 : Int32) then
    (if l2 = 0 then
    (some ((-1 : Int32), σ))
    else
    (some ((σ 0 16), σ)))
    else
    (if a0 = (3 : Int32) then
    (if l2 = 0 then
    (some ((-1 : Int32), σ))
    else
    (if (s0 < 0 ∨ 8 ≤ s0.toNatClampNeg) then none else
    (some ((σ 13 s0.toNatClampNeg), σ))))
    else
    (if a0 = (4 : Int32) then
    (if l2 = 0 then
    (some ((-1 : Int32), σ))
    else
    (if (s0 < 0 ∨ 8 ≤ s0.toNatClampNeg) then none else
    (if (σ 13 s0.toNatClampNeg) ≤ 0 then
    (some ((-1 : Int32), σ))
    else
    (if (x5 < 0 ∨ 96 ≤ x5.toNatClampNeg) then none else
    (if (x5 < 0 ∨ 96 ≤ x5.toNatClampNeg) then none else
    (bd (fn_Mo_seen σ (σ 15 x5.toNatClampNeg) (σ 14 x5.toNatClampNeg)) (fun r23 σ22 =>
    (some (r23, σ22)))))))))
    else
    (if a0 = (5 : Int32) then
    (some ((σ 0 24), σ))
    else
    (if a0 = (6 : Int32) then
    (some ((σ 0 22), σ))
    else
    (if a0 = (7 : Int32) then
    (some ((σ 0 0), σ))
    else
    (some ((-1 : Int32), σ)))))))))))))
def fn_Mo_about_17 (a0 : Int32) (σ : mm_M) (s0 : Int32) : Option (Int32 × mm_M) :=
    (if s0 = 0 then
    (fn_Mo_about_32 a0 σ s0 (0 : Int32))
    else
    (fn_Mo_about_32 a0 σ s0 ((σ 0 16) - (1 : Int32))))
def fn_Mo_about (σ : mm_M) (a0 : Int32) : Option (Int32 × mm_M) :=
    (nm (mw σ 0 26 (0 : Int32)) (fun σ1 =>
    (if (σ1 0 16) ≤ 0 then
    (fn_Mo_about_17 a0 σ1 (0 : Int32))
    else
    (fn_Mo_about_17 a0 σ1 (1 : Int32)))))
set_option maxRecDepth 100000 in
set_option maxHeartbeats 40000000 in
theorem c_Mo_about (l : Launch) (D : va_G) (ca : Nat → ClassId) (ax : Nat → Nat → Nat) (b : Nat) (σ : mm_M) (a0 : Int32)  {r : Int32} {σ' : mm_M} (hf : fn_Mo_about σ a0 = some (r, σ')) : Met l y_Mo_about w_Mo_about rm_Mo_about (pc_w D cls b N_M (ce_M ca b) (kM D ca ax b) [.ref (b + 0), .int a0] σ) (qc_i D cls b N_M (ce_M ca b) r σ') 0 0 (mm_A b N_M) := by
  refine vv_go (cc := b_Mo_about) (maxL := 5) (ret := (some .int)) (fin := (r, σ')) (k := fn_Mo_about σ a0) (by decide) rfl (by simp [Value.category]) (Nat.le_of_ble_eq_true rfl) hf ?_
  intro p e s m below meth c hlocks hret S hKK
  have C32 : ∀ (σ : mm_M) (l2 : Int32) (s0 : Int32), vv p l e (headSpec w_Mo_about rm_Mo_about).room s m [.ref (b + 0), .int a0].toArray below meth c D cls b N_M (ce_M ca b) 5 (MQ below (qc_i D cls b N_M (ce_M ca b) r σ') [.ref (b + 0), .int a0].toArray s 0 0 (mm_A b N_M)) (r, σ') (fn_Mo_about_32 a0 σ l2 s0) σ 32 [some (.ref (b + 0)), some (.int a0), some (.int l2)] [.int s0] := by
    intro σ l2 s0
    unfold fn_Mo_about_32
    refine v_istore_nP S d_Mo_about_32 rfl (by decide) (L2 := [some (.ref (b + 0)), some (.int a0), some (.int l2), some (.int s0)]) rfl ?_
    refine v_bipush S d_Mo_about_33 (v := (12 : Int32)) (by decide) ?_
    refine v_iload_n S d_Mo_about_35 rfl rfl ?_
    refine v_imul S d_Mo_about_36 ?_
    refine v_iconst S d_Mo_about_37 (v := (5 : Int32)) (by decide) ?_
    refine v_iadd S d_Mo_about_38 ?_
    refine v_aload_n S d_Mo_about_39 rfl rfl ?_
    refine v_get S (fun w h => List.mem_cons_of_mem _ (i_Mo w h)) hKK.1 0 (by decide) rfl rfl 19 (by decide) (S.2.2.2.2 _ (List.mem_cons_of_mem _ (wd_760))) (fun _ h => h) rfl d_Mo_about_40 ?_
    refine v_iload_n S d_Mo_about_43 rfl rfl ?_
    refine v_iald S hKK.1 13 0 (by decide) rfl rfl d_Mo_about_44 (fun h4 => ?_)
    refine v_iadd S d_Mo_about_45 ?_
    refine v_top (fun x5 ex5 => ?_)
    refine v_istoreP S d_Mo_about_46 (by decide) (L2 := [some (.ref (b + 0)), some (.int a0), some (.int l2), some (.int s0), some (.int x5)]) rfl ?_
    refine v_iload_n S d_Mo_about_48 rfl rfl ?_
    refine v_tsw S (0 : Int32) (tgt := 96) d_Mo_about_49 (by decide) (by decide) (off := 47) rfl (by decide) (fun h6 => ?_) (fun h6 => ?_)
    · refine v_iload_n S d_Mo_about_96 rfl rfl ?_
      refine v_if_eq S d_Mo_about_97 (tgt := 104) (by decide) (fun h7 => ?_) (fun h7 => ?_)
      · refine v_iconst S d_Mo_about_104 (v := (0 : Int32)) (by decide) ?_
        exact v_iret S hret hlocks d_Mo_about_105
      · refine v_iconst S d_Mo_about_100 (v := (1 : Int32)) (by decide) ?_
        refine v_goto S d_Mo_about_101 (tgt := 105) (by decide) ?_
        exact v_iret S hret hlocks d_Mo_about_105
    · refine v_tsw S (1 : Int32) (tgt := 106) d_Mo_about_49 (by decide) (by decide) (off := 57) rfl (by decide) (fun h8 => ?_) (fun h8 => ?_)
      · refine v_iload_n S d_Mo_about_106 rfl rfl ?_
        refine v_if_eq S d_Mo_about_107 (tgt := 119) (by decide) (fun h9 => ?_) (fun h9 => ?_)
        · refine v_iconst S d_Mo_about_119 (v := (-1 : Int32)) (by decide) ?_
          exact v_iret S hret hlocks d_Mo_about_120
        · refine v_aload_n S d_Mo_about_110 rfl rfl ?_
          refine v_get S (fun w h => List.mem_cons_of_mem _ (i_Mo w h)) hKK.1 0 (by decide) rfl rfl 18 (by decide) (S.2.2.2.2 _ (List.mem_cons_of_mem _ (wd_759))) (fun _ h => h) rfl d_Mo_about_111 ?_
          refine v_iload_n S d_Mo_about_114 rfl rfl ?_
          refine v_iald S hKK.1 12 0 (by decide) rfl rfl d_Mo_about_115 (fun h10 => ?_)
          refine v_goto S d_Mo_about_116 (tgt := 120) (by decide) ?_
          exact v_iret S hret hlocks d_Mo_about_120
      · refine v_tsw S (2 : Int32) (tgt := 121) d_Mo_about_49 (by decide) (by decide) (off := 72) rfl (by decide) (fun h11 => ?_) (fun h11 => ?_)
        · refine v_iload_n S d_Mo_about_121 rfl rfl ?_
          refine v_if_eq S d_Mo_about_122 (tgt := 132) (by decide) (fun h12 => ?_) (fun h12 => ?_)
          · refine v_iconst S d_Mo_about_132 (v := (-1 : Int32)) (by decide) ?_
            exact v_iret S hret hlocks d_Mo_about_133
          · refine v_aload_n S d_Mo_about_125 rfl rfl ?_
            refine v_get S (fun w h => List.mem_cons_of_mem _ (i_Mo w h)) hKK.1 0 (by decide) rfl rfl 16 (by decide) (S.2.2.2.2 _ (List.mem_cons_of_mem _ (wd_757))) (fun _ h => h) rfl d_Mo_about_126 ?_
            refine v_goto S d_Mo_about_129 (tgt := 133) (by decide) ?_
            exact v_iret S hret hlocks d_Mo_about_133
        · refine v_tsw S (3 : Int32) (tgt := 134) d_Mo_about_49 (by decide) (by decide) (off := 85) rfl (by decide) (fun h13 => ?_) (fun h13 => ?_)
          · refine v_iload_n S d_Mo_about_134 rfl rfl ?_
            refine v_if_eq S d_Mo_about_135 (tgt := 147) (by decide) (fun h14 => ?_) (fun h14 => ?_)
            · refine v_iconst S d_Mo_about_147 (v := (-1 : Int32)) (by decide) ?_
              exact v_iret S hret hlocks d_Mo_about_148
            · refine v_aload_n S d_Mo_about_138 rfl rfl ?_
              refine v_get S (fun w h => List.mem_cons_of_mem _ (i_Mo w h)) hKK.1 0 (by decide) rfl rfl 19 (by decide) (S.2.2.2.2 _ (List.mem_cons_of_mem _ (wd_760))) (fun _ h => h) rfl d_Mo_about_139 ?_
              refine v_iload_n S d_Mo_about_142 rfl rfl ?_
              refine v_iald S hKK.1 13 0 (by decide) rfl rfl d_Mo_about_143 (fun h15 => ?_)
              refine v_goto S d_Mo_about_144 (tgt := 148) (by decide) ?_
              exact v_iret S hret hlocks d_Mo_about_148
          · refine v_tsw S (4 : Int32) (tgt := 149) d_Mo_about_49 (by decide) (by decide) (off := 100) rfl (by decide) (fun h16 => ?_) (fun h16 => ?_)
            · refine v_iload_n S d_Mo_about_149 rfl rfl ?_
              refine v_if_eq S d_Mo_about_150 (tgt := 182) (by decide) (fun h17 => ?_) (fun h17 => ?_)
              · refine v_iconst S d_Mo_about_182 (v := (-1 : Int32)) (by decide) ?_
                exact v_iret S hret hlocks d_Mo_about_183
              · refine v_aload_n S d_Mo_about_153 rfl rfl ?_
                refine v_get S (fun w h => List.mem_cons_of_mem _ (i_Mo w h)) hKK.1 0 (by decide) rfl rfl 19 (by decide) (S.2.2.2.2 _ (List.mem_cons_of_mem _ (wd_760))) (fun _ h => h) rfl d_Mo_about_154 ?_
                refine v_iload_n S d_Mo_about_157 rfl rfl ?_
                refine v_iald S hKK.1 13 0 (by decide) rfl rfl d_Mo_about_158 (fun h18 => ?_)
                refine v_if_le S d_Mo_about_159 (tgt := 182) (by decide) (fun h19 => ?_) (fun h19 => ?_)
                · refine v_iconst S d_Mo_about_182 (v := (-1 : Int32)) (by decide) ?_
                  exact v_iret S hret hlocks d_Mo_about_183
                · refine v_aload_n S d_Mo_about_162 rfl rfl ?_
                  refine v_get S (fun w h => List.mem_cons_of_mem _ (i_Mo w h)) hKK.1 0 (by decide) rfl rfl 21 (by decide) (S.2.2.2.2 _ (List.mem_cons_of_mem _ (wd_762))) (fun _ h => h) rfl d_Mo_about_163 ?_
                  refine v_iload S d_Mo_about_166 rfl ?_
                  refine v_iald S hKK.1 15 0 (by decide) rfl rfl d_Mo_about_168 (fun h20 => ?_)
                  refine v_aload_n S d_Mo_about_169 rfl rfl ?_
                  refine v_get S (fun w h => List.mem_cons_of_mem _ (i_Mo w h)) hKK.1 0 (by decide) rfl rfl 20 (by decide) (S.2.2.2.2 _ (List.mem_cons_of_mem _ (wd_761))) (fun _ h => h) rfl d_Mo_about_170 ?_
                  refine v_iload S d_Mo_about_173 rfl ?_
                  refine v_iald S hKK.1 14 0 (by decide) rfl rfl d_Mo_about_175 (fun h21 => ?_)
                  refine v_ci (rest := []) (fun _ _ hg H locs ls hsz hP hS => run_S (As := [.int (σ 15 x5.toNatClampNeg), .int (σ 14 x5.toNatClampNeg)]) (rest := []) S kM_ok hKK (c_Mo_seen l D ca ax b σ (σ 15 x5.toNatClampNeg) (σ 14 x5.toNatClampNeg) hg) (k_Mo_154 S.2.2.2.2 (fun _ => List.mem_cons_of_mem _) ⟨Nat.le_of_ble_eq_true rfl, Nat.le_of_ble_eq_true rfl⟩) rfl rfl (Nat.zero_le _) d_Mo_about_176 hsz hP hS) (fun r23 σ22 _ => ?_)
                  refine v_goto S d_Mo_about_179 (tgt := 183) (by decide) ?_
                  exact v_iret S hret hlocks d_Mo_about_183
            · refine v_tsw S (5 : Int32) (tgt := 184) d_Mo_about_49 (by decide) (by decide) (off := 135) rfl (by decide) (fun h24 => ?_) (fun h24 => ?_)
              · refine v_aload_n S d_Mo_about_184 rfl rfl ?_
                refine v_get S (fun w h => List.mem_cons_of_mem _ (i_Mo w h)) hKK.1 0 (by decide) rfl rfl 24 (by decide) (S.2.2.2.2 _ (List.mem_cons_of_mem _ (wd_765))) (fun _ h => h) rfl d_Mo_about_185 ?_
                exact v_iret S hret hlocks d_Mo_about_188
              · refine v_tsw S (6 : Int32) (tgt := 189) d_Mo_about_49 (by decide) (by decide) (off := 140) rfl (by decide) (fun h25 => ?_) (fun h25 => ?_)
                · refine v_aload_n S d_Mo_about_189 rfl rfl ?_
                  refine v_get S (fun w h => List.mem_cons_of_mem _ (i_Mo w h)) hKK.1 0 (by decide) rfl rfl 22 (by decide) (S.2.2.2.2 _ (List.mem_cons_of_mem _ (wd_763))) (fun _ h => h) rfl d_Mo_about_190 ?_
                  exact v_iret S hret hlocks d_Mo_about_193
                · refine v_tsw S (7 : Int32) (tgt := 194) d_Mo_about_49 (by decide) (by decide) (off := 145) rfl (by decide) (fun h26 => ?_) (fun h26 => ?_)
                  · refine v_aload_n S d_Mo_about_194 rfl rfl ?_
                    refine v_get S (fun w h => List.mem_cons_of_mem _ (i_Mo w h)) hKK.1 0 (by decide) rfl rfl 0 (by decide) (S.2.2.2.2 _ (List.mem_cons_of_mem _ (wd_741))) (fun _ h => h) rfl d_Mo_about_195 ?_
                    exact v_iret S hret hlocks d_Mo_about_198
                  · refine v_tswD S (tgt := 199) d_Mo_about_49 (by have := a0.toInt_lt; have := a0.le_toInt; have := i32_ne h6 (by decide); have := i32_ne h8 (by decide); have := i32_ne h11 (by decide); have := i32_ne h13 (by decide); have := i32_ne h16 (by decide); have := i32_ne h24 (by decide); have := i32_ne h25 (by decide); have := i32_ne h26 (by decide); simp only [] at *; omega) (by decide) ?_
                    refine v_iconst S d_Mo_about_199 (v := (-1 : Int32)) (by decide) ?_
                    exact v_iret S hret hlocks d_Mo_about_200
  have C17 : ∀ (σ : mm_M) (s0 : Int32), vv p l e (headSpec w_Mo_about rm_Mo_about).room s m [.ref (b + 0), .int a0].toArray below meth c D cls b N_M (ce_M ca b) 5 (MQ below (qc_i D cls b N_M (ce_M ca b) r σ') [.ref (b + 0), .int a0].toArray s 0 0 (mm_A b N_M)) (r, σ') (fn_Mo_about_17 a0 σ s0) σ 17 [some (.ref (b + 0)), some (.int a0)] [.int s0] := by
    intro σ s0
    unfold fn_Mo_about_17
    refine v_istore_nP S d_Mo_about_17 rfl (by decide) (L2 := [some (.ref (b + 0)), some (.int a0), some (.int s0)]) rfl ?_
    refine v_iload_n S d_Mo_about_18 rfl rfl ?_
    refine v_if_eq S d_Mo_about_19 (tgt := 31) (by decide) (fun h3 => ?_) (fun h3 => ?_)
    · refine v_iconst S d_Mo_about_31 (v := (0 : Int32)) (by decide) ?_
      refine v_sub (L2 := [some (.ref (b + 0)), some (.int a0), some (.int s0)]) (And.intro rfl (And.intro rfl (And.intro rfl True.intro))) ?_
      exact C32 σ s0 (0 : Int32)
    · refine v_aload_n S d_Mo_about_22 rfl rfl ?_
      refine v_get S (fun w h => List.mem_cons_of_mem _ (i_Mo w h)) hKK.1 0 (by decide) rfl rfl 16 (by decide) (S.2.2.2.2 _ (List.mem_cons_of_mem _ (wd_757))) (fun _ h => h) rfl d_Mo_about_23 ?_
      refine v_iconst S d_Mo_about_26 (v := (1 : Int32)) (by decide) ?_
      refine v_isub S d_Mo_about_27 ?_
      refine v_goto S d_Mo_about_28 (tgt := 32) (by decide) ?_
      refine v_sub (L2 := [some (.ref (b + 0)), some (.int a0), some (.int s0)]) (And.intro rfl (And.intro rfl (And.intro rfl True.intro))) ?_
      exact C32 σ s0 ((σ 0 16) - (1 : Int32))
  unfold fn_Mo_about
  refine v_aload_n S d_Mo_about_0 rfl rfl ?_
  refine v_iconst S d_Mo_about_1 (v := (0 : Int32)) (by decide) ?_
  refine v_puti S (fun w h => List.mem_cons_of_mem _ (i_Mo w h)) hKK.1 0 (by decide) rfl rfl 26 (by decide) (S.2.2.2.2 _ (List.mem_cons_of_mem _ (wd_767))) (fun _ h => h) t_Mo t_Mo_ok n_Mo rfl (ty := .int) rfl rfl rfl (Nat.le_of_ble_eq_true rfl) rfl d_Mo_about_2 ?_
  refine v_sg (fun σ1 eσ1 => ?_)
  refine v_aload_n S d_Mo_about_5 rfl rfl ?_
  refine v_get S (fun w h => List.mem_cons_of_mem _ (i_Mo w h)) hKK.1 0 (by decide) rfl rfl 16 (by decide) (S.2.2.2.2 _ (List.mem_cons_of_mem _ (wd_757))) (fun _ h => h) rfl d_Mo_about_6 ?_
  refine v_if_le S d_Mo_about_9 (tgt := 16) (by decide) (fun h2 => ?_) (fun h2 => ?_)
  · refine v_iconst S d_Mo_about_16 (v := (0 : Int32)) (by decide) ?_
    refine v_sub (L2 := [some (.ref (b + 0)), some (.int a0)]) (And.intro rfl (And.intro rfl True.intro)) ?_
    exact C17 σ1 (0 : Int32)
  · refine v_iconst S d_Mo_about_12 (v := (1 : Int32)) (by decide) ?_
    refine v_goto S d_Mo_about_13 (tgt := 17) (by decide) ?_
    refine v_sub (L2 := [some (.ref (b + 0)), some (.int a0)]) (And.intro rfl (And.intro rfl True.intro)) ?_
    exact C17 σ1 (1 : Int32)
def fn_Mo_local (σ : mm_M) (a0 : Int32) : Option (Int32 × mm_M) :=
    (nm (mw σ 0 26 (0 : Int32)) (fun σ1 =>
    (if a0 < 0 then
    (some ((-1 : Int32), σ1))
    else
    (if (5 : Int32) < a0 then
    (some ((-1 : Int32), σ1))
    else
    (if (σ1 0 16) = 0 then
    (some ((-1 : Int32), σ1))
    else
    (if ((((12 : Int32) * ((σ1 0 16) - (1 : Int32))) + a0) < 0 ∨ 96 ≤ (((12 : Int32) * ((σ1 0 16) - (1 : Int32))) + a0).toNatClampNeg) then none else
    (if (σ1 15 (((12 : Int32) * ((σ1 0 16) - (1 : Int32))) + a0).toNatClampNeg) = 0 then
    (some ((-1 : Int32), σ1))
    else
    (if ((((12 : Int32) * ((σ1 0 16) - (1 : Int32))) + a0) < 0 ∨ 96 ≤ (((12 : Int32) * ((σ1 0 16) - (1 : Int32))) + a0).toNatClampNeg) then none else
    (if ((((12 : Int32) * ((σ1 0 16) - (1 : Int32))) + a0) < 0 ∨ 96 ≤ (((12 : Int32) * ((σ1 0 16) - (1 : Int32))) + a0).toNatClampNeg) then none else
    (bd (fn_Mo_seen σ1 (σ1 15 (((12 : Int32) * ((σ1 0 16) - (1 : Int32))) + a0).toNatClampNeg) (σ1 14 (((12 : Int32) * ((σ1 0 16) - (1 : Int32))) + a0).toNatClampNeg)) (fun r10 σ9 =>
    (some (r10, σ9)))))))))))))
set_option maxRecDepth 100000 in
set_option maxHeartbeats 40000000 in
theorem c_Mo_local (l : Launch) (D : va_G) (ca : Nat → ClassId) (ax : Nat → Nat → Nat) (b : Nat) (σ : mm_M) (a0 : Int32)  {r : Int32} {σ' : mm_M} (hf : fn_Mo_local σ a0 = some (r, σ')) : Met l y_Mo_local w_Mo_local rm_Mo_local (pc_w D cls b N_M (ce_M ca b) (kM D ca ax b) [.ref (b + 0), .int a0] σ) (qc_i D cls b N_M (ce_M ca b) r σ') 0 0 (mm_A b N_M) := by
  refine vv_go (cc := b_Mo_local) (maxL := 2) (ret := (some .int)) (fin := (r, σ')) (k := fn_Mo_local σ a0) (by decide) rfl (by simp [Value.category]) (Nat.le_of_ble_eq_true rfl) hf ?_
  intro p e s m below meth c hlocks hret S hKK
  unfold fn_Mo_local
  refine v_aload_n S d_Mo_local_0 rfl rfl ?_
  refine v_iconst S d_Mo_local_1 (v := (0 : Int32)) (by decide) ?_
  refine v_puti S (fun w h => List.mem_cons_of_mem _ (i_Mo w h)) hKK.1 0 (by decide) rfl rfl 26 (by decide) (S.2.2.2.2 _ (List.mem_cons_of_mem _ (wd_767))) (fun _ h => h) t_Mo t_Mo_ok n_Mo rfl (ty := .int) rfl rfl rfl (Nat.le_of_ble_eq_true rfl) rfl d_Mo_local_2 ?_
  refine v_sg (fun σ1 eσ1 => ?_)
  refine v_iload_n S d_Mo_local_5 rfl rfl ?_
  refine v_if_lt S d_Mo_local_6 (tgt := 40) (by decide) (fun h2 => ?_) (fun h2 => ?_)
  · refine v_iconst S d_Mo_local_40 (v := (-1 : Int32)) (by decide) ?_
    exact v_iret S hret hlocks d_Mo_local_41
  · refine v_iload_n S d_Mo_local_9 rfl rfl ?_
    refine v_iconst S d_Mo_local_10 (v := (5 : Int32)) (by decide) ?_
    refine v_icmp_gt S d_Mo_local_11 (tgt := 40) (by decide) (fun h3 => ?_) (fun h3 => ?_)
    · refine v_iconst S d_Mo_local_40 (v := (-1 : Int32)) (by decide) ?_
      exact v_iret S hret hlocks d_Mo_local_41
    · refine v_aload_n S d_Mo_local_14 rfl rfl ?_
      refine v_get S (fun w h => List.mem_cons_of_mem _ (i_Mo w h)) hKK.1 0 (by decide) rfl rfl 16 (by decide) (S.2.2.2.2 _ (List.mem_cons_of_mem _ (wd_757))) (fun _ h => h) rfl d_Mo_local_15 ?_
      refine v_if_eq S d_Mo_local_18 (tgt := 40) (by decide) (fun h4 => ?_) (fun h4 => ?_)
      · refine v_iconst S d_Mo_local_40 (v := (-1 : Int32)) (by decide) ?_
        exact v_iret S hret hlocks d_Mo_local_41
      · refine v_aload_n S d_Mo_local_21 rfl rfl ?_
        refine v_get S (fun w h => List.mem_cons_of_mem _ (i_Mo w h)) hKK.1 0 (by decide) rfl rfl 21 (by decide) (S.2.2.2.2 _ (List.mem_cons_of_mem _ (wd_762))) (fun _ h => h) rfl d_Mo_local_22 ?_
        refine v_bipush S d_Mo_local_25 (v := (12 : Int32)) (by decide) ?_
        refine v_aload_n S d_Mo_local_27 rfl rfl ?_
        refine v_get S (fun w h => List.mem_cons_of_mem _ (i_Mo w h)) hKK.1 0 (by decide) rfl rfl 16 (by decide) (S.2.2.2.2 _ (List.mem_cons_of_mem _ (wd_757))) (fun _ h => h) rfl d_Mo_local_28 ?_
        refine v_iconst S d_Mo_local_31 (v := (1 : Int32)) (by decide) ?_
        refine v_isub S d_Mo_local_32 ?_
        refine v_imul S d_Mo_local_33 ?_
        refine v_iload_n S d_Mo_local_34 rfl rfl ?_
        refine v_iadd S d_Mo_local_35 ?_
        refine v_iald S hKK.1 15 0 (by decide) rfl rfl d_Mo_local_36 (fun h5 => ?_)
        refine v_if_ne S d_Mo_local_37 (tgt := 42) (by decide) (fun h6 => ?_) (fun h6 => ?_)
        · refine v_aload_n S d_Mo_local_42 rfl rfl ?_
          refine v_get S (fun w h => List.mem_cons_of_mem _ (i_Mo w h)) hKK.1 0 (by decide) rfl rfl 21 (by decide) (S.2.2.2.2 _ (List.mem_cons_of_mem _ (wd_762))) (fun _ h => h) rfl d_Mo_local_43 ?_
          refine v_bipush S d_Mo_local_46 (v := (12 : Int32)) (by decide) ?_
          refine v_aload_n S d_Mo_local_48 rfl rfl ?_
          refine v_get S (fun w h => List.mem_cons_of_mem _ (i_Mo w h)) hKK.1 0 (by decide) rfl rfl 16 (by decide) (S.2.2.2.2 _ (List.mem_cons_of_mem _ (wd_757))) (fun _ h => h) rfl d_Mo_local_49 ?_
          refine v_iconst S d_Mo_local_52 (v := (1 : Int32)) (by decide) ?_
          refine v_isub S d_Mo_local_53 ?_
          refine v_imul S d_Mo_local_54 ?_
          refine v_iload_n S d_Mo_local_55 rfl rfl ?_
          refine v_iadd S d_Mo_local_56 ?_
          refine v_iald S hKK.1 15 0 (by decide) rfl rfl d_Mo_local_57 (fun h7 => ?_)
          refine v_aload_n S d_Mo_local_58 rfl rfl ?_
          refine v_get S (fun w h => List.mem_cons_of_mem _ (i_Mo w h)) hKK.1 0 (by decide) rfl rfl 20 (by decide) (S.2.2.2.2 _ (List.mem_cons_of_mem _ (wd_761))) (fun _ h => h) rfl d_Mo_local_59 ?_
          refine v_bipush S d_Mo_local_62 (v := (12 : Int32)) (by decide) ?_
          refine v_aload_n S d_Mo_local_64 rfl rfl ?_
          refine v_get S (fun w h => List.mem_cons_of_mem _ (i_Mo w h)) hKK.1 0 (by decide) rfl rfl 16 (by decide) (S.2.2.2.2 _ (List.mem_cons_of_mem _ (wd_757))) (fun _ h => h) rfl d_Mo_local_65 ?_
          refine v_iconst S d_Mo_local_68 (v := (1 : Int32)) (by decide) ?_
          refine v_isub S d_Mo_local_69 ?_
          refine v_imul S d_Mo_local_70 ?_
          refine v_iload_n S d_Mo_local_71 rfl rfl ?_
          refine v_iadd S d_Mo_local_72 ?_
          refine v_iald S hKK.1 14 0 (by decide) rfl rfl d_Mo_local_73 (fun h8 => ?_)
          refine v_ci (rest := []) (fun _ _ hg H locs ls hsz hP hS => run_S (As := [.int (σ1 15 (((12 : Int32) * ((σ1 0 16) - (1 : Int32))) + a0).toNatClampNeg), .int (σ1 14 (((12 : Int32) * ((σ1 0 16) - (1 : Int32))) + a0).toNatClampNeg)]) (rest := []) S kM_ok hKK (c_Mo_seen l D ca ax b σ1 (σ1 15 (((12 : Int32) * ((σ1 0 16) - (1 : Int32))) + a0).toNatClampNeg) (σ1 14 (((12 : Int32) * ((σ1 0 16) - (1 : Int32))) + a0).toNatClampNeg) hg) (k_Mo_154 S.2.2.2.2 (fun _ => List.mem_cons_of_mem _) ⟨Nat.le_of_ble_eq_true rfl, Nat.le_of_ble_eq_true rfl⟩) rfl rfl (Nat.zero_le _) d_Mo_local_74 hsz hP hS) (fun r10 σ9 _ => ?_)
          exact v_iret S hret hlocks d_Mo_local_77
        · refine v_iconst S d_Mo_local_40 (v := (-1 : Int32)) (by decide) ?_
          exact v_iret S hret hlocks d_Mo_local_41
end

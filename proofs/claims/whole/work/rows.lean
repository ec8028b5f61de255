section
-- ===== PART A: goes FIRST, ahead of the names: the tables' words, and 'selects' of the private methods out of them =====
/-- a private method of a class that the tables say can be made, by its rows of tables_1 -/
def lw_okq (q : MethodName × Nat) : Prop := (q.1.cls ≠ "java/lang/invoke/MethodHandle" ∧ q.1.cls ≠ "java/lang/invoke/VarHandle") ∧ Cond.instantiable q.1.cls q.2 ∈ tables_1 ∧ Cond.privateMethod q.1 ∈ tables_1 ∧ Cond.instanceMethod q.1 ∈ tables_1
theorem lw_p0 : lw_okq (⟨"FrameVerifier", "forgetVerification", "()V"⟩, 4) := ⟨⟨by decide +kernel, by decide +kernel⟩, List.mem_of_getElem? (i := 27) (by decide +kernel), List.mem_of_getElem? (i := 161) (by decide +kernel), List.mem_of_getElem? (i := 162) (by decide +kernel)⟩
theorem lw_p1 : lw_okq (⟨"FrameVerifier$Flow", "clear", "(I)V"⟩, 5) := ⟨⟨by decide +kernel, by decide +kernel⟩, List.mem_of_getElem? (i := 67) (by decide +kernel), List.mem_of_getElem? (i := 185) (by decide +kernel), List.mem_of_getElem? (i := 186) (by decide +kernel)⟩
theorem lw_p2 : lw_okq (⟨"FrameVerifier$Code", "kindOf", "(II)I"⟩, 7) := ⟨⟨by decide +kernel, by decide +kernel⟩, List.mem_of_getElem? (i := 35) (by decide +kernel), List.mem_of_getElem? (i := 201) (by decide +kernel), List.mem_of_getElem? (i := 202) (by decide +kernel)⟩
theorem lw_p3 : lw_okq (⟨"FrameVerifier$Flow", "meet", "(III)V"⟩, 5) := ⟨⟨by decide +kernel, by decide +kernel⟩, List.mem_of_getElem? (i := 67) (by decide +kernel), List.mem_of_getElem? (i := 208) (by decide +kernel), List.mem_of_getElem? (i := 209) (by decide +kernel)⟩
theorem lw_p4 : lw_okq (⟨"FrameVerifier$Flow", "takeLeastWaiting", "()I"⟩, 5) := ⟨⟨by decide +kernel, by decide +kernel⟩, List.mem_of_getElem? (i := 67) (by decide +kernel), List.mem_of_getElem? (i := 225) (by decide +kernel), List.mem_of_getElem? (i := 226) (by decide +kernel)⟩
theorem lw_p5 : lw_okq (⟨"FrameVerifier$Flow", "goOn", "(II)V"⟩, 5) := ⟨⟨by decide +kernel, by decide +kernel⟩, List.mem_of_getElem? (i := 67) (by decide +kernel), List.mem_of_getElem? (i := 229) (by decide +kernel), List.mem_of_getElem? (i := 230) (by decide +kernel)⟩
theorem lw_p6 : lw_okq (⟨"FrameVerifier$Code", "hasOp", "(I)Z"⟩, 7) := ⟨⟨by decide +kernel, by decide +kernel⟩, List.mem_of_getElem? (i := 35) (by decide +kernel), List.mem_of_getElem? (i := 237) (by decide +kernel), List.mem_of_getElem? (i := 238) (by decide +kernel)⟩
theorem lw_p7 : lw_okq (⟨"FrameVerifier$Code", "numberFits", "(LFrameVerifier$Op;II)Z"⟩, 7) := ⟨⟨by decide +kernel, by decide +kernel⟩, List.mem_of_getElem? (i := 35) (by decide +kernel), List.mem_of_getElem? (i := 248) (by decide +kernel), List.mem_of_getElem? (i := 249) (by decide +kernel)⟩
theorem lw_p8 : lw_okq (⟨"FrameVerifier$Code", "takenFits", "(ILFrameVerifier$Op;II)Z"⟩, 7) := ⟨⟨by decide +kernel, by decide +kernel⟩, List.mem_of_getElem? (i := 35) (by decide +kernel), List.mem_of_getElem? (i := 275) (by decide +kernel), List.mem_of_getElem? (i := 276) (by decide +kernel)⟩
theorem lw_p9 : lw_okq (⟨"FrameVerifier$Code", "takenCount", "(LFrameVerifier$Op;I)I"⟩, 7) := ⟨⟨by decide +kernel, by decide +kernel⟩, List.mem_of_getElem? (i := 35) (by decide +kernel), List.mem_of_getElem? (i := 279) (by decide +kernel), List.mem_of_getElem? (i := 280) (by decide +kernel)⟩
theorem lw_p10 : lw_okq (⟨"FrameVerifier$Code", "wantedBelow", "(ILFrameVerifier$Op;II)I"⟩, 7) := ⟨⟨by decide +kernel, by decide +kernel⟩, List.mem_of_getElem? (i := 35) (by decide +kernel), List.mem_of_getElem? (i := 296) (by decide +kernel), List.mem_of_getElem? (i := 297) (by decide +kernel)⟩
theorem lw_p11 : lw_okq (⟨"FrameVerifier$Machine", "openFrame", "(I)LFrameVerifier$Frame;"⟩, 6) := ⟨⟨by decide +kernel, by decide +kernel⟩, List.mem_of_getElem? (i := 91) (by decide +kernel), List.mem_of_getElem? (i := 393) (by decide +kernel), List.mem_of_getElem? (i := 394) (by decide +kernel)⟩
theorem lw_p12 : lw_okq (⟨"FrameVerifier", "aboutTopFrame", "(I)I"⟩, 4) := ⟨⟨by decide +kernel, by decide +kernel⟩, List.mem_of_getElem? (i := 27) (by decide +kernel), List.mem_of_getElem? (i := 419) (by decide +kernel), List.mem_of_getElem? (i := 420) (by decide +kernel)⟩
theorem lw_p13 : lw_okq (⟨"java/lang/Throwable", "fillInStackTrace", "(I)Ljava/lang/Throwable;"⟩, 6) := ⟨⟨by decide +kernel, by decide +kernel⟩, List.mem_of_getElem? (i := 487) (by decide +kernel), List.mem_of_getElem? (i := 485) (by decide +kernel), List.mem_of_getElem? (i := 486) (by decide +kernel)⟩
theorem lw_p14 : lw_okq (⟨"FrameVerifier$Machine", "trapOf", "(LFrameVerifier$Frame;)LFrameVerifier$Trap;"⟩, 6) := ⟨⟨by decide +kernel, by decide +kernel⟩, List.mem_of_getElem? (i := 91) (by decide +kernel), List.mem_of_getElem? (i := 532) (by decide +kernel), List.mem_of_getElem? (i := 533) (by decide +kernel)⟩
theorem lw_p15 : lw_okq (⟨"FrameVerifier$Machine", "canMake", "(I)Z"⟩, 6) := ⟨⟨by decide +kernel, by decide +kernel⟩, List.mem_of_getElem? (i := 91) (by decide +kernel), List.mem_of_getElem? (i := 561) (by decide +kernel), List.mem_of_getElem? (i := 562) (by decide +kernel)⟩
def lw_privs_1 : List (MethodName × Nat) := [(⟨"FrameVerifier", "forgetVerification", "()V"⟩, 4), (⟨"FrameVerifier$Flow", "clear", "(I)V"⟩, 5), (⟨"FrameVerifier$Code", "kindOf", "(II)I"⟩, 7), (⟨"FrameVerifier$Flow", "meet", "(III)V"⟩, 5), (⟨"FrameVerifier$Flow", "takeLeastWaiting", "()I"⟩, 5), (⟨"FrameVerifier$Flow", "goOn", "(II)V"⟩, 5), (⟨"FrameVerifier$Code", "hasOp", "(I)Z"⟩, 7), (⟨"FrameVerifier$Code", "numberFits", "(LFrameVerifier$Op;II)Z"⟩, 7), (⟨"FrameVerifier$Code", "takenFits", "(ILFrameVerifier$Op;II)Z"⟩, 7), (⟨"FrameVerifier$Code", "takenCount", "(LFrameVerifier$Op;I)I"⟩, 7), (⟨"FrameVerifier$Code", "wantedBelow", "(ILFrameVerifier$Op;II)I"⟩, 7), (⟨"FrameVerifier$Machine", "openFrame", "(I)LFrameVerifier$Frame;"⟩, 6), (⟨"FrameVerifier", "aboutTopFrame", "(I)I"⟩, 4), (⟨"java/lang/Throwable", "fillInStackTrace", "(I)Ljava/lang/Throwable;"⟩, 6), (⟨"FrameVerifier$Machine", "trapOf", "(LFrameVerifier$Frame;)LFrameVerifier$Trap;"⟩, 6), (⟨"FrameVerifier$Machine", "canMake", "(I)Z"⟩, 6)]
theorem lw_r1 : ∀ q ∈ lw_privs_1, lw_okq q := List.forall_mem_cons.mpr ⟨lw_p0, List.forall_mem_cons.mpr ⟨lw_p1, List.forall_mem_cons.mpr ⟨lw_p2, List.forall_mem_cons.mpr ⟨lw_p3, List.forall_mem_cons.mpr ⟨lw_p4, List.forall_mem_cons.mpr ⟨lw_p5, List.forall_mem_cons.mpr ⟨lw_p6, List.forall_mem_cons.mpr ⟨lw_p7, List.forall_mem_cons.mpr ⟨lw_p8, List.forall_mem_cons.mpr ⟨lw_p9, List.forall_mem_cons.mpr ⟨lw_p10, List.forall_mem_cons.mpr ⟨lw_p11, List.forall_mem_cons.mpr ⟨lw_p12, List.forall_mem_cons.mpr ⟨lw_p13, List.forall_mem_cons.mpr ⟨lw_p14, List.forall_mem_cons.mpr ⟨lw_p15, fun _ h => absurd h List.not_mem_nil⟩⟩⟩⟩⟩⟩⟩⟩⟩⟩⟩⟩⟩⟩⟩⟩
theorem lw_p16 : lw_okq (⟨"FrameVerifier$Machine", "act", "(LFrameVerifier$Frame;LFrameVerifier$Op;I)V"⟩, 6) := ⟨⟨by decide +kernel, by decide +kernel⟩, List.mem_of_getElem? (i := 91) (by decide +kernel), List.mem_of_getElem? (i := 649) (by decide +kernel), List.mem_of_getElem? (i := 650) (by decide +kernel)⟩
theorem lw_p17 : lw_okq (⟨"FrameVerifier$Machine", "useArray", "(LFrameVerifier$Frame;LFrameVerifier$Op;)V"⟩, 6) := ⟨⟨by decide +kernel, by decide +kernel⟩, List.mem_of_getElem? (i := 91) (by decide +kernel), List.mem_of_getElem? (i := 664) (by decide +kernel), List.mem_of_getElem? (i := 665) (by decide +kernel)⟩
theorem lw_p18 : lw_okq (⟨"FrameVerifier$Machine", "makeArray", "(I)I"⟩, 6) := ⟨⟨by decide +kernel, by decide +kernel⟩, List.mem_of_getElem? (i := 91) (by decide +kernel), List.mem_of_getElem? (i := 668) (by decide +kernel), List.mem_of_getElem? (i := 669) (by decide +kernel)⟩
theorem lw_p19 : lw_okq (⟨"FrameVerifier$Machine", "enter", "(LFrameVerifier$Frame;I)V"⟩, 6) := ⟨⟨by decide +kernel, by decide +kernel⟩, List.mem_of_getElem? (i := 91) (by decide +kernel), List.mem_of_getElem? (i := 675) (by decide +kernel), List.mem_of_getElem? (i := 676) (by decide +kernel)⟩
theorem lw_p20 : lw_okq (⟨"FrameVerifier$Machine", "leave", "(LFrameVerifier$Frame;)V"⟩, 6) := ⟨⟨by decide +kernel, by decide +kernel⟩, List.mem_of_getElem? (i := 91) (by decide +kernel), List.mem_of_getElem? (i := 683) (by decide +kernel), List.mem_of_getElem? (i := 684) (by decide +kernel)⟩
theorem lw_p21 : lw_okq (⟨"FrameVerifierModel", "work", "(I)I"⟩, 27) := ⟨⟨by decide +kernel, by decide +kernel⟩, List.mem_of_getElem? (i := 736) (by decide +kernel), List.mem_of_getElem? (i := 840) (by decide +kernel), List.mem_of_getElem? (i := 841) (by decide +kernel)⟩
theorem lw_p22 : lw_okq (⟨"FrameVerifierModel", "isAddress", "(I)Z"⟩, 27) := ⟨⟨by decide +kernel, by decide +kernel⟩, List.mem_of_getElem? (i := 736) (by decide +kernel), List.mem_of_getElem? (i := 844) (by decide +kernel), List.mem_of_getElem? (i := 845) (by decide +kernel)⟩
theorem lw_p23 : lw_okq (⟨"FrameVerifierModel", "kindOf", "(II)I"⟩, 27) := ⟨⟨by decide +kernel, by decide +kernel⟩, List.mem_of_getElem? (i := 736) (by decide +kernel), List.mem_of_getElem? (i := 848) (by decide +kernel), List.mem_of_getElem? (i := 849) (by decide +kernel)⟩
theorem lw_p24 : lw_okq (⟨"FrameVerifierModel", "meet", "(II)V"⟩, 27) := ⟨⟨by decide +kernel, by decide +kernel⟩, List.mem_of_getElem? (i := 736) (by decide +kernel), List.mem_of_getElem? (i := 852) (by decide +kernel), List.mem_of_getElem? (i := 853) (by decide +kernel)⟩
theorem lw_p25 : lw_okq (⟨"FrameVerifierModel", "fits", "(II)Z"⟩, 27) := ⟨⟨by decide +kernel, by decide +kernel⟩, List.mem_of_getElem? (i := 736) (by decide +kernel), List.mem_of_getElem? (i := 856) (by decide +kernel), List.mem_of_getElem? (i := 857) (by decide +kernel)⟩
theorem lw_p26 : lw_okq (⟨"FrameVerifierModel", "tryOut", "(II)V"⟩, 27) := ⟨⟨by decide +kernel, by decide +kernel⟩, List.mem_of_getElem? (i := 736) (by decide +kernel), List.mem_of_getElem? (i := 860) (by decide +kernel), List.mem_of_getElem? (i := 861) (by decide +kernel)⟩
theorem lw_p27 : lw_okq (⟨"FrameVerifierModel", "take", "(I)I"⟩, 27) := ⟨⟨by decide +kernel, by decide +kernel⟩, List.mem_of_getElem? (i := 736) (by decide +kernel), List.mem_of_getElem? (i := 864) (by decide +kernel), List.mem_of_getElem? (i := 865) (by decide +kernel)⟩
theorem lw_p28 : lw_okq (⟨"FrameVerifierModel", "give", "(I)V"⟩, 27) := ⟨⟨by decide +kernel, by decide +kernel⟩, List.mem_of_getElem? (i := 736) (by decide +kernel), List.mem_of_getElem? (i := 868) (by decide +kernel), List.mem_of_getElem? (i := 869) (by decide +kernel)⟩
theorem lw_p29 : lw_okq (⟨"FrameVerifierModel", "tryLocal", "(II)V"⟩, 27) := ⟨⟨by decide +kernel, by decide +kernel⟩, List.mem_of_getElem? (i := 736) (by decide +kernel), List.mem_of_getElem? (i := 872) (by decide +kernel), List.mem_of_getElem? (i := 873) (by decide +kernel)⟩
theorem lw_p30 : lw_okq (⟨"FrameVerifierModel", "tryGo", "(II)V"⟩, 27) := ⟨⟨by decide +kernel, by decide +kernel⟩, List.mem_of_getElem? (i := 736) (by decide +kernel), List.mem_of_getElem? (i := 876) (by decide +kernel), List.mem_of_getElem? (i := 877) (by decide +kernel)⟩
theorem lw_p31 : lw_okq (⟨"FrameVerifierModel", "goTo", "(I)V"⟩, 27) := ⟨⟨by decide +kernel, by decide +kernel⟩, List.mem_of_getElem? (i := 736) (by decide +kernel), List.mem_of_getElem? (i := 880) (by decide +kernel), List.mem_of_getElem? (i := 881) (by decide +kernel)⟩
def lw_privs_2 : List (MethodName × Nat) := [(⟨"FrameVerifier$Machine", "act", "(LFrameVerifier$Frame;LFrameVerifier$Op;I)V"⟩, 6), (⟨"FrameVerifier$Machine", "useArray", "(LFrameVerifier$Frame;LFrameVerifier$Op;)V"⟩, 6), (⟨"FrameVerifier$Machine", "makeArray", "(I)I"⟩, 6), (⟨"FrameVerifier$Machine", "enter", "(LFrameVerifier$Frame;I)V"⟩, 6), (⟨"FrameVerifier$Machine", "leave", "(LFrameVerifier$Frame;)V"⟩, 6), (⟨"FrameVerifierModel", "work", "(I)I"⟩, 27), (⟨"FrameVerifierModel", "isAddress", "(I)Z"⟩, 27), (⟨"FrameVerifierModel", "kindOf", "(II)I"⟩, 27), (⟨"FrameVerifierModel", "meet", "(II)V"⟩, 27), (⟨"FrameVerifierModel", "fits", "(II)Z"⟩, 27), (⟨"FrameVerifierModel", "tryOut", "(II)V"⟩, 27), (⟨"FrameVerifierModel", "take", "(I)I"⟩, 27), (⟨"FrameVerifierModel", "give", "(I)V"⟩, 27), (⟨"FrameVerifierModel", "tryLocal", "(II)V"⟩, 27), (⟨"FrameVerifierModel", "tryGo", "(II)V"⟩, 27), (⟨"FrameVerifierModel", "goTo", "(I)V"⟩, 27)]
theorem lw_r2 : ∀ q ∈ lw_privs_2, lw_okq q := List.forall_mem_cons.mpr ⟨lw_p16, List.forall_mem_cons.mpr ⟨lw_p17, List.forall_mem_cons.mpr ⟨lw_p18, List.forall_mem_cons.mpr ⟨lw_p19, List.forall_mem_cons.mpr ⟨lw_p20, List.forall_mem_cons.mpr ⟨lw_p21, List.forall_mem_cons.mpr ⟨lw_p22, List.forall_mem_cons.mpr ⟨lw_p23, List.forall_mem_cons.mpr ⟨lw_p24, List.forall_mem_cons.mpr ⟨lw_p25, List.forall_mem_cons.mpr ⟨lw_p26, List.forall_mem_cons.mpr ⟨lw_p27, List.forall_mem_cons.mpr ⟨lw_p28, List.forall_mem_cons.mpr ⟨lw_p29, List.forall_mem_cons.mpr ⟨lw_p30, List.forall_mem_cons.mpr ⟨lw_p31, fun _ h => absurd h List.not_mem_nil⟩⟩⟩⟩⟩⟩⟩⟩⟩⟩⟩⟩⟩⟩⟩⟩
theorem lw_p32 : lw_okq (⟨"FrameVerifierModel", "tryArray", "(I)V"⟩, 27) := ⟨⟨by decide +kernel, by decide +kernel⟩, List.mem_of_getElem? (i := 736) (by decide +kernel), List.mem_of_getElem? (i := 884) (by decide +kernel), List.mem_of_getElem? (i := 885) (by decide +kernel)⟩
theorem lw_p33 : lw_okq (⟨"FrameVerifierModel", "tryPlaces", "(I)V"⟩, 27) := ⟨⟨by decide +kernel, by decide +kernel⟩, List.mem_of_getElem? (i := 736) (by decide +kernel), List.mem_of_getElem? (i := 888) (by decide +kernel), List.mem_of_getElem? (i := 889) (by decide +kernel)⟩
theorem lw_p34 : lw_okq (⟨"FrameVerifierModel", "tryCall", "(I)V"⟩, 27) := ⟨⟨by decide +kernel, by decide +kernel⟩, List.mem_of_getElem? (i := 736) (by decide +kernel), List.mem_of_getElem? (i := 892) (by decide +kernel), List.mem_of_getElem? (i := 893) (by decide +kernel)⟩
theorem lw_p35 : lw_okq (⟨"FrameVerifierModel", "enter", "(I)V"⟩, 27) := ⟨⟨by decide +kernel, by decide +kernel⟩, List.mem_of_getElem? (i := 736) (by decide +kernel), List.mem_of_getElem? (i := 908) (by decide +kernel), List.mem_of_getElem? (i := 909) (by decide +kernel)⟩
theorem lw_p36 : lw_okq (⟨"FrameVerifierModel", "stepOnce", "()Z"⟩, 27) := ⟨⟨by decide +kernel, by decide +kernel⟩, List.mem_of_getElem? (i := 736) (by decide +kernel), List.mem_of_getElem? (i := 916) (by decide +kernel), List.mem_of_getElem? (i := 917) (by decide +kernel)⟩
theorem lw_p37 : lw_okq (⟨"FrameVerifierModel", "fitsValues", "(I)Z"⟩, 27) := ⟨⟨by decide +kernel, by decide +kernel⟩, List.mem_of_getElem? (i := 736) (by decide +kernel), List.mem_of_getElem? (i := 920) (by decide +kernel), List.mem_of_getElem? (i := 921) (by decide +kernel)⟩
theorem lw_p38 : lw_okq (⟨"FrameVerifierModel", "trapOf", "(II)I"⟩, 27) := ⟨⟨by decide +kernel, by decide +kernel⟩, List.mem_of_getElem? (i := 736) (by decide +kernel), List.mem_of_getElem? (i := 924) (by decide +kernel), List.mem_of_getElem? (i := 925) (by decide +kernel)⟩
theorem lw_p39 : lw_okq (⟨"FrameVerifierModel", "below", "(I)I"⟩, 27) := ⟨⟨by decide +kernel, by decide +kernel⟩, List.mem_of_getElem? (i := 736) (by decide +kernel), List.mem_of_getElem? (i := 928) (by decide +kernel), List.mem_of_getElem? (i := 929) (by decide +kernel)⟩
theorem lw_p40 : lw_okq (⟨"FrameVerifierModel", "perform", "(I)V"⟩, 27) := ⟨⟨by decide +kernel, by decide +kernel⟩, List.mem_of_getElem? (i := 736) (by decide +kernel), List.mem_of_getElem? (i := 938) (by decide +kernel), List.mem_of_getElem? (i := 939) (by decide +kernel)⟩
theorem lw_p41 : lw_okq (⟨"FrameVerifierModel", "put", "(II)V"⟩, 27) := ⟨⟨by decide +kernel, by decide +kernel⟩, List.mem_of_getElem? (i := 736) (by decide +kernel), List.mem_of_getElem? (i := 942) (by decide +kernel), List.mem_of_getElem? (i := 943) (by decide +kernel)⟩
theorem lw_p42 : lw_okq (⟨"FrameVerifierModel", "calculate", "(I)V"⟩, 27) := ⟨⟨by decide +kernel, by decide +kernel⟩, List.mem_of_getElem? (i := 736) (by decide +kernel), List.mem_of_getElem? (i := 946) (by decide +kernel), List.mem_of_getElem? (i := 947) (by decide +kernel)⟩
theorem lw_p43 : lw_okq (⟨"FrameVerifierModel", "drop", "(I)V"⟩, 27) := ⟨⟨by decide +kernel, by decide +kernel⟩, List.mem_of_getElem? (i := 736) (by decide +kernel), List.mem_of_getElem? (i := 950) (by decide +kernel), List.mem_of_getElem? (i := 951) (by decide +kernel)⟩
theorem lw_p44 : lw_okq (⟨"FrameVerifierModel", "onArrays", "(I)V"⟩, 27) := ⟨⟨by decide +kernel, by decide +kernel⟩, List.mem_of_getElem? (i := 736) (by decide +kernel), List.mem_of_getElem? (i := 954) (by decide +kernel), List.mem_of_getElem? (i := 955) (by decide +kernel)⟩
theorem lw_p45 : lw_okq (⟨"FrameVerifierModel", "call", "(I)V"⟩, 27) := ⟨⟨by decide +kernel, by decide +kernel⟩, List.mem_of_getElem? (i := 736) (by decide +kernel), List.mem_of_getElem? (i := 958) (by decide +kernel), List.mem_of_getElem? (i := 959) (by decide +kernel)⟩
theorem lw_p46 : lw_okq (⟨"FrameVerifierModel", "giveBack", "()V"⟩, 27) := ⟨⟨by decide +kernel, by decide +kernel⟩, List.mem_of_getElem? (i := 736) (by decide +kernel), List.mem_of_getElem? (i := 962) (by decide +kernel), List.mem_of_getElem? (i := 963) (by decide +kernel)⟩
theorem lw_p47 : lw_okq (⟨"FrameVerifierModel", "onPlaces", "(II)V"⟩, 27) := ⟨⟨by decide +kernel, by decide +kernel⟩, List.mem_of_getElem? (i := 736) (by decide +kernel), List.mem_of_getElem? (i := 969) (by decide +kernel), List.mem_of_getElem? (i := 970) (by decide +kernel)⟩
def lw_privs_3 : List (MethodName × Nat) := [(⟨"FrameVerifierModel", "tryArray", "(I)V"⟩, 27), (⟨"FrameVerifierModel", "tryPlaces", "(I)V"⟩, 27), (⟨"FrameVerifierModel", "tryCall", "(I)V"⟩, 27), (⟨"FrameVerifierModel", "enter", "(I)V"⟩, 27), (⟨"FrameVerifierModel", "stepOnce", "()Z"⟩, 27), (⟨"FrameVerifierModel", "fitsValues", "(I)Z"⟩, 27), (⟨"FrameVerifierModel", "trapOf", "(II)I"⟩, 27), (⟨"FrameVerifierModel", "below", "(I)I"⟩, 27), (⟨"FrameVerifierModel", "perform", "(I)V"⟩, 27), (⟨"FrameVerifierModel", "put", "(II)V"⟩, 27), (⟨"FrameVerifierModel", "calculate", "(I)V"⟩, 27), (⟨"FrameVerifierModel", "drop", "(I)V"⟩, 27), (⟨"FrameVerifierModel", "onArrays", "(I)V"⟩, 27), (⟨"FrameVerifierModel", "call", "(I)V"⟩, 27), (⟨"FrameVerifierModel", "giveBack", "()V"⟩, 27), (⟨"FrameVerifierModel", "onPlaces", "(II)V"⟩, 27)]
theorem lw_r3 : ∀ q ∈ lw_privs_3, lw_okq q := List.forall_mem_cons.mpr ⟨lw_p32, List.forall_mem_cons.mpr ⟨lw_p33, List.forall_mem_cons.mpr ⟨lw_p34, List.forall_mem_cons.mpr ⟨lw_p35, List.forall_mem_cons.mpr ⟨lw_p36, List.forall_mem_cons.mpr ⟨lw_p37, List.forall_mem_cons.mpr ⟨lw_p38, List.forall_mem_cons.mpr ⟨lw_p39, List.forall_mem_cons.mpr ⟨lw_p40, List.forall_mem_cons.mpr ⟨lw_p41, List.forall_mem_cons.mpr ⟨lw_p42, List.forall_mem_cons.mpr ⟨lw_p43, List.forall_mem_cons.mpr ⟨lw_p44, List.forall_mem_cons.mpr ⟨lw_p45, List.forall_mem_cons.mpr ⟨lw_p46, List.forall_mem_cons.mpr ⟨lw_p47, fun _ h => absurd h List.not_mem_nil⟩⟩⟩⟩⟩⟩⟩⟩⟩⟩⟩⟩⟩⟩⟩⟩
def lw_privs : List (MethodName × Nat) := lw_privs_1 ++ (lw_privs_2 ++ (lw_privs_3))
def lw_tbl : List Cond := k2_sels lw_privs ++ tables_1
theorem lw_privs_ok : ∀ q ∈ lw_privs, lw_okq q := by
  show ∀ q ∈ lw_privs_1 ++ (lw_privs_2 ++ (lw_privs_3)), lw_okq q
  exact List.forall_mem_append.mpr ⟨lw_r1, List.forall_mem_append.mpr ⟨lw_r2, lw_r3⟩⟩
end
section
/-! part 02: a world of consecutive cells whose ints are one function; the judgement vv (walk with the answer's function); a row an instruction -/
abbrev mm_M : Type := Nat → Nat → Int32
def mm_wl (b N : Nat) (c : Nat → va_E) : va_W := (List.range N).map (fun k => (b + k, c k))
theorem mm_len {b N : Nat} {c : Nat → va_E} : (mm_wl b N c).length = N := by simp [mm_wl]
theorem mm_get {b N k : Nat} {c : Nat → va_E} (h : k < N) : (mm_wl b N c)[k]? = some (b + k, c k) := by
  simp [mm_wl, h]
theorem mm_set {b N k : Nat} {c : Nat → va_E} {e : va_E} : (mm_wl b N c).set k (b + k, e) = mm_wl b N (va_up c k e) := by
  apply List.ext_getElem?
  intro j
  by_cases hj : j < N
  · rw [mm_get hj]
    by_cases h : j = k
    · subst h
      rw [List.getElem?_set_self (by rw [mm_len]; exact hj), va_up_self]
    · rw [List.getElem?_set_ne (Ne.symm h), mm_get hj, va_up_ne _ _ h]
  · rw [List.getElem?_eq_none (by rw [List.length_set, mm_len]; omega), List.getElem?_eq_none (by rw [mm_len]; omega)]
def mm_A (b N : Nat) : Nat → Prop := fun q => b ≤ q ∧ q < b + N
theorem mm_key {b N : Nat} {c : Nat → va_E} {k : Nat} {q : Nat × va_E} (hk : (mm_wl b N c)[k]? = some q) : k < N ∧ q = (b + k, c k) := by
  have hl := (List.getElem?_eq_some_iff.mp hk).1
  rw [mm_len] at hl
  rw [mm_get hl] at hk
  cases hk
  exact ⟨hl, rfl⟩
theorem mm_D {b N : Nat} {c : Nat → va_E} : va_D (mm_A b N) (mm_wl b N c) := by
  refine ⟨fun i j x y hi hj hxy => ?_, fun k q hk => ?_⟩
  · obtain ⟨h1, rfl⟩ := mm_key hi
    obtain ⟨h2, rfl⟩ := mm_key hj
    simp only at hxy
    omega
  · obtain ⟨h1, rfl⟩ := mm_key hk
    exact ⟨Nat.le_add_right _ _, Nat.add_lt_add_left h1 _⟩
def mm_P (D : va_G) (cl : List vw_C) (b N : Nat) (ce : Nat → (Nat → Int32) → va_E) (σ : mm_M) (H : Heap) : Prop := va_P D cl (mm_wl b N (fun k => ce k (σ k))) H
theorem mm_P.put {D : va_G} {cl : List vw_C} {b N k : Nat} {ce : Nat → (Nat → Int32) → va_E} {σ : mm_M} {H : Heap} {e : va_E} (f : Nat → Int32) (he : e = ce k f) (h : va_P D cl ((mm_wl b N (fun k => ce k (σ k))).set k (b + k, e)) H) : mm_P D cl b N ce (va_up σ k f) H := by
  rw [mm_set] at h
  have e1 : va_up (fun k => ce k (σ k)) k e = fun j => ce j (va_up σ k f j) := by
    funext j
    by_cases hj : j = k
    · subst hj
      rw [va_up_self, va_up_self, he]
    · rw [va_up_ne _ _ hj, va_up_ne _ _ hj]
  rw [e1] at h
  exact h
/-- the locals by their places; none: nothing is known of it -/
def lo_ok (ls : Array Slot) (nL : Nat) (L : List (Option Value)) : Prop := ls.size = nL ∧ lv_wf ls ∧ ∀ (i : Nat) (v : Value), L[i]? = some (some v) → v.category = 1 ∧ ls[i]? = some (.val v)
def lo_li (L : List (Option Value)) : List (Nat × Value) := (List.range L.length).filterMap (fun i => (L[i]?.join).map (fun v => (i, v)))
theorem lo_mem {L : List (Option Value)} {i : Nat} {v : Value} : (i, v) ∈ lo_li L ↔ L[i]? = some (some v) := by
  unfold lo_li
  rw [List.mem_filterMap]
  constructor
  · rintro ⟨j, hj, h⟩
    cases hq : L[j]? with
    | none => rw [hq] at h; cases h
    | some w =>
      cases w with
      | none => rw [hq] at h; cases h
      | some z =>
        rw [hq] at h
        simp at h
        obtain ⟨rfl, rfl⟩ := h
        exact hq
  · intro h
    exact ⟨i, List.mem_range.mpr (List.getElem?_eq_some_iff.mp h).1, by rw [h]; rfl⟩
theorem lo_has {ls : Array Slot} {nL : Nat} {L : List (Option Value)} (h : lo_ok ls nL L) : lv_has ls nL (lo_li L) := ⟨h.1, h.2.1, fun q hq => (h.2.2 q.1 q.2 (lo_mem.mp hq)).2⟩
theorem lo_put {ls ls' : Array Slot} {nL i : Nat} {v : Value} {L : List (Option Value)} (h : lo_ok ls nL L) (hv : v.category = 1) (h2 : lv_has ls' nL ((i, v) :: (lo_li L).filter (fun q => !(q.1 == i) && !(q.1 + 1 == i && q.2.category == 2)))) : lo_ok ls' nL (L.set i (some v)) := by
  refine ⟨h2.1, h2.2.1, fun j w hj => ?_⟩
  by_cases hji : j = i
  · subst hji
    have hlt : j < (L.set j (some v)).length := (List.getElem?_eq_some_iff.mp hj).1
    rw [List.length_set] at hlt
    rw [List.getElem?_set_self hlt] at hj
    cases hj
    exact ⟨hv, h2.2.2 (j, v) List.mem_cons_self⟩
  · rw [List.getElem?_set_ne (Ne.symm hji)] at hj
    have h1 := (h.2.2 j w hj).1
    refine ⟨h1, h2.2.2 (j, w) (List.mem_cons_of_mem _ (List.mem_filter.mpr ⟨lo_mem.mpr hj, ?_⟩))⟩
    simp [hji, h1]
theorem lo_sub {ls : Array Slot} {nL : Nat} {L L' : List (Option Value)} (h : lo_ok ls nL L) (hs : ∀ (i : Nat) (v : Value), L'[i]? = some (some v) → L[i]? = some (some v)) : lo_ok ls nL L' := ⟨h.1, h.2.1, fun i v hi => h.2.2 i v (hs i v hi)⟩
/-- forgetting places: every place of L' says nothing, or what L says -/
def lo_le : List (Option Value) → List (Option Value) → Prop
  | [], _ => True
  | none :: t, _ :: t' => lo_le t t'
  | some v :: t, w :: t' => w = some v ∧ lo_le t t'
  | _ :: _, [] => False
theorem lo_le_get : ∀ (L' L : List (Option Value)), lo_le L' L → ∀ (i : Nat) (v : Value), L'[i]? = some (some v) → L[i]? = some (some v)
  | [], _, _, i, v, h => by simp at h
  | none :: t, w :: t', hl, i, v, h => by
    cases i with
    | zero => simp at h
    | succ i =>
      rw [List.getElem?_cons_succ] at h ⊢
      exact lo_le_get t t' hl i v h
  | some u :: t, w :: t', hl, i, v, h => by
    cases i with
    | zero =>
      rw [List.getElem?_cons_zero] at h ⊢
      cases h
      rw [hl.1]
    | succ i =>
      rw [List.getElem?_cons_succ] at h ⊢
      exact lo_le_get t t' hl.2 i v h
  | none :: t, [], hl, i, v, h => by cases hl
  | some u :: t, [], hl, i, v, h => by cases hl
def vv {Res : Type} (p : Program) (l : Launch) (e : Env) (R : Room) (s : State) (m : MethodId) (args : Array Value) (below : List Frame) (meth : Method) (c : Code) (D : va_G) (cl : List vw_C) (b N : Nat) (ce : Nat → (Nat → Int32) → va_E) (nL : Nat) (Q : State → Prop) (fin : Res) (k : Option Res) (σ : mm_M) (pc : Nat) (L : List (Option Value)) (st : List Value) : Prop :=
  k = some fin → ∀ (H : Heap) (locs : List Loc) (ls : Array Slot), lo_ok ls nL L → mm_P D cl b N ce σ H → va_S (mm_A b N) s.heap H locs → W p l e R s m args below meth c H locs 0 0 Q (F0 m pc ls st)
section VV1
variable {Res : Type} {p : Program} {l : Launch} {e : Env} {R : Room} {s : State} {m : MethodId} {args : Array Value} {below : List Frame} {meth : Method} {c : Code} {D : va_G} {cl : List vw_C} {b N : Nat} {ce : Nat → (Nat → Int32) → va_E} {nL : Nat} {Q : State → Prop} {fin : Res} {k A B : Option Res} {σ : mm_M} {pc : Nat} {L L2 : List (Option Value)} {rest : List Value} {cc : ByteArray} {Ts : List Cond} {own : String}
theorem v_iconst (S : CallFix p m c cc nL s args Ts own) {n : Int} {v : Int32} (d : decode cc pc = .ok (.iconst n, 1)) (hv : Int32.ofInt n = v)
    (kk : vv p l e R s m args below meth c D cl b N ce nL Q fin k σ (pc + 1) L (.int v :: rest)) : vv p l e R s m args below meth c D cl b N ce nL Q fin k σ pc L rest := fun hk H locs ls hl hP hS => lv_iconst S.1 S.2.1 d hv (kk hk H locs ls hl hP hS)
theorem v_bipush (S : CallFix p m c cc nL s args Ts own) {n : Int} {v : Int32} (d : decode cc pc = .ok (.bipush n, 2)) (hv : (Int8.ofInt n).toInt32 = v)
    (kk : vv p l e R s m args below meth c D cl b N ce nL Q fin k σ (pc + 2) L (.int v :: rest)) : vv p l e R s m args below meth c D cl b N ce nL Q fin k σ pc L rest := fun hk H locs ls hl hP hS => lv_bipush S.1 S.2.1 d hv (kk hk H locs ls hl hP hS)
theorem v_sipush (S : CallFix p m c cc nL s args Ts own) {n : Int} {v : Int32} (d : decode cc pc = .ok (.sipush n, 3)) (hv : (Int16.ofInt n).toInt32 = v)
    (kk : vv p l e R s m args below meth c D cl b N ce nL Q fin k σ (pc + 3) L (.int v :: rest)) : vv p l e R s m args below meth c D cl b N ce nL Q fin k σ pc L rest := fun hk H locs ls hl hP hS => lv_sipush S.1 S.2.1 d hv (kk hk H locs ls hl hP hS)
theorem v_iload_n (S : CallFix p m c cc nL s args Ts own) {q : Fin 4} {i : Nat} {x : Int32} (d : decode cc pc = .ok (.iload_n q, 1)) (hi : (q : Nat) = i) (hL : L[i]? = some (some (.int x)))
    (kk : vv p l e R s m args below meth c D cl b N ce nL Q fin k σ (pc + 1) L (.int x :: rest)) : vv p l e R s m args below meth c D cl b N ce nL Q fin k σ pc L rest := fun hk H locs ls hl hP hS => lv_iload_n S.1 S.2.1 d hi (hl.2.2 _ _ hL).2 (kk hk H locs ls hl hP hS)
theorem v_iload (S : CallFix p m c cc nL s args Ts own) {i : Nat} {x : Int32} (d : decode cc pc = .ok (.iload i, 2)) (hL : L[i]? = some (some (.int x)))
    (kk : vv p l e R s m args below meth c D cl b N ce nL Q fin k σ (pc + 2) L (.int x :: rest)) : vv p l e R s m args below meth c D cl b N ce nL Q fin k σ pc L rest := fun hk H locs ls hl hP hS => lv_iload S.1 S.2.1 d (hl.2.2 _ _ hL).2 (kk hk H locs ls hl hP hS)
theorem v_aload_n (S : CallFix p m c cc nL s args Ts own) {q : Fin 4} {i : Nat} {x : Nat} (d : decode cc pc = .ok (.aload_n q, 1)) (hi : (q : Nat) = i) (hL : L[i]? = some (some (.ref x)))
    (kk : vv p l e R s m args below meth c D cl b N ce nL Q fin k σ (pc + 1) L (.ref x :: rest)) : vv p l e R s m args below meth c D cl b N ce nL Q fin k σ pc L rest := fun hk H locs ls hl hP hS => lv_aload_n S.1 S.2.1 d hi (hl.2.2 _ _ hL).2 (kk hk H locs ls hl hP hS)
theorem v_aload (S : CallFix p m c cc nL s args Ts own) {i : Nat} {x : Nat} (d : decode cc pc = .ok (.aload i, 2)) (hL : L[i]? = some (some (.ref x)))
    (kk : vv p l e R s m args below meth c D cl b N ce nL Q fin k σ (pc + 2) L (.ref x :: rest)) : vv p l e R s m args below meth c D cl b N ce nL Q fin k σ pc L rest := fun hk H locs ls hl hP hS => lv_aload S.1 S.2.1 d (hl.2.2 _ _ hL).2 (kk hk H locs ls hl hP hS)
theorem v_istore_n (S : CallFix p m c cc nL s args Ts own) {q : Fin 4} {i : Nat} {x : Int32} (d : decode cc pc = .ok (.istore_n q, 1)) (hi : (q : Nat) = i) (hn : i < nL) (hL : L.set i (some (.int x)) = L2)
    (kk : vv p l e R s m args below meth c D cl b N ce nL Q fin k σ (pc + 1) L2 rest) : vv p l e R s m args below meth c D cl b N ce nL Q fin k σ pc L (.int x :: rest) := fun hk H locs ls hl hP hS => lv_istore_n S.1 S.2.1 d hi (lo_has hl) hn rfl (fun ls' h2 => kk hk H locs ls' (hL ▸ lo_put hl rfl h2) hP hS)
theorem v_istore (S : CallFix p m c cc nL s args Ts own) {i : Nat} {x : Int32} (d : decode cc pc = .ok (.istore i, 2)) (hn : i < nL) (hL : L.set i (some (.int x)) = L2)
    (kk : vv p l e R s m args below meth c D cl b N ce nL Q fin k σ (pc + 2) L2 rest) : vv p l e R s m args below meth c D cl b N ce nL Q fin k σ pc L (.int x :: rest) := fun hk H locs ls hl hP hS => lv_istore S.1 S.2.1 d (lo_has hl) hn rfl (fun ls' h2 => kk hk H locs ls' (hL ▸ lo_put hl rfl h2) hP hS)
theorem v_astore_n (S : CallFix p m c cc nL s args Ts own) {q : Fin 4} {i : Nat} {x : Nat} (d : decode cc pc = .ok (.astore_n q, 1)) (hi : (q : Nat) = i) (hn : i < nL) (hL : L.set i (some (.ref x)) = L2)
    (kk : vv p l e R s m args below meth c D cl b N ce nL Q fin k σ (pc + 1) L2 rest) : vv p l e R s m args below meth c D cl b N ce nL Q fin k σ pc L (.ref x :: rest) := fun hk H locs ls hl hP hS => lv_astore_n S.1 S.2.1 d hi (lo_has hl) hn rfl (fun ls' h2 => kk hk H locs ls' (hL ▸ lo_put hl rfl h2) hP hS)
theorem v_astore (S : CallFix p m c cc nL s args Ts own) {i : Nat} {x : Nat} (d : decode cc pc = .ok (.astore i, 2)) (hn : i < nL) (hL : L.set i (some (.ref x)) = L2)
    (kk : vv p l e R s m args below meth c D cl b N ce nL Q fin k σ (pc + 2) L2 rest) : vv p l e R s m args below meth c D cl b N ce nL Q fin k σ pc L (.ref x :: rest) := fun hk H locs ls hl hP hS => lv_astore S.1 S.2.1 d (lo_has hl) hn rfl (fun ls' h2 => kk hk H locs ls' (hL ▸ lo_put hl rfl h2) hP hS)
theorem v_iinc (S : CallFix p m c cc nL s args Ts own) {i : Nat} {n : Int} {x v : Int32} (d : decode cc pc = .ok (.iinc i n, 3)) (hx : L[i]? = some (some (.int x))) (hv : x + Int32.ofInt n = v) (hn : i < nL) (hL : L.set i (some (.int v)) = L2)
    (kk : vv p l e R s m args below meth c D cl b N ce nL Q fin k σ (pc + 3) L2 rest) : vv p l e R s m args below meth c D cl b N ce nL Q fin k σ pc L rest := fun hk H locs ls hl hP hS => by
  obtain ⟨j, hj⟩ := List.getElem?_of_mem (lo_mem.mpr hx)
  exact lv_iinc S.1 S.2.1 d (lo_has hl) hj hv hn rfl (fun ls' h2 => kk hk H locs ls' (hL ▸ lo_put hl rfl h2) hP hS)
theorem v_iadd (S : CallFix p m c cc nL s args Ts own) {x y : Int32} (d : decode cc pc = .ok (.iadd, 1)) 
    (kk : vv p l e R s m args below meth c D cl b N ce nL Q fin k σ (pc + 1) L (.int (x + y) :: rest)) : vv p l e R s m args below meth c D cl b N ce nL Q fin k σ pc L (.int y :: .int x :: rest) := fun hk H locs ls hl hP hS => lv_iadd S.1 S.2.1 d (kk hk H locs ls hl hP hS)
theorem v_isub (S : CallFix p m c cc nL s args Ts own) {x y : Int32} (d : decode cc pc = .ok (.isub, 1)) 
    (kk : vv p l e R s m args below meth c D cl b N ce nL Q fin k σ (pc + 1) L (.int (x - y) :: rest)) : vv p l e R s m args below meth c D cl b N ce nL Q fin k σ pc L (.int y :: .int x :: rest) := fun hk H locs ls hl hP hS => lv_isub S.1 S.2.1 d (kk hk H locs ls hl hP hS)
theorem v_imul (S : CallFix p m c cc nL s args Ts own) {x y : Int32} (d : decode cc pc = .ok (.imul, 1)) 
    (kk : vv p l e R s m args below meth c D cl b N ce nL Q fin k σ (pc + 1) L (.int (x * y) :: rest)) : vv p l e R s m args below meth c D cl b N ce nL Q fin k σ pc L (.int y :: .int x :: rest) := fun hk H locs ls hl hP hS => lv_imul S.1 S.2.1 d (kk hk H locs ls hl hP hS)
theorem v_iand (S : CallFix p m c cc nL s args Ts own) {x y : Int32} (d : decode cc pc = .ok (.iand, 1)) 
    (kk : vv p l e R s m args below meth c D cl b N ce nL Q fin k σ (pc + 1) L (.int (x &&& y) :: rest)) : vv p l e R s m args below meth c D cl b N ce nL Q fin k σ pc L (.int y :: .int x :: rest) := fun hk H locs ls hl hP hS => lv_iand S.1 S.2.1 d (kk hk H locs ls hl hP hS)
theorem v_ior (S : CallFix p m c cc nL s args Ts own) {x y : Int32} (d : decode cc pc = .ok (.ior, 1)) 
    (kk : vv p l e R s m args below meth c D cl b N ce nL Q fin k σ (pc + 1) L (.int (x ||| y) :: rest)) : vv p l e R s m args below meth c D cl b N ce nL Q fin k σ pc L (.int y :: .int x :: rest) := fun hk H locs ls hl hP hS => lv_ior S.1 S.2.1 d (kk hk H locs ls hl hP hS)
theorem v_ixor (S : CallFix p m c cc nL s args Ts own) {x y : Int32} (d : decode cc pc = .ok (.ixor, 1)) 
    (kk : vv p l e R s m args below meth c D cl b N ce nL Q fin k σ (pc + 1) L (.int (x ^^^ y) :: rest)) : vv p l e R s m args below meth c D cl b N ce nL Q fin k σ pc L (.int y :: .int x :: rest) := fun hk H locs ls hl hP hS => lv_ixor S.1 S.2.1 d (kk hk H locs ls hl hP hS)
theorem v_ishl (S : CallFix p m c cc nL s args Ts own) {x y : Int32} (d : decode cc pc = .ok (.ishl, 1)) 
    (kk : vv p l e R s m args below meth c D cl b N ce nL Q fin k σ (pc + 1) L (.int (x <<< (y &&& 31)) :: rest)) : vv p l e R s m args below meth c D cl b N ce nL Q fin k σ pc L (.int y :: .int x :: rest) := fun hk H locs ls hl hP hS => lv_ishl S.1 S.2.1 d (kk hk H locs ls hl hP hS)
theorem v_ishr (S : CallFix p m c cc nL s args Ts own) {x y : Int32} (d : decode cc pc = .ok (.ishr, 1)) 
    (kk : vv p l e R s m args below meth c D cl b N ce nL Q fin k σ (pc + 1) L (.int (x >>> (y &&& 31)) :: rest)) : vv p l e R s m args below meth c D cl b N ce nL Q fin k σ pc L (.int y :: .int x :: rest) := fun hk H locs ls hl hP hS => lv_ishr S.1 S.2.1 d (kk hk H locs ls hl hP hS)
theorem v_ineg (S : CallFix p m c cc nL s args Ts own) {x : Int32} (d : decode cc pc = .ok (.ineg, 1)) 
    (kk : vv p l e R s m args below meth c D cl b N ce nL Q fin k σ (pc + 1) L (.int (-x) :: rest)) : vv p l e R s m args below meth c D cl b N ce nL Q fin k σ pc L (.int x :: rest) := fun hk H locs ls hl hP hS => lv_ineg S.1 S.2.1 d (kk hk H locs ls hl hP hS)
theorem v_idiv (S : CallFix p m c cc nL s args Ts own) {x y : Int32} (d : decode cc pc = .ok (.idiv, 1))
    (kk : ¬ y = 0 → vv p l e R s m args below meth c D cl b N ce nL Q fin k σ (pc + 1) L (.int (x / y) :: rest)) : vv p l e R s m args below meth c D cl b N ce nL Q fin (if y = 0 then none else k) σ pc L (.int y :: .int x :: rest) := fun hk H locs ls hl hP hS => by
  by_cases h : y = 0
  · rw [if_pos h] at hk; cases hk
  · rw [if_neg h] at hk
    exact lv_idiv S.1 S.2.1 d h (kk h hk H locs ls hl hP hS)
theorem v_irem (S : CallFix p m c cc nL s args Ts own) {x y : Int32} (d : decode cc pc = .ok (.irem, 1))
    (kk : ¬ y = 0 → vv p l e R s m args below meth c D cl b N ce nL Q fin k σ (pc + 1) L (.int (x - x / y * y) :: rest)) : vv p l e R s m args below meth c D cl b N ce nL Q fin (if y = 0 then none else k) σ pc L (.int y :: .int x :: rest) := fun hk H locs ls hl hP hS => by
  by_cases h : y = 0
  · rw [if_pos h] at hk; cases hk
  · rw [if_neg h] at hk
    exact lv_irem S.1 S.2.1 d h (kk h hk H locs ls hl hP hS)
theorem v_dup (S : CallFix p m c cc nL s args Ts own) {va : Value} (d : decode cc pc = .ok (.dup, 1)) (hva : va.category = 1)
    (kk : vv p l e R s m args below meth c D cl b N ce nL Q fin k σ (pc + 1) L (va :: va :: rest)) : vv p l e R s m args below meth c D cl b N ce nL Q fin k σ pc L (va :: rest) := fun hk H locs ls hl hP hS => lv_dup S.1 S.2.1 d hva (kk hk H locs ls hl hP hS)
theorem v_pop (S : CallFix p m c cc nL s args Ts own) {va : Value} (d : decode cc pc = .ok (.pop, 1)) (hva : va.category = 1)
    (kk : vv p l e R s m args below meth c D cl b N ce nL Q fin k σ (pc + 1) L rest) : vv p l e R s m args below meth c D cl b N ce nL Q fin k σ pc L (va :: rest) := fun hk H locs ls hl hP hS => lv_pop S.1 S.2.1 d hva (kk hk H locs ls hl hP hS)
theorem v_dup_x1 (S : CallFix p m c cc nL s args Ts own) {va vb : Value} (d : decode cc pc = .ok (.dup_x1, 1)) (hva : va.category = 1) (hvb : vb.category = 1)
    (kk : vv p l e R s m args below meth c D cl b N ce nL Q fin k σ (pc + 1) L (va :: vb :: va :: rest)) : vv p l e R s m args below meth c D cl b N ce nL Q fin k σ pc L (va :: vb :: rest) := fun hk H locs ls hl hP hS => lv_dup_x1 S.1 S.2.1 d hva hvb (kk hk H locs ls hl hP hS)
theorem v_dup2 (S : CallFix p m c cc nL s args Ts own) {va vb : Value} (d : decode cc pc = .ok (.dup2, 1)) (hva : va.category = 1) (hvb : vb.category = 1)
    (kk : vv p l e R s m args below meth c D cl b N ce nL Q fin k σ (pc + 1) L (va :: vb :: va :: vb :: rest)) : vv p l e R s m args below meth c D cl b N ce nL Q fin k σ pc L (va :: vb :: rest) := fun hk H locs ls hl hP hS => lv_dup2_11 S.1 S.2.1 d hva hvb (kk hk H locs ls hl hP hS)
theorem v_if_eq (S : CallFix p m c cc nL s args Ts own) {x : Int32} {off : Int} {tgt : Nat} (d : decode cc pc = .ok (.ifCond .eq off, 3)) (ht : (pc : Int) + off = (tgt : Int))
    (kt : x = 0 → vv p l e R s m args below meth c D cl b N ce nL Q fin A σ tgt L rest) (kf : ¬ x = 0 → vv p l e R s m args below meth c D cl b N ce nL Q fin B σ (pc + 3) L rest) : vv p l e R s m args below meth c D cl b N ce nL Q fin (if x = 0 then A else B) σ pc L (.int x :: rest) := fun hk H locs ls hl hP hS =>
  lv_if_eq S.1 S.2.1 d ht (fun h => kt h (by rw [if_pos h] at hk; exact hk) H locs ls hl hP hS) (fun h => kf h (by rw [if_neg h] at hk; exact hk) H locs ls hl hP hS)
theorem v_if_eqT (S : CallFix p m c cc nL s args Ts own) {x : Int32} {off : Int} {tgt : Nat} (d : decode cc pc = .ok (.ifCond .eq off, 3)) (ht : (pc : Int) + off = (tgt : Int)) (h0 : x = 0)
    (kt : vv p l e R s m args below meth c D cl b N ce nL Q fin k σ tgt L rest) : vv p l e R s m args below meth c D cl b N ce nL Q fin k σ pc L (.int x :: rest) := fun hk H locs ls hl hP hS =>
  lv_if_eq S.1 S.2.1 d ht (fun _ => kt hk H locs ls hl hP hS) (fun h => absurd h0 h)
theorem v_if_eqF (S : CallFix p m c cc nL s args Ts own) {x : Int32} {off : Int} {tgt : Nat} (d : decode cc pc = .ok (.ifCond .eq off, 3)) (ht : (pc : Int) + off = (tgt : Int)) (h0 : ¬ x = 0)
    (kf : vv p l e R s m args below meth c D cl b N ce nL Q fin k σ (pc + 3) L rest) : vv p l e R s m args below meth c D cl b N ce nL Q fin k σ pc L (.int x :: rest) := fun hk H locs ls hl hP hS =>
  lv_if_eq S.1 S.2.1 d ht (fun h => absurd h h0) (fun _ => kf hk H locs ls hl hP hS)
theorem v_icmp_eq (S : CallFix p m c cc nL s args Ts own) {x y : Int32} {off : Int} {tgt : Nat} (d : decode cc pc = .ok (.if_icmp .eq off, 3)) (ht : (pc : Int) + off = (tgt : Int))
    (kt : x = y → vv p l e R s m args below meth c D cl b N ce nL Q fin A σ tgt L rest) (kf : ¬ x = y → vv p l e R s m args below meth c D cl b N ce nL Q fin B σ (pc + 3) L rest) : vv p l e R s m args below meth c D cl b N ce nL Q fin (if x = y then A else B) σ pc L (.int y :: .int x :: rest) := fun hk H locs ls hl hP hS =>
  lv_icmp_eq S.1 S.2.1 d ht (fun h => kt h (by rw [if_pos h] at hk; exact hk) H locs ls hl hP hS) (fun h => kf h (by rw [if_neg h] at hk; exact hk) H locs ls hl hP hS)
theorem v_icmp_eqT (S : CallFix p m c cc nL s args Ts own) {x y : Int32} {off : Int} {tgt : Nat} (d : decode cc pc = .ok (.if_icmp .eq off, 3)) (ht : (pc : Int) + off = (tgt : Int)) (h0 : x = y)
    (kt : vv p l e R s m args below meth c D cl b N ce nL Q fin k σ tgt L rest) : vv p l e R s m args below meth c D cl b N ce nL Q fin k σ pc L (.int y :: .int x :: rest) := fun hk H locs ls hl hP hS =>
  lv_icmp_eq S.1 S.2.1 d ht (fun _ => kt hk H locs ls hl hP hS) (fun h => absurd h0 h)
theorem v_icmp_eqF (S : CallFix p m c cc nL s args Ts own) {x y : Int32} {off : Int} {tgt : Nat} (d : decode cc pc = .ok (.if_icmp .eq off, 3)) (ht : (pc : Int) + off = (tgt : Int)) (h0 : ¬ x = y)
    (kf : vv p l e R s m args below meth c D cl b N ce nL Q fin k σ (pc + 3) L rest) : vv p l e R s m args below meth c D cl b N ce nL Q fin k σ pc L (.int y :: .int x :: rest) := fun hk H locs ls hl hP hS =>
  lv_icmp_eq S.1 S.2.1 d ht (fun h => absurd h h0) (fun _ => kf hk H locs ls hl hP hS)
theorem v_if_ne (S : CallFix p m c cc nL s args Ts own) {x : Int32} {off : Int} {tgt : Nat} (d : decode cc pc = .ok (.ifCond .ne off, 3)) (ht : (pc : Int) + off = (tgt : Int))
    (kt : ¬ x = 0 → vv p l e R s m args below meth c D cl b N ce nL Q fin B σ tgt L rest) (kf : x = 0 → vv p l e R s m args below meth c D cl b N ce nL Q fin A σ (pc + 3) L rest) : vv p l e R s m args below meth c D cl b N ce nL Q fin (if x = 0 then A else B) σ pc L (.int x :: rest) := fun hk H locs ls hl hP hS =>
  lv_if_ne S.1 S.2.1 d ht (fun h => kt h (by rw [if_neg h] at hk; exact hk) H locs ls hl hP hS) (fun h => kf h (by rw [if_pos h] at hk; exact hk) H locs ls hl hP hS)
theorem v_if_neT (S : CallFix p m c cc nL s args Ts own) {x : Int32} {off : Int} {tgt : Nat} (d : decode cc pc = .ok (.ifCond .ne off, 3)) (ht : (pc : Int) + off = (tgt : Int)) (h0 : ¬ x = 0)
    (kt : vv p l e R s m args below meth c D cl b N ce nL Q fin k σ tgt L rest) : vv p l e R s m args below meth c D cl b N ce nL Q fin k σ pc L (.int x :: rest) := fun hk H locs ls hl hP hS =>
  lv_if_ne S.1 S.2.1 d ht (fun _ => kt hk H locs ls hl hP hS) (fun h => absurd h h0)
theorem v_if_neF (S : CallFix p m c cc nL s args Ts own) {x : Int32} {off : Int} {tgt : Nat} (d : decode cc pc = .ok (.ifCond .ne off, 3)) (ht : (pc : Int) + off = (tgt : Int)) (h0 : x = 0)
    (kf : vv p l e R s m args below meth c D cl b N ce nL Q fin k σ (pc + 3) L rest) : vv p l e R s m args below meth c D cl b N ce nL Q fin k σ pc L (.int x :: rest) := fun hk H locs ls hl hP hS =>
  lv_if_ne S.1 S.2.1 d ht (fun h => absurd h0 h) (fun _ => kf hk H locs ls hl hP hS)
theorem v_icmp_ne (S : CallFix p m c cc nL s args Ts own) {x y : Int32} {off : Int} {tgt : Nat} (d : decode cc pc = .ok (.if_icmp .ne off, 3)) (ht : (pc : Int) + off = (tgt : Int))
    (kt : ¬ x = y → vv p l e R s m args below meth c D cl b N ce nL Q fin B σ tgt L rest) (kf : x = y → vv p l e R s m args below meth c D cl b N ce nL Q fin A σ (pc + 3) L rest) : vv p l e R s m args below meth c D cl b N ce nL Q fin (if x = y then A else B) σ pc L (.int y :: .int x :: rest) := fun hk H locs ls hl hP hS =>
  lv_icmp_ne S.1 S.2.1 d ht (fun h => kt h (by rw [if_neg h] at hk; exact hk) H locs ls hl hP hS) (fun h => kf h (by rw [if_pos h] at hk; exact hk) H locs ls hl hP hS)
theorem v_icmp_neT (S : CallFix p m c cc nL s args Ts own) {x y : Int32} {off : Int} {tgt : Nat} (d : decode cc pc = .ok (.if_icmp .ne off, 3)) (ht : (pc : Int) + off = (tgt : Int)) (h0 : ¬ x = y)
    (kt : vv p l e R s m args below meth c D cl b N ce nL Q fin k σ tgt L rest) : vv p l e R s m args below meth c D cl b N ce nL Q fin k σ pc L (.int y :: .int x :: rest) := fun hk H locs ls hl hP hS =>
  lv_icmp_ne S.1 S.2.1 d ht (fun _ => kt hk H locs ls hl hP hS) (fun h => absurd h h0)
theorem v_icmp_neF (S : CallFix p m c cc nL s args Ts own) {x y : Int32} {off : Int} {tgt : Nat} (d : decode cc pc = .ok (.if_icmp .ne off, 3)) (ht : (pc : Int) + off = (tgt : Int)) (h0 : x = y)
    (kf : vv p l e R s m args below meth c D cl b N ce nL Q fin k σ (pc + 3) L rest) : vv p l e R s m args below meth c D cl b N ce nL Q fin k σ pc L (.int y :: .int x :: rest) := fun hk H locs ls hl hP hS =>
  lv_icmp_ne S.1 S.2.1 d ht (fun h => absurd h0 h) (fun _ => kf hk H locs ls hl hP hS)
theorem v_if_lt (S : CallFix p m c cc nL s args Ts own) {x : Int32} {off : Int} {tgt : Nat} (d : decode cc pc = .ok (.ifCond .lt off, 3)) (ht : (pc : Int) + off = (tgt : Int))
    (kt : x < 0 → vv p l e R s m args below meth c D cl b N ce nL Q fin A σ tgt L rest) (kf : ¬ x < 0 → vv p l e R s m args below meth c D cl b N ce nL Q fin B σ (pc + 3) L rest) : vv p l e R s m args below meth c D cl b N ce nL Q fin (if x < 0 then A else B) σ pc L (.int x :: rest) := fun hk H locs ls hl hP hS =>
  lv_if_lt S.1 S.2.1 d ht (fun h => kt h (by rw [if_pos h] at hk; exact hk) H locs ls hl hP hS) (fun h => kf h (by rw [if_neg h] at hk; exact hk) H locs ls hl hP hS)
theorem v_if_ltT (S : CallFix p m c cc nL s args Ts own) {x : Int32} {off : Int} {tgt : Nat} (d : decode cc pc = .ok (.ifCond .lt off, 3)) (ht : (pc : Int) + off = (tgt : Int)) (h0 : x < 0)
    (kt : vv p l e R s m args below meth c D cl b N ce nL Q fin k σ tgt L rest) : vv p l e R s m args below meth c D cl b N ce nL Q fin k σ pc L (.int x :: rest) := fun hk H locs ls hl hP hS =>
  lv_if_lt S.1 S.2.1 d ht (fun _ => kt hk H locs ls hl hP hS) (fun h => absurd h0 h)
theorem v_if_ltF (S : CallFix p m c cc nL s args Ts own) {x : Int32} {off : Int} {tgt : Nat} (d : decode cc pc = .ok (.ifCond .lt off, 3)) (ht : (pc : Int) + off = (tgt : Int)) (h0 : ¬ x < 0)
    (kf : vv p l e R s m args below meth c D cl b N ce nL Q fin k σ (pc + 3) L rest) : vv p l e R s m args below meth c D cl b N ce nL Q fin k σ pc L (.int x :: rest) := fun hk H locs ls hl hP hS =>
  lv_if_lt S.1 S.2.1 d ht (fun h => absurd h h0) (fun _ => kf hk H locs ls hl hP hS)
theorem v_icmp_lt (S : CallFix p m c cc nL s args Ts own) {x y : Int32} {off : Int} {tgt : Nat} (d : decode cc pc = .ok (.if_icmp .lt off, 3)) (ht : (pc : Int) + off = (tgt : Int))
    (kt : x < y → vv p l e R s m args below meth c D cl b N ce nL Q fin A σ tgt L rest) (kf : ¬ x < y → vv p l e R s m args below meth c D cl b N ce nL Q fin B σ (pc + 3) L rest) : vv p l e R s m args below meth c D cl b N ce nL Q fin (if x < y then A else B) σ pc L (.int y :: .int x :: rest) := fun hk H locs ls hl hP hS =>
  lv_icmp_lt S.1 S.2.1 d ht (fun h => kt h (by rw [if_pos h] at hk; exact hk) H locs ls hl hP hS) (fun h => kf h (by rw [if_neg h] at hk; exact hk) H locs ls hl hP hS)
theorem v_icmp_ltT (S : CallFix p m c cc nL s args Ts own) {x y : Int32} {off : Int} {tgt : Nat} (d : decode cc pc = .ok (.if_icmp .lt off, 3)) (ht : (pc : Int) + off = (tgt : Int)) (h0 : x < y)
    (kt : vv p l e R s m args below meth c D cl b N ce nL Q fin k σ tgt L rest) : vv p l e R s m args below meth c D cl b N ce nL Q fin k σ pc L (.int y :: .int x :: rest) := fun hk H locs ls hl hP hS =>
  lv_icmp_lt S.1 S.2.1 d ht (fun _ => kt hk H locs ls hl hP hS) (fun h => absurd h0 h)
theorem v_icmp_ltF (S : CallFix p m c cc nL s args Ts own) {x y : Int32} {off : Int} {tgt : Nat} (d : decode cc pc = .ok (.if_icmp .lt off, 3)) (ht : (pc : Int) + off = (tgt : Int)) (h0 : ¬ x < y)
    (kf : vv p l e R s m args below meth c D cl b N ce nL Q fin k σ (pc + 3) L rest) : vv p l e R s m args below meth c D cl b N ce nL Q fin k σ pc L (.int y :: .int x :: rest) := fun hk H locs ls hl hP hS =>
  lv_icmp_lt S.1 S.2.1 d ht (fun h => absurd h h0) (fun _ => kf hk H locs ls hl hP hS)
theorem v_if_ge (S : CallFix p m c cc nL s args Ts own) {x : Int32} {off : Int} {tgt : Nat} (d : decode cc pc = .ok (.ifCond .ge off, 3)) (ht : (pc : Int) + off = (tgt : Int))
    (kt : 0 ≤ x → vv p l e R s m args below meth c D cl b N ce nL Q fin A σ tgt L rest) (kf : ¬ 0 ≤ x → vv p l e R s m args below meth c D cl b N ce nL Q fin B σ (pc + 3) L rest) : vv p l e R s m args below meth c D cl b N ce nL Q fin (if 0 ≤ x then A else B) σ pc L (.int x :: rest) := fun hk H locs ls hl hP hS =>
  lv_if_ge S.1 S.2.1 d ht (fun h => kt h (by rw [if_pos h] at hk; exact hk) H locs ls hl hP hS) (fun h => kf h (by rw [if_neg h] at hk; exact hk) H locs ls hl hP hS)
theorem v_if_geT (S : CallFix p m c cc nL s args Ts own) {x : Int32} {off : Int} {tgt : Nat} (d : decode cc pc = .ok (.ifCond .ge off, 3)) (ht : (pc : Int) + off = (tgt : Int)) (h0 : 0 ≤ x)
    (kt : vv p l e R s m args below meth c D cl b N ce nL Q fin k σ tgt L rest) : vv p l e R s m args below meth c D cl b N ce nL Q fin k σ pc L (.int x :: rest) := fun hk H locs ls hl hP hS =>
  lv_if_ge S.1 S.2.1 d ht (fun _ => kt hk H locs ls hl hP hS) (fun h => absurd h0 h)
theorem v_if_geF (S : CallFix p m c cc nL s args Ts own) {x : Int32} {off : Int} {tgt : Nat} (d : decode cc pc = .ok (.ifCond .ge off, 3)) (ht : (pc : Int) + off = (tgt : Int)) (h0 : ¬ 0 ≤ x)
    (kf : vv p l e R s m args below meth c D cl b N ce nL Q fin k σ (pc + 3) L rest) : vv p l e R s m args below meth c D cl b N ce nL Q fin k σ pc L (.int x :: rest) := fun hk H locs ls hl hP hS =>
  lv_if_ge S.1 S.2.1 d ht (fun h => absurd h h0) (fun _ => kf hk H locs ls hl hP hS)
theorem v_icmp_ge (S : CallFix p m c cc nL s args Ts own) {x y : Int32} {off : Int} {tgt : Nat} (d : decode cc pc = .ok (.if_icmp .ge off, 3)) (ht : (pc : Int) + off = (tgt : Int))
    (kt : y ≤ x → vv p l e R s m args below meth c D cl b N ce nL Q fin A σ tgt L rest) (kf : ¬ y ≤ x → vv p l e R s m args below meth c D cl b N ce nL Q fin B σ (pc + 3) L rest) : vv p l e R s m args below meth c D cl b N ce nL Q fin (if y ≤ x then A else B) σ pc L (.int y :: .int x :: rest) := fun hk H locs ls hl hP hS =>
  lv_icmp_ge S.1 S.2.1 d ht (fun h => kt h (by rw [if_pos h] at hk; exact hk) H locs ls hl hP hS) (fun h => kf h (by rw [if_neg h] at hk; exact hk) H locs ls hl hP hS)
theorem v_icmp_geT (S : CallFix p m c cc nL s args Ts own) {x y : Int32} {off : Int} {tgt : Nat} (d : decode cc pc = .ok (.if_icmp .ge off, 3)) (ht : (pc : Int) + off = (tgt : Int)) (h0 : y ≤ x)
    (kt : vv p l e R s m args below meth c D cl b N ce nL Q fin k σ tgt L rest) : vv p l e R s m args below meth c D cl b N ce nL Q fin k σ pc L (.int y :: .int x :: rest) := fun hk H locs ls hl hP hS =>
  lv_icmp_ge S.1 S.2.1 d ht (fun _ => kt hk H locs ls hl hP hS) (fun h => absurd h0 h)
theorem v_icmp_geF (S : CallFix p m c cc nL s args Ts own) {x y : Int32} {off : Int} {tgt : Nat} (d : decode cc pc = .ok (.if_icmp .ge off, 3)) (ht : (pc : Int) + off = (tgt : Int)) (h0 : ¬ y ≤ x)
    (kf : vv p l e R s m args below meth c D cl b N ce nL Q fin k σ (pc + 3) L rest) : vv p l e R s m args below meth c D cl b N ce nL Q fin k σ pc L (.int y :: .int x :: rest) := fun hk H locs ls hl hP hS =>
  lv_icmp_ge S.1 S.2.1 d ht (fun h => absurd h h0) (fun _ => kf hk H locs ls hl hP hS)
theorem v_if_gt (S : CallFix p m c cc nL s args Ts own) {x : Int32} {off : Int} {tgt : Nat} (d : decode cc pc = .ok (.ifCond .gt off, 3)) (ht : (pc : Int) + off = (tgt : Int))
    (kt : 0 < x → vv p l e R s m args below meth c D cl b N ce nL Q fin A σ tgt L rest) (kf : ¬ 0 < x → vv p l e R s m args below meth c D cl b N ce nL Q fin B σ (pc + 3) L rest) : vv p l e R s m args below meth c D cl b N ce nL Q fin (if 0 < x then A else B) σ pc L (.int x :: rest) := fun hk H locs ls hl hP hS =>
  lv_if_gt S.1 S.2.1 d ht (fun h => kt h (by rw [if_pos h] at hk; exact hk) H locs ls hl hP hS) (fun h => kf h (by rw [if_neg h] at hk; exact hk) H locs ls hl hP hS)
theorem v_if_gtT (S : CallFix p m c cc nL s args Ts own) {x : Int32} {off : Int} {tgt : Nat} (d : decode cc pc = .ok (.ifCond .gt off, 3)) (ht : (pc : Int) + off = (tgt : Int)) (h0 : 0 < x)
    (kt : vv p l e R s m args below meth c D cl b N ce nL Q fin k σ tgt L rest) : vv p l e R s m args below meth c D cl b N ce nL Q fin k σ pc L (.int x :: rest) := fun hk H locs ls hl hP hS =>
  lv_if_gt S.1 S.2.1 d ht (fun _ => kt hk H locs ls hl hP hS) (fun h => absurd h0 h)
theorem v_if_gtF (S : CallFix p m c cc nL s args Ts own) {x : Int32} {off : Int} {tgt : Nat} (d : decode cc pc = .ok (.ifCond .gt off, 3)) (ht : (pc : Int) + off = (tgt : Int)) (h0 : ¬ 0 < x)
    (kf : vv p l e R s m args below meth c D cl b N ce nL Q fin k σ (pc + 3) L rest) : vv p l e R s m args below meth c D cl b N ce nL Q fin k σ pc L (.int x :: rest) := fun hk H locs ls hl hP hS =>
  lv_if_gt S.1 S.2.1 d ht (fun h => absurd h h0) (fun _ => kf hk H locs ls hl hP hS)
theorem v_icmp_gt (S : CallFix p m c cc nL s args Ts own) {x y : Int32} {off : Int} {tgt : Nat} (d : decode cc pc = .ok (.if_icmp .gt off, 3)) (ht : (pc : Int) + off = (tgt : Int))
    (kt : y < x → vv p l e R s m args below meth c D cl b N ce nL Q fin A σ tgt L rest) (kf : ¬ y < x → vv p l e R s m args below meth c D cl b N ce nL Q fin B σ (pc + 3) L rest) : vv p l e R s m args below meth c D cl b N ce nL Q fin (if y < x then A else B) σ pc L (.int y :: .int x :: rest) := fun hk H locs ls hl hP hS =>
  lv_icmp_gt S.1 S.2.1 d ht (fun h => kt h (by rw [if_pos h] at hk; exact hk) H locs ls hl hP hS) (fun h => kf h (by rw [if_neg h] at hk; exact hk) H locs ls hl hP hS)
theorem v_icmp_gtT (S : CallFix p m c cc nL s args Ts own) {x y : Int32} {off : Int} {tgt : Nat} (d : decode cc pc = .ok (.if_icmp .gt off, 3)) (ht : (pc : Int) + off = (tgt : Int)) (h0 : y < x)
    (kt : vv p l e R s m args below meth c D cl b N ce nL Q fin k σ tgt L rest) : vv p l e R s m args below meth c D cl b N ce nL Q fin k σ pc L (.int y :: .int x :: rest) := fun hk H locs ls hl hP hS =>
  lv_icmp_gt S.1 S.2.1 d ht (fun _ => kt hk H locs ls hl hP hS) (fun h => absurd h0 h)
theorem v_icmp_gtF (S : CallFix p m c cc nL s args Ts own) {x y : Int32} {off : Int} {tgt : Nat} (d : decode cc pc = .ok (.if_icmp .gt off, 3)) (ht : (pc : Int) + off = (tgt : Int)) (h0 : ¬ y < x)
    (kf : vv p l e R s m args below meth c D cl b N ce nL Q fin k σ (pc + 3) L rest) : vv p l e R s m args below meth c D cl b N ce nL Q fin k σ pc L (.int y :: .int x :: rest) := fun hk H locs ls hl hP hS =>
  lv_icmp_gt S.1 S.2.1 d ht (fun h => absurd h h0) (fun _ => kf hk H locs ls hl hP hS)
theorem v_if_le (S : CallFix p m c cc nL s args Ts own) {x : Int32} {off : Int} {tgt : Nat} (d : decode cc pc = .ok (.ifCond .le off, 3)) (ht : (pc : Int) + off = (tgt : Int))
    (kt : x ≤ 0 → vv p l e R s m args below meth c D cl b N ce nL Q fin A σ tgt L rest) (kf : ¬ x ≤ 0 → vv p l e R s m args below meth c D cl b N ce nL Q fin B σ (pc + 3) L rest) : vv p l e R s m args below meth c D cl b N ce nL Q fin (if x ≤ 0 then A else B) σ pc L (.int x :: rest) := fun hk H locs ls hl hP hS =>
  lv_if_le S.1 S.2.1 d ht (fun h => kt h (by rw [if_pos h] at hk; exact hk) H locs ls hl hP hS) (fun h => kf h (by rw [if_neg h] at hk; exact hk) H locs ls hl hP hS)
theorem v_if_leT (S : CallFix p m c cc nL s args Ts own) {x : Int32} {off : Int} {tgt : Nat} (d : decode cc pc = .ok (.ifCond .le off, 3)) (ht : (pc : Int) + off = (tgt : Int)) (h0 : x ≤ 0)
    (kt : vv p l e R s m args below meth c D cl b N ce nL Q fin k σ tgt L rest) : vv p l e R s m args below meth c D cl b N ce nL Q fin k σ pc L (.int x :: rest) := fun hk H locs ls hl hP hS =>
  lv_if_le S.1 S.2.1 d ht (fun _ => kt hk H locs ls hl hP hS) (fun h => absurd h0 h)
theorem v_if_leF (S : CallFix p m c cc nL s args Ts own) {x : Int32} {off : Int} {tgt : Nat} (d : decode cc pc = .ok (.ifCond .le off, 3)) (ht : (pc : Int) + off = (tgt : Int)) (h0 : ¬ x ≤ 0)
    (kf : vv p l e R s m args below meth c D cl b N ce nL Q fin k σ (pc + 3) L rest) : vv p l e R s m args below meth c D cl b N ce nL Q fin k σ pc L (.int x :: rest) := fun hk H locs ls hl hP hS =>
  lv_if_le S.1 S.2.1 d ht (fun h => absurd h h0) (fun _ => kf hk H locs ls hl hP hS)
theorem v_icmp_le (S : CallFix p m c cc nL s args Ts own) {x y : Int32} {off : Int} {tgt : Nat} (d : decode cc pc = .ok (.if_icmp .le off, 3)) (ht : (pc : Int) + off = (tgt : Int))
    (kt : x ≤ y → vv p l e R s m args below meth c D cl b N ce nL Q fin A σ tgt L rest) (kf : ¬ x ≤ y → vv p l e R s m args below meth c D cl b N ce nL Q fin B σ (pc + 3) L rest) : vv p l e R s m args below meth c D cl b N ce nL Q fin (if x ≤ y then A else B) σ pc L (.int y :: .int x :: rest) := fun hk H locs ls hl hP hS =>
  lv_icmp_le S.1 S.2.1 d ht (fun h => kt h (by rw [if_pos h] at hk; exact hk) H locs ls hl hP hS) (fun h => kf h (by rw [if_neg h] at hk; exact hk) H locs ls hl hP hS)
theorem v_icmp_leT (S : CallFix p m c cc nL s args Ts own) {x y : Int32} {off : Int} {tgt : Nat} (d : decode cc pc = .ok (.if_icmp .le off, 3)) (ht : (pc : Int) + off = (tgt : Int)) (h0 : x ≤ y)
    (kt : vv p l e R s m args below meth c D cl b N ce nL Q fin k σ tgt L rest) : vv p l e R s m args below meth c D cl b N ce nL Q fin k σ pc L (.int y :: .int x :: rest) := fun hk H locs ls hl hP hS =>
  lv_icmp_le S.1 S.2.1 d ht (fun _ => kt hk H locs ls hl hP hS) (fun h => absurd h0 h)
theorem v_icmp_leF (S : CallFix p m c cc nL s args Ts own) {x y : Int32} {off : Int} {tgt : Nat} (d : decode cc pc = .ok (.if_icmp .le off, 3)) (ht : (pc : Int) + off = (tgt : Int)) (h0 : ¬ x ≤ y)
    (kf : vv p l e R s m args below meth c D cl b N ce nL Q fin k σ (pc + 3) L rest) : vv p l e R s m args below meth c D cl b N ce nL Q fin k σ pc L (.int y :: .int x :: rest) := fun hk H locs ls hl hP hS =>
  lv_icmp_le S.1 S.2.1 d ht (fun h => absurd h h0) (fun _ => kf hk H locs ls hl hP hS)
theorem v_goto (S : CallFix p m c cc nL s args Ts own) {off : Int} {tgt : Nat} (d : decode cc pc = .ok (.goto off, 3)) (ht : (pc : Int) + off = (tgt : Int))
    (kk : vv p l e R s m args below meth c D cl b N ce nL Q fin k σ tgt L rest) : vv p l e R s m args below meth c D cl b N ce nL Q fin k σ pc L rest := fun hk H locs ls hl hP hS => lv_goto S.1 S.2.1 d ht (kk hk H locs ls hl hP hS)
theorem v_sub (h : lo_le L2 L) (kk : vv p l e R s m args below meth c D cl b N ce nL Q fin k σ pc L2 rest) : vv p l e R s m args below meth c D cl b N ce nL Q fin k σ pc L rest := fun hk H locs ls hl hP hS => kk hk H locs ls (lo_sub hl (lo_le_get _ _ h)) hP hS
theorem v_tsw (S : CallFix p m c cc nL s args Ts own) {dflt lo hi : Int} {offs : Array Int} {len : Nat} {x : Int32} (v : Int32) {off : Int} {tgt : Nat} (d : decode cc pc = .ok (.tableswitch dflt lo hi offs, len)) (h1 : ¬ v.toInt < lo) (h2 : ¬ hi < v.toInt) (ho : offs[(v.toInt - lo).toNat]? = some off) (ht : (pc : Int) + off = (tgt : Int))
    (kt : x = v → vv p l e R s m args below meth c D cl b N ce nL Q fin A σ tgt L rest) (kf : ¬ x = v → vv p l e R s m args below meth c D cl b N ce nL Q fin B σ pc L (.int x :: rest)) : vv p l e R s m args below meth c D cl b N ce nL Q fin (if x = v then A else B) σ pc L (.int x :: rest) := fun hk H locs ls hl hP hS => by
  by_cases h : x = v
  · rw [if_pos h] at hk
    subst h
    exact lv_tableIn S.1 S.2.1 d h1 h2 ho ht (kt rfl hk H locs ls hl hP hS)
  · rw [if_neg h] at hk
    exact kf h hk H locs ls hl hP hS
theorem v_tswD (S : CallFix p m c cc nL s args Ts own) {dflt lo hi : Int} {offs : Array Int} {len : Nat} {x : Int32} {tgt : Nat} (d : decode cc pc = .ok (.tableswitch dflt lo hi offs, len)) (h : x.toInt < lo ∨ hi < x.toInt) (ht : (pc : Int) + dflt = (tgt : Int))
    (kk : vv p l e R s m args below meth c D cl b N ce nL Q fin k σ tgt L rest) : vv p l e R s m args below meth c D cl b N ce nL Q fin k σ pc L (.int x :: rest) := fun hk H locs ls hl hP hS => lv_tableOut S.1 S.2.1 d h ht (kk hk H locs ls hl hP hS)
theorem v_lsw (S : CallFix p m c cc nL s args Ts own) {dflt : Int} {ps : Array (Int × Int)} {len : Nat} {x : Int32} (v : Int32) {off : Int} {tgt : Nat} (d : decode cc pc = .ok (.lookupswitch dflt ps, len)) (hp : (ps.toList.zip (ps.toList.drop 1)).all (fun (a, next) => a.1 < next.1) = true) (ho : Op.lookupswitch.offset ps.toList dflt v.toInt = off) (ht : (pc : Int) + off = (tgt : Int))
    (kt : x = v → vv p l e R s m args below meth c D cl b N ce nL Q fin A σ tgt L rest) (kf : ¬ x = v → vv p l e R s m args below meth c D cl b N ce nL Q fin B σ pc L (.int x :: rest)) : vv p l e R s m args below meth c D cl b N ce nL Q fin (if x = v then A else B) σ pc L (.int x :: rest) := fun hk H locs ls hl hP hS => by
  by_cases h : x = v
  · rw [if_pos h] at hk
    subst h
    exact lv_lookup S.1 S.2.1 d hp ho ht (kt rfl hk H locs ls hl hP hS)
  · rw [if_neg h] at hk
    exact kf h hk H locs ls hl hP hS
theorem v_lswD (S : CallFix p m c cc nL s args Ts own) {dflt : Int} {ps : Array (Int × Int)} {len : Nat} {x : Int32} {tgt : Nat} (d : decode cc pc = .ok (.lookupswitch dflt ps, len)) (hp : (ps.toList.zip (ps.toList.drop 1)).all (fun (a, next) => a.1 < next.1) = true) (ho : Op.lookupswitch.offset ps.toList dflt x.toInt = dflt) (ht : (pc : Int) + dflt = (tgt : Int))
    (kk : vv p l e R s m args below meth c D cl b N ce nL Q fin k σ tgt L rest) : vv p l e R s m args below meth c D cl b N ce nL Q fin k σ pc L (.int x :: rest) := fun hk H locs ls hl hP hS => lv_lookup S.1 S.2.1 d hp ho ht (kk hk H locs ls hl hP hS)
theorem v_get (S : CallFix p m c cc nL s args Ts own) {ref C : String} {T : u_T} {Nf ci index : Nat} {tys : List (ClassId × FieldType)} (hin : ∀ w ∈ u_ws C T Nf, w ∈ Ts) (hK : va_K D cl tys s) (kq : Nat) (hkq : kq < N) {fs : List Value} (hce : ce kq (σ kq) = .inr (ci, fs)) (hc : cl[ci]? = some (C, T, Nf)) (j : Nat) (hj : j < Nf) (hlink : (Cond.fieldLink own index ref (T j).2.1 (T j).2.2.1).before args s = true) (hsame : ∀ x, s.fieldFound? (T j).1 (T j).2.1 (T j).2.2.1 = some x → s.fieldFound? ref (T j).2.1 (T j).2.2.1 = some x) {v : Value} (hv : fs[j]? = some v) (d : decode cc pc = .ok (.getfield index, 3))
    (kk : vv p l e R s m args below meth c D cl b N ce nL Q fin k σ (pc + 3) L (v :: rest)) : vv p l e R s m args below meth c D cl b N ce nL Q fin k σ pc L (.ref (b + kq) :: rest) := fun hk H locs ls hl hP hS =>
  va_get S.1 S.2.1 S.2.2.2.2 hin S.2.2.2.1 hK hP kq (by rw [mm_get hkq, hce]) hc j hj hlink hsame hv d (kk hk H locs ls hl hP hS)
theorem v_put (S : CallFix p m c cc nL s args Ts own) {ref C : String} {T : u_T} {Nf ci index : Nat} {tys : List (ClassId × FieldType)} (hin : ∀ w ∈ u_ws C T Nf, w ∈ Ts) (hK : va_K D cl tys s) (kq : Nat) (hkq : kq < N) {fs : List Value} (hce : ce kq (σ kq) = .inr (ci, fs)) (hc : cl[ci]? = some (C, T, Nf)) (j : Nat) (hj : j < Nf) (hlink : (Cond.fieldLink own index ref (T j).2.1 (T j).2.2.1).before args s = true) (hsame : ∀ x, s.fieldFound? (T j).1 (T j).2.1 (T j).2.2.1 = some x → s.fieldFound? ref (T j).2.1 (T j).2.2.1 = some x) (ty0 : Nat → FieldType) (hty : ∀ k, k < Nf → parseFieldDescriptor (T k).2.2.1 = some (ty0 k)) (hnm : ∀ a, a < Nf → ∀ b, b < Nf → a ≠ b → (T a).2.1 ≠ (T b).2.1) (hfin : (T j).2.2.2 = false) {ty : FieldType} {v : Value} (hd : parseFieldDescriptor (T j).2.2.1 = some ty) (hn : narrow ty v = v) (hfit : fits ty v = true) (hl0 : j < fs.length) (f : Nat → Int32) (he : .inr (ci, fs.set j v) = ce kq f) (d : decode cc pc = .ok (.putfield index, 3))
    (kk : vv p l e R s m args below meth c D cl b N ce nL Q fin k (va_up σ kq f) (pc + 3) L rest) : vv p l e R s m args below meth c D cl b N ce nL Q fin k σ pc L (v :: .ref (b + kq) :: rest) := fun hk H locs ls hl hP hS =>
  va_put S.1 S.2.1 S.2.2.2.2 hin ty0 hty hnm S.2.2.2.1 hK hP mm_D hS kq (by rw [mm_get hkq, hce]) hc j hj hlink hsame hfin hd hn hfit hl0 d (fun H1 locs1 hP1 _ hS1 => kk hk H1 locs1 ls hl (mm_P.put f he hP1) hS1)
theorem v_getN (S : CallFix p m c cc nL s args Ts own) {ref C : String} {T : u_T} {Nf ci index : Nat} {tys : List (ClassId × FieldType)} (hin : ∀ w ∈ u_ws C T Nf, w ∈ Ts) (hK : va_K D cl tys s) (kq : Nat) (hkq : kq < N) {fs : List Value} (hce : ce kq (σ kq) = .inr (ci, fs)) (hc : cl[ci]? = some (C, T, Nf)) (j : Nat) (hj : j < Nf) {host : String} (hlink : (Cond.fieldLinkNest own index ref (T j).2.1 (T j).2.2.1 host).before args s = true) (hsame : ∀ x, s.fieldFound? (T j).1 (T j).2.1 (T j).2.2.1 = some x → s.fieldFound? ref (T j).2.1 (T j).2.2.1 = some x) {v : Value} (hv : fs[j]? = some v) (d : decode cc pc = .ok (.getfield index, 3))
    (kk : vv p l e R s m args below meth c D cl b N ce nL Q fin k σ (pc + 3) L (v :: rest)) : vv p l e R s m args below meth c D cl b N ce nL Q fin k σ pc L (.ref (b + kq) :: rest) := fun hk H locs ls hl hP hS =>
  va_getN S.1 S.2.1 S.2.2.2.2 hin S.2.2.2.1 hK hP kq (by rw [mm_get hkq, hce]) hc j hj hlink hsame hv d (kk hk H locs ls hl hP hS)
theorem v_putN (S : CallFix p m c cc nL s args Ts own) {ref C : String} {T : u_T} {Nf ci index : Nat} {tys : List (ClassId × FieldType)} (hin : ∀ w ∈ u_ws C T Nf, w ∈ Ts) (hK : va_K D cl tys s) (kq : Nat) (hkq : kq < N) {fs : List Value} (hce : ce kq (σ kq) = .inr (ci, fs)) (hc : cl[ci]? = some (C, T, Nf)) (j : Nat) (hj : j < Nf) {host : String} (hlink : (Cond.fieldLinkNest own index ref (T j).2.1 (T j).2.2.1 host).before args s = true) (hsame : ∀ x, s.fieldFound? (T j).1 (T j).2.1 (T j).2.2.1 = some x → s.fieldFound? ref (T j).2.1 (T j).2.2.1 = some x) (ty0 : Nat → FieldType) (hty : ∀ k, k < Nf → parseFieldDescriptor (T k).2.2.1 = some (ty0 k)) (hnm : ∀ a, a < Nf → ∀ b, b < Nf → a ≠ b → (T a).2.1 ≠ (T b).2.1) (hfin : (T j).2.2.2 = false) {ty : FieldType} {v : Value} (hd : parseFieldDescriptor (T j).2.2.1 = some ty) (hn : narrow ty v = v) (hfit : fits ty v = true) (hl0 : j < fs.length) (f : Nat → Int32) (he : .inr (ci, fs.set j v) = ce kq f) (d : decode cc pc = .ok (.putfield index, 3))
    (kk : vv p l e R s m args below meth c D cl b N ce nL Q fin k (va_up σ kq f) (pc + 3) L rest) : vv p l e R s m args below meth c D cl b N ce nL Q fin k σ pc L (v :: .ref (b + kq) :: rest) := fun hk H locs ls hl hP hS =>
  va_putN S.1 S.2.1 S.2.2.2.2 hin ty0 hty hnm S.2.2.2.1 hK hP mm_D hS kq (by rw [mm_get hkq, hce]) hc j hj hlink hsame hfin hd hn hfit hl0 d (fun H1 locs1 hP1 _ hS1 => kk hk H1 locs1 ls hl (mm_P.put f he hP1) hS1)
theorem v_iald (S : CallFix p m c cc nL s args Ts own) {tys : List (ClassId × FieldType)} (hK : va_K D cl tys s) (kq t0 : Nat) (hkq : kq < N) {cA : ClassId} {n : Nat} (hce : ce kq (σ kq) = .inl (cA, n, .inl (σ kq))) (ht : tys[t0]? = some (cA, .int)) {i : Int32} (d : decode cc pc = .ok (.iaload, 1))
    (kk : ¬ (i < 0 ∨ n ≤ i.toNatClampNeg) → vv p l e R s m args below meth c D cl b N ce nL Q fin k σ (pc + 1) L (.int (σ kq i.toNatClampNeg) :: rest)) : vv p l e R s m args below meth c D cl b N ce nL Q fin (if (i < 0 ∨ n ≤ i.toNatClampNeg) then none else k) σ pc L (.int i :: .ref (b + kq) :: rest) := fun hk H locs ls hl hP hS => by
  by_cases h : (i < 0 ∨ n ≤ i.toNatClampNeg)
  · rw [if_pos h] at hk; cases hk
  · rw [if_neg h] at hk
    exact va_iald S.1 S.2.1 hK hP kq t0 (by rw [mm_get hkq, hce]) ht h d (kk h hk H locs ls hl hP hS)
theorem v_zald (S : CallFix p m c cc nL s args Ts own) {tys : List (ClassId × FieldType)} (hK : va_K D cl tys s) (kq t0 : Nat) (hkq : kq < N) {cA : ClassId} {n : Nat} (hce : ce kq (σ kq) = .inl (cA, n, .inl (σ kq))) (ht : tys[t0]? = some (cA, .boolean)) {i : Int32} (d : decode cc pc = .ok (.baload, 1))
    (kk : ¬ (i < 0 ∨ n ≤ i.toNatClampNeg) → vv p l e R s m args below meth c D cl b N ce nL Q fin k σ (pc + 1) L (.int (σ kq i.toNatClampNeg) :: rest)) : vv p l e R s m args below meth c D cl b N ce nL Q fin (if (i < 0 ∨ n ≤ i.toNatClampNeg) then none else k) σ pc L (.int i :: .ref (b + kq) :: rest) := fun hk H locs ls hl hP hS => by
  by_cases h : (i < 0 ∨ n ≤ i.toNatClampNeg)
  · rw [if_pos h] at hk; cases hk
  · rw [if_neg h] at hk
    exact va_zald S.1 S.2.1 hK hP kq t0 (by rw [mm_get hkq, hce]) ht h d (kk h hk H locs ls hl hP hS)
theorem v_iast (S : CallFix p m c cc nL s args Ts own) {tys : List (ClassId × FieldType)} (hK : va_K D cl tys s) (kq t0 : Nat) (hkq : kq < N) {cA : ClassId} {n : Nat} (hce : ∀ f, ce kq f = .inl (cA, n, .inl f)) (ht : tys[t0]? = some (cA, .int)) {i x : Int32} (d : decode cc pc = .ok (.iastore, 1))
    (kk : ¬ (i < 0 ∨ n ≤ i.toNatClampNeg) → vv p l e R s m args below meth c D cl b N ce nL Q fin k (va_up σ kq (upd (σ kq) i.toNatClampNeg x)) (pc + 1) L rest) : vv p l e R s m args below meth c D cl b N ce nL Q fin (if (i < 0 ∨ n ≤ i.toNatClampNeg) then none else k) σ pc L (.int x :: .int i :: .ref (b + kq) :: rest) := fun hk H locs ls hl hP hS => by
  by_cases h : (i < 0 ∨ n ≤ i.toNatClampNeg)
  · rw [if_pos h] at hk; cases hk
  · rw [if_neg h] at hk
    exact va_iast S.1 S.2.1 hK hP mm_D hS kq t0 (by rw [mm_get hkq, hce]) ht h d (fun H1 locs1 hP1 _ hS1 => kk h hk H1 locs1 ls hl (mm_P.put _ (hce _).symm hP1) hS1)
theorem v_zast (S : CallFix p m c cc nL s args Ts own) {tys : List (ClassId × FieldType)} (hK : va_K D cl tys s) (kq t0 : Nat) (hkq : kq < N) {cA : ClassId} {n : Nat} (hce : ∀ f, ce kq f = .inl (cA, n, .inl f)) (ht : tys[t0]? = some (cA, .boolean)) {i x : Int32} (d : decode cc pc = .ok (.bastore, 1))
    (kk : ¬ (i < 0 ∨ n ≤ i.toNatClampNeg) → vv p l e R s m args below meth c D cl b N ce nL Q fin k (va_up σ kq (upd (σ kq) i.toNatClampNeg (vp_nar .boolean x))) (pc + 1) L rest) : vv p l e R s m args below meth c D cl b N ce nL Q fin (if (i < 0 ∨ n ≤ i.toNatClampNeg) then none else k) σ pc L (.int x :: .int i :: .ref (b + kq) :: rest) := fun hk H locs ls hl hP hS => by
  by_cases h : (i < 0 ∨ n ≤ i.toNatClampNeg)
  · rw [if_pos h] at hk; cases hk
  · rw [if_neg h] at hk
    exact va_zast S.1 S.2.1 hK hP mm_D hS kq t0 (by rw [mm_get hkq, hce]) ht h d (fun H1 locs1 hP1 _ hS1 => kk h hk H1 locs1 ls hl (mm_P.put _ (hce _).symm hP1) hS1)
end VV1
def bd {α β : Type} (o : Option (α × mm_M)) (k : α → mm_M → Option β) : Option β := match o with
  | none => none
  | some x => k x.1 x.2
def bv {β : Type} (o : Option mm_M) (k : mm_M → Option β) : Option β := match o with
  | none => none
  | some x => k x
/-- what a method's start knows of the tables and constants: it moves with the walk -/
def kk_ok (b N : Nat) (KK : State → Prop) : Prop := (∀ u U : State, KK u → u.WarmedH U.vm → (∀ a : Nat, a < u.heap.size → ¬ mm_A b N a → U.heap[a]? = u.heap[a]?) → KK U) ∧ ∀ (U : State) (g : JFrame) (mk : MethodId) (a : Array Value), KK U → KK (U.calling g mk a)
abbrev qc_i (D : va_G) (cl : List vw_C) (b N : Nat) (ce : Nat → (Nat → Int32) → va_E) (r : Int32) (σ' : mm_M) : Array Value → State → Outcome → State → Prop := va_Qi (fun r' (u : mm_M) => r' = r ∧ u = σ') (fun u t => mm_P D cl b N ce u t.heap) (mm_A b N)
abbrev qc_v (D : va_G) (cl : List vw_C) (b N : Nat) (ce : Nat → (Nat → Int32) → va_E) (σ' : mm_M) : Array Value → State → Outcome → State → Prop := va_Qv (fun (u : mm_M) => u = σ') (fun u t => mm_P D cl b N ce u t.heap) (mm_A b N)
abbrev qc_a (D : va_G) (cl : List vw_C) (b N : Nat) (ce : Nat → (Nat → Int32) → va_E) (ra : Nat) (σ' : mm_M) : Array Value → State → Outcome → State → Prop := va_Qr (fun (u : mm_M) => u = σ') (fun u a t => a = ra ∧ mm_P D cl b N ce u t.heap) (mm_A b N)
abbrev pc_w (D : va_G) (cl : List vw_C) (b N : Nat) (ce : Nat → (Nat → Int32) → va_E) (KK : State → Prop) (av : List Value) (σ : mm_M) : Array Value → State → Prop := va_Pc av (fun U => mm_P D cl b N ce σ U.heap ∧ KK U)
/-- the contract of a method over the world: with these arguments, from σ, it answers r and leaves σ' -/
def ct_i (l : Launch) (D : va_G) (cl : List vw_C) (b N : Nat) (ce : Nat → (Nat → Int32) → va_E) (KK : State → Prop) (y : MethodName) (ws : List Cond) (rm : Room) (av : List Value) (σ : mm_M) (r : Int32) (σ' : mm_M) : Prop := Met l y ws rm (pc_w D cl b N ce KK av σ) (qc_i D cl b N ce r σ') 0 0 (mm_A b N)
def ct_v (l : Launch) (D : va_G) (cl : List vw_C) (b N : Nat) (ce : Nat → (Nat → Int32) → va_E) (KK : State → Prop) (y : MethodName) (ws : List Cond) (rm : Room) (av : List Value) (σ σ' : mm_M) : Prop := Met l y ws rm (pc_w D cl b N ce KK av σ) (qc_v D cl b N ce σ') 0 0 (mm_A b N)
def ct_a (l : Launch) (D : va_G) (cl : List vw_C) (b N : Nat) (ce : Nat → (Nat → Int32) → va_E) (KK : State → Prop) (y : MethodName) (ws : List Cond) (rm : Room) (av : List Value) (σ : mm_M) (ra : Nat) (σ' : mm_M) : Prop := Met l y ws rm (pc_w D cl b N ce KK av σ) (qc_a D cl b N ce ra σ') 0 0 (mm_A b N)
theorem lo_entry (vs : List Value) (h : ∀ v ∈ vs, v.category = 1) {n : Nat} (hn : vs.length ≤ n) : lo_ok ((vs.map Slot.val ++ List.replicate (n - vs.length) Slot.unset).toArray) n (vs.map some) := by
  have hg : ∀ (i : Nat) (z : Slot), ((vs.map Slot.val ++ List.replicate (n - vs.length) Slot.unset).toArray)[i]? = some z → (∃ v ∈ vs, z = .val v) ∨ z = .unset := by
    intro i z hz
    have hm : z ∈ vs.map Slot.val ++ List.replicate (n - vs.length) Slot.unset := by
      rw [List.getElem?_toArray] at hz
      exact List.mem_of_getElem? hz
    rcases List.mem_append.mp hm with h1 | h1
    · obtain ⟨v, hv, rfl⟩ := List.mem_map.mp h1
      exact Or.inl ⟨v, hv, rfl⟩
    · exact Or.inr (List.eq_of_mem_replicate h1)
  refine ⟨by simp; omega, ⟨fun i v hv hc => ?_, fun i hi => ?_⟩, fun i v hi => ?_⟩
  · rcases hg i _ hv with ⟨w, hw, e⟩ | e
    · cases e
      rw [h v hw] at hc
      cases hc
    · cases e
  · rcases hg i _ hi with ⟨w, hw, e⟩ | e <;> cases e
  · rw [List.getElem?_map] at hi
    cases hq : vs[i]? with
    | none => rw [hq] at hi; cases hi
    | some w =>
      rw [hq] at hi
      cases hi
      refine ⟨h _ (List.mem_of_getElem? hq), ?_⟩
      have hlt : i < (vs.map Slot.val).length := by rw [List.length_map]; exact (List.getElem?_eq_some_iff.mp hq).1
      rw [List.getElem?_toArray, List.getElem?_append_left hlt, List.getElem?_map, hq]
      rfl
section VV2
variable {l : Launch} {D : va_G} {cl : List vw_C} {b N : Nat} {ce : Nat → (Nat → Int32) → va_E} {KK : State → Prop} {y : MethodName} {ws ws' : List Cond} {rm : Room} {av : List Value} {σ σ' : mm_M} {r : Int32} {ra : Nat} {cc : ByteArray} {maxL : Nat}
theorem vv_go {Qc : Array Value → State → Outcome → State → Prop} {ret : Option FieldType} {Res : Type} {k : Option Res} {fin : Res} (hy : plainName y.cls = true) (hw : ws = Cond.code y cc maxL ret :: ws') (hav : ∀ v ∈ av, v.category = 1) (hn : av.length ≤ maxL) (hk : k = some fin)
    (body : ∀ (p : Program) (e : Env) (s : State) (m : MethodId) (below : List Frame) (meth : Method) (c : Code), meth.locks = false → meth.sig.returnType = ret → CallFix p m c cc maxL s av.toArray ws y.cls → KK s →
      vv p l e (headSpec ws rm).room s m av.toArray below meth c D cl b N ce maxL (MQ below Qc av.toArray s 0 0 (mm_A b N)) fin k σ 0 (av.map some) []) : Met l y ws rm (pc_w D cl b N ce KK av σ) Qc 0 0 (mm_A b N) := by
  refine Met.ofW (cc := cc) (maxL := maxL) (ret := ret) hy hw ?_
  intro p e s m args below meth c s₁ B hml hv
  obtain ⟨rfl, hP, hKK⟩ := hv
  rw [entry_eq m av hav maxL]
  exact body p e s m below meth c B.notSynchronized B.returns ⟨B.exec, B.bytes, hml, findClass_of_methodNamed B.named, atoms_spec (ws := ws) B.pre⟩ hKK hk s.heap [] _ (lo_entry av hav hn) hP va_S.rf
end VV2
section VV3
variable {Res : Type} {p : Program} {l : Launch} {e : Env} {R : Room} {s : State} {m : MethodId} {args : Array Value} {below : List Frame} {meth : Method} {c : Code} {D : va_G} {cl : List vw_C} {b N : Nat} {ce : Nat → (Nat → Int32) → va_E} {nL : Nat} {Q : State → Prop} {fin : Res} {k A B : Option Res} {σ σ' : mm_M} {pc : Nat} {L L2 : List (Option Value)} {rest : List Value} {cc : ByteArray} {Ts : List Cond} {own : String} {r xv : Int32} {ra : Nat}
theorem v_iret (S : CallFix p m c cc nL s args Ts own) (hr : meth.sig.returnType = some .int) (hlocks : meth.locks = false) (d : decode cc pc = .ok (.ireturn, 1)) : vv p l e R s m args below meth c D cl b N ce nL (MQ below (qc_i D cl b N ce r σ') args s 0 0 (mm_A b N)) (r, σ') (some (xv, σ)) σ pc L [.int xv] := fun hk H locs ls hl hP hS =>
  W.iret S.1 S.2.1 hr (fun t ht hW => ⟨⟨xv, σ, rfl, ⟨congrArg Prod.fst (Option.some.inj hk), congrArg Prod.snd (Option.some.inj hk)⟩, by show mm_P D cl b N ce σ t.heap; rw [ht]; exact hP⟩, hS.F ht⟩) hS.2.2 d hlocks
theorem v_zret (S : CallFix p m c cc nL s args Ts own) (hr : meth.sig.returnType = some .boolean) (hlocks : meth.locks = false) (d : decode cc pc = .ok (.ireturn, 1)) : vv p l e R s m args below meth c D cl b N ce nL (MQ below (qc_i D cl b N ce r σ') args s 0 0 (mm_A b N)) (r, σ') (if xv = 0 ∨ xv = 1 then some (xv, σ) else none) σ pc L [.int xv] := fun hk H locs ls hl hP hS => by
  by_cases h : xv = 0 ∨ xv = 1
  · rw [if_pos h] at hk
    exact W.zret S.1 S.2.1 hr (by rcases h with rfl | rfl <;> rfl) (fun t ht hW => ⟨⟨xv, σ, rfl, ⟨congrArg Prod.fst (Option.some.inj hk), congrArg Prod.snd (Option.some.inj hk)⟩, by show mm_P D cl b N ce σ t.heap; rw [ht]; exact hP⟩, hS.F ht⟩) hS.2.2 d hlocks
  · rw [if_neg h] at hk
    cases hk
theorem v_vret (S : CallFix p m c cc nL s args Ts own) (hr : meth.sig.returnType = none) (hlocks : meth.locks = false) (d : decode cc pc = .ok (.return_, 1)) : vv p l e R s m args below meth c D cl b N ce nL (MQ below (qc_v D cl b N ce σ') args s 0 0 (mm_A b N)) σ' (some σ) σ pc L [] := fun hk H locs ls hl hP hS =>
  W.vret S.1 S.2.1 hr (fun t ht hW => ⟨⟨σ, rfl, Option.some.inj hk, by show mm_P D cl b N ce σ t.heap; rw [ht]; exact hP⟩, hS.F ht⟩) hS.2.2 d hlocks
theorem v_aret {nm : String} {ri : Nat} (ad : Nat → Nat) (S : CallFix p m c cc nL s args Ts own) (hr : meth.sig.returnType = some (.object nm)) (hlocks : meth.locks = false) {i : Nat} (d : decode cc pc = .ok (.areturn, 1)) : vv p l e R s m args below meth c D cl b N ce nL (MQ below (qc_a D cl b N ce (ad ri) σ') args s 0 0 (mm_A b N)) (ri, σ') (some (i, σ)) σ pc L [.ref (ad i)] := fun hk H locs ls hl hP hS =>
  W.aret S.1 S.2.1 hr (Or.inl ⟨nm, rfl⟩) (Or.inr ⟨_, rfl⟩) (fun t ht hW => ⟨⟨σ, ad i, rfl, congrArg Prod.snd (Option.some.inj hk), congrArg (fun z => ad z.1) (Option.some.inj hk), by show mm_P D cl b N ce σ t.heap; rw [ht]; exact hP⟩, hS.F ht⟩) hS.2.2 d hlocks
theorem v_ci {g : Option (Int32 × mm_M)} {kf : Int32 → mm_M → Option Res} {st0 : List Value} {av : Array Value}
    (hr : ∀ (r1 : Int32) (σ1 : mm_M), g = some (r1, σ1) → ∀ (H : Heap) (locs : List Loc) (ls : Array Slot), ls.size = nL → mm_P D cl b N ce σ H → va_S (mm_A b N) s.heap H locs → va_Run p l e R s m args below meth c H locs 0 0 0 0 (F0 m pc ls st0) rest (qc_i D cl b N ce r1 σ1 av) (mm_A b N))
    (kk : ∀ (r1 : Int32) (σ1 : mm_M), g = some (r1, σ1) → vv p l e R s m args below meth c D cl b N ce nL Q fin (kf r1 σ1) σ1 (pc + 3) L (.int r1 :: rest)) : vv p l e R s m args below meth c D cl b N ce nL Q fin (bd g kf) σ pc L st0 := by
  intro hk H locs ls hl hP hS
  cases hg : g with
  | none => rw [hg] at hk; cases hk
  | some z =>
    obtain ⟨r1, σ1⟩ := z
    rw [hg] at hk
    refine va_calli (hr r1 σ1 hg H locs ls hl.1 hP hS) hS (fun q _ h => h) (fun q h => h) (fun r u t H1 locs1 ht hvm hp hB hz hk1 hS1 => ?_)
    obtain ⟨rfl, rfl⟩ := hp
    exact kk r u hg hk H1 locs1 ls hl (by rw [← ht]; exact hB) hS1
theorem v_cv {g : Option mm_M} {kf : mm_M → Option Res} {st0 : List Value} {av : Array Value}
    (hr : ∀ (σ1 : mm_M), g = some σ1 → ∀ (H : Heap) (locs : List Loc) (ls : Array Slot), ls.size = nL → mm_P D cl b N ce σ H → va_S (mm_A b N) s.heap H locs → va_Run p l e R s m args below meth c H locs 0 0 0 0 (F0 m pc ls st0) rest (qc_v D cl b N ce σ1 av) (mm_A b N))
    (kk : ∀ (σ1 : mm_M), g = some σ1 → vv p l e R s m args below meth c D cl b N ce nL Q fin (kf σ1) σ1 (pc + 3) L rest) : vv p l e R s m args below meth c D cl b N ce nL Q fin (bv g kf) σ pc L st0 := by
  intro hk H locs ls hl hP hS
  cases hg : g with
  | none => rw [hg] at hk; cases hk
  | some σ1 =>
    rw [hg] at hk
    refine va_callv (hr σ1 hg H locs ls hl.1 hP hS) hS (fun q _ h => h) (fun q h => h) (fun u t H1 locs1 ht hvm hp hB hz hk1 hS1 => ?_)
    obtain rfl := hp
    exact kk u hg hk H1 locs1 ls hl (by rw [← ht]; exact hB) hS1
theorem v_ca {g : Option (Nat × mm_M)} {kf : Nat → mm_M → Option Res} {st0 : List Value} {av : Array Value} (ad : Nat → Nat)
    (hr : ∀ (r1 : Nat) (σ1 : mm_M), g = some (r1, σ1) → ∀ (H : Heap) (locs : List Loc) (ls : Array Slot), ls.size = nL → mm_P D cl b N ce σ H → va_S (mm_A b N) s.heap H locs → va_Run p l e R s m args below meth c H locs 0 0 0 0 (F0 m pc ls st0) rest (qc_a D cl b N ce (ad r1) σ1 av) (mm_A b N))
    (kk : ∀ (r1 : Nat) (σ1 : mm_M), g = some (r1, σ1) → vv p l e R s m args below meth c D cl b N ce nL Q fin (kf r1 σ1) σ1 (pc + 3) L (.ref (ad r1) :: rest)) : vv p l e R s m args below meth c D cl b N ce nL Q fin (bd g kf) σ pc L st0 := by
  intro hk H locs ls hl hP hS
  cases hg : g with
  | none => rw [hg] at hk; cases hk
  | some z =>
    obtain ⟨r1, σ1⟩ := z
    rw [hg] at hk
    refine va_callr (hr r1 σ1 hg H locs ls hl.1 hP hS) hS (fun q _ h => h) (fun q h => h) (fun u ra t H1 locs1 ht hvm hp hB hz hk1 hS1 => ?_)
    obtain rfl := hp
    obtain ⟨rfl, hB⟩ := hB
    exact kk r1 u hg hk H1 locs1 ls hl (by rw [← ht]; exact hB) hS1
end VV3
section VV4
variable {p : Program} {l : Launch} {e : Env} {R : Room} {s : State} {m : MethodId} {args : Array Value} {below : List Frame} {meth : Method} {c : Code} {D : va_G} {cl : List vw_C} {b N : Nat} {ce : Nat → (Nat → Int32) → va_E} {nL : Nat} {KK : State → Prop} {σ : mm_M} {pc : Nat} {rest : List Value} {cc : ByteArray} {Ts : List Cond} {own C host : String} {H : Heap} {locs : List Loc} {ls : Array Slot} {y : MethodName} {bytes : ByteArray} {maxL n index : Nat} {ret : Option FieldType} {ws : List Cond} {rm : Room} {As st0 : List Value} {Qc : Array Value → State → Outcome → State → Prop}
theorem pw_pre {av : List Value} (hkk : kk_ok b N KK) (hK : KK s) (hP : mm_P D cl b N ce σ H) (hS : va_S (mm_A b N) s.heap H locs) : FrameBlind (pc_w D cl b N ce KK av σ) ∧ ∀ U : State, U.heap = H → s.WarmedH U.vm → pc_w D cl b N ce KK av σ av.toArray U := by
  refine ⟨fun a U g mk q => ⟨q.1, q.2.1, hkk.2 U g mk a q.2.2⟩, fun U hU hW => ⟨rfl, by rw [hU]; exact hP, hkk.1 s U hK hW (fun a h1 h2 => by rw [hU]; exact hS.2.1 a h1 h2)⟩⟩
theorem run_S (S : CallFix p m c cc nL s args Ts own) (hkk : kk_ok b N KK) (hK : KK s) (hM : Met l y ws rm (pc_w D cl b N ce KK As σ) Qc 0 0 (mm_A b N)) (cw : CallB R s args own index y bytes maxL ret ws rm 0 0 n ∧ (Cond.static y).before args s = true) (hn : As.length = n) (hst : st0 = As.reverse ++ rest) (hw : (rest.map fun v => v.category).sum ≤ 8) (d : decode cc pc = .ok (.invokestatic index, 3)) (hsz : ls.size = nL) (hP : mm_P D cl b N ce σ H) (hS : va_S (mm_A b N) s.heap H locs) :
    va_Run p l e R s m args below meth c H locs 0 0 0 0 (F0 m pc ls st0) rest (Qc As.toArray) (mm_A b N) := va_runS S hM cw (pw_pre hkk hK hP hS) rfl hn hsz hst (lv_room hw) d ⟨Nat.zero_le _, Nat.zero_le _⟩
theorem run_SN (S : CallFix p m c cc nL s args Ts own) (hkk : kk_ok b N KK) (hK : KK s) (hM : Met l y ws rm (pc_w D cl b N ce KK As σ) Qc 0 0 (mm_A b N)) (cw : va_CN R s args own index y host bytes maxL ret ws rm 0 0 n ∧ (Cond.static y).before args s = true ∧ True) (hn : As.length = n) (hst : st0 = As.reverse ++ rest) (hw : (rest.map fun v => v.category).sum ≤ 8) (d : decode cc pc = .ok (.invokestatic index, 3)) (hsz : ls.size = nL) (hP : mm_P D cl b N ce σ H) (hS : va_S (mm_A b N) s.heap H locs) :
    va_Run p l e R s m args below meth c H locs 0 0 0 0 (F0 m pc ls st0) rest (Qc As.toArray) (mm_A b N) := va_runSN S hM cw (pw_pre hkk hK hP hS) rfl hn hsz hst (lv_room hw) d ⟨Nat.zero_le _, Nat.zero_le _⟩
theorem run_V {a : Nat} (S : CallFix p m c cc nL s args Ts own) (hkk : kk_ok b N KK) (hK : KK s) (hM : Met l y ws rm (pc_w D cl b N ce KK (.ref a :: As) σ) Qc 0 0 (mm_A b N)) (cw : CallW R s args own C index y bytes maxL ret ws rm 0 0 n) (hrc : ∃ cellB : Cell, H[a]? = some cellB ∧ cellB.vm.isStatics = false ∧ s.vm.findClass C = some cellB.cls) (hn : As.length = n) (hst : st0 = As.reverse ++ .ref a :: rest) (hw : (rest.map fun v => v.category).sum ≤ 8) (d : decode cc pc = .ok (.invokevirtual index, 3)) (hsz : ls.size = nL) (hP : mm_P D cl b N ce σ H) (hS : va_S (mm_A b N) s.heap H locs) :
    va_Run p l e R s m args below meth c H locs 0 0 0 0 (F0 m pc ls st0) rest (Qc (Value.ref a :: As).toArray) (mm_A b N) := va_runV S hM cw ⟨(pw_pre (av := .ref a :: As) hkk hK hP hS).1, hrc, (pw_pre (av := .ref a :: As) hkk hK hP hS).2⟩ rfl hn hsz hst (lv_room hw) d ⟨Nat.zero_le _, Nat.zero_le _⟩
theorem run_VN {a : Nat} (S : CallFix p m c cc nL s args Ts own) (hkk : kk_ok b N KK) (hK : KK s) (hM : Met l y ws rm (pc_w D cl b N ce KK (.ref a :: As) σ) Qc 0 0 (mm_A b N)) (cw : va_CN R s args own index y host bytes maxL ret ws rm 0 0 n ∧ (Cond.instanceMethod y).before args s = true ∧ (Cond.selects C y y).before args s = true) (hrc : ∃ cellB : Cell, H[a]? = some cellB ∧ cellB.vm.isStatics = false ∧ s.vm.findClass C = some cellB.cls) (hn : As.length = n) (hst : st0 = As.reverse ++ .ref a :: rest) (hw : (rest.map fun v => v.category).sum ≤ 8) (d : decode cc pc = .ok (.invokevirtual index, 3)) (hsz : ls.size = nL) (hP : mm_P D cl b N ce σ H) (hS : va_S (mm_A b N) s.heap H locs) :
    va_Run p l e R s m args below meth c H locs 0 0 0 0 (F0 m pc ls st0) rest (Qc (Value.ref a :: As).toArray) (mm_A b N) := va_runVN S hM cw ⟨(pw_pre (av := .ref a :: As) hkk hK hP hS).1, hrc, (pw_pre (av := .ref a :: As) hkk hK hP hS).2⟩ rfl hn hsz hst (lv_room hw) d ⟨Nat.zero_le _, Nat.zero_le _⟩
theorem rc_w {tys : List (ClassId × FieldType)} (hK : va_K D cl tys s) (hP : mm_P D cl b N ce σ H) (kq : Nat) (hkq : kq < N) {ci : Nat} {fs : List Value} {q : vw_C} (hce : ce kq (σ kq) = .inr (ci, fs)) (hc : cl[ci]? = some q) : ∃ cellB : Cell, H[b + kq]? = some cellB ∧ cellB.vm.isStatics = false ∧ s.vm.findClass q.1 = some cellB.cls := by
  obtain ⟨r, h1, cell, q1, q2, q3, q4⟩ := hP kq (b + kq, .inr (ci, fs)) (by rw [mm_get hkq, hce])
  obtain ⟨hS, hfc, -⟩ := hK.1 ci _ hc
  exact ⟨cell, q1, by rw [q3]; rfl, by rw [q2]; exact hfc⟩
end VV4
end

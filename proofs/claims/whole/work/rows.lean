section
-- ===== PART A: goes FIRST, ahead of the names: the tables' words, and 'selects' of the private methods out of them =====
/-- a private method of a class that the tables say can be made, by its rows of tables_1 -/
def lw_okq (q : MethodName × Nat) : Prop := (q.1.cls ≠ "java/lang/invoke/MethodHandle" ∧ q.1.cls ≠ "java/lang/invoke/VarHandle") ∧ Cond.instantiable q.1.cls q.2 ∈ tables_1 ∧ Cond.privateMethod q.1 ∈ tables_1 ∧ Cond.instanceMethod q.1 ∈ tables_1
theorem lw_p0 : lw_okq (⟨"FrameVerifier", "forgetVerification", "()V"⟩, 4) := ⟨⟨by decide +kernel, by decide +kernel⟩, List.mem_of_getElem? (i := 27) (by decide +kernel), List.mem_of_getElem? (i := 161) (by decide +kernel), List.mem_of_getElem? (i := 162) (by decide +kernel)⟩
theorem lw_p1 : lw_okq (⟨"FrameVerifier$Flow", "clear", "(I)V"⟩, 5) := ⟨⟨by decide +kernel, by decide +kernel⟩, List.mem_of_getElem? (i := 67) (by decide +kernel), List.mem_of_getElem? (i := 185) (by decide +kernel), List.mem_of_getElem? (i := 186) (by decide +kernel)⟩
theorem lw_p2 : lw_okq (⟨"FrameVerifier$Code", "kindOf", "(II)I"⟩, 7) := ⟨⟨by decide +kernel, by decide +kernel⟩, List.mem_of_getElem? (i := 35) (by decide +kernel), List.mem_of_getElem? (i := 201) (by decide +kernel), List.mem_of_getElem? (i := 202) (by decide +kernel)⟩
theorem lw_p3 : lw_okq (⟨"FrameVerifier$Flow", "meet", "(III)V"⟩, 5) := ⟨⟨by decide +kernel, by decide +kernel⟩, List.mem_of_getElem? (i := 67) (by decide +kernel), List.mem_of_getElem? (i := 208) (by decide +kernel), List.mem_of_getElem? (i := 209) (by decide +kernel)⟩
theorem lw_p4 : lw_okq (⟨"FrameVerifier$Flow", "takeLeastWaiting", "()I"⟩, 5) := ⟨⟨by decide +kernel, by decide +kernel⟩, List.mem_of_getElem? (i := 67) (by decide +kernel), List.mem_of_getElem? (i := 225) (by decide +kernel), List.mem_of_getElem? (i := 226) (by decide +kernel)⟩
theorem lw_p5 : lw_okq (⟨"FrameVerifier$Flow", "goOn", "(II)V"⟩, 5) := ⟨⟨by decide +kernel, by decide +kernel⟩, List.mem_of_getElem? (i := 67) (by decide +kernel), List.mem_of_getElem? (i := 229) (by decide +kernel), List.mem_of_getElem? (i := 230) (by decide +kernel)⟩
theorem lw_p6 : lw_okq (⟨"FrameVerifier$Code", "hasOp", "(I)Z"⟩, 7) := ⟨⟨by decide +kernel, by decide +kernel⟩, List.mem_of_getElem? (i := 35) (by decide +kernel), List.mem_of_getElem? (i := 237) (by decide +kernel), List.mem_of_getElem? (i := 238) (by decide +kernel)⟩
theorem lw_p7 : lw_okq (⟨"FrameVerifier$Code", "numberFits", "(LFrameVerifier$Op;II)Z"⟩, 7) := ⟨⟨by decide +kernel, by decide +kernel⟩, List.mem_of_getElem? (i := 35) (by decide +kernel), List.mem_of_getElem? (i := 248) (by decide +kernel), List.mem_of_getElem? (i := 249) (by decide +kernel)⟩
theorem lw_p8 : lw_okq (⟨"FrameVerifier$Code", "takenFits", "(ILFrameVerifier$Op;II)Z"⟩, 7) := ⟨⟨by decide +kernel, by decide +kernel⟩, List.mem_of_getElem? (i := 35) (by decide +kernel), List.mem_of_getElem? (i := 275) (by decide +kernel), List.mem_of_getElem? (i := 276) (by decide +kernel)⟩
theorem lw_p9 : lw_okq (⟨"FrameVerifier$Code", "takenCount", "(LFrameVerifier$Op;I)I"⟩, 7) := ⟨⟨by decide +kernel, by decide +kernel⟩, List.mem_of_getElem? (i := 35) (by decide +kernel), List.mem_of_getElem? (i := 279) (by decide +kernel), List.mem_of_getElem? (i := 280) (by decide +kernel)⟩
theorem lw_p10 : lw_okq (⟨"FrameVerifier$Code", "wantedBelow", "(ILFrameVerifier$Op;II)I"⟩, 7) := ⟨⟨by decide +kernel, by decide +kernel⟩, List.mem_of_getElem? (i := 35) (by decide +kernel), List.mem_of_getElem? (i := 296) (by decide +kernel), List.mem_of_getElem? (i := 297) (by decide +kernel)⟩
theorem lw_p11 : lw_okq (⟨"FrameVerifier$Machine", "openFrame", "(I)LFrameVerifier$Frame;"⟩, 6) := ⟨⟨by decide +kernel, by decide +kernel⟩, List.mem_of_getElem? (i := 91) (by decide +kernel), List.mem_of_getElem? (i := 393) (by decide +kernel), List.mem_of_getElem? (i := 394) (by decide +kernel)⟩
theorem lw_p12 : lw_okq (⟨"FrameVerifier", "aboutTopFrame", "(I)I"⟩, 4) := ⟨⟨by decide +kernel, by decide +kernel⟩, List.mem_of_getElem? (i := 27) (by decide +kernel), List.mem_of_getElem? (i := 419) (by decide +kernel), List.mem_of_getElem? (i := 420) (by decide +kernel)⟩
theorem lw_p13 : lw_okq (⟨"java/lang/Throwable", "fillInStackTrace", "(I)Ljava/lang/Throwable;"⟩, 6) := ⟨⟨by decide +kernel, by decide +kernel⟩, List.mem_of_getElem? (i := 487) (by decide +kernel), List.mem_of_getElem? (i := 485) (by decide +kernel), List.mem_of_getElem? (i := 486) (by decide +kernel)⟩
theorem lw_p14 : lw_okq (⟨"FrameVerifier$Machine", "trapOf", "(LFrameVerifier$Frame;)LFrameVerifier$Trap;"⟩, 6) := ⟨⟨by decide +kernel, by decide +kernel⟩, List.mem_of_getElem? (i := 91) (by decide +kernel), List.mem_of_getElem? (i := 532) (by decide +kernel), List.mem_of_getElem? (i := 533) (by decide +kernel)⟩
theorem lw_p15 : lw_okq (⟨"FrameVerifier$Machine", "canMake", "(I)Z"⟩, 6) := ⟨⟨by decide +kernel, by decide +kernel⟩, List.mem_of_getElem? (i := 91) (by decide +kernel), List.mem_of_getElem? (i := 561) (by decide +kernel), List.mem_of_getElem? (i := 562) (by decide +kernel)⟩
def lw_privs_1 : List (MethodName × Nat) := [(⟨"FrameVerifier", "forgetVerification", "()V"⟩, 4), (⟨"FrameVerifier$Flow", "clear", "(I)V"⟩, 5), (⟨"FrameVerifier$Code", "kindOf", "(II)I"⟩, 7), (⟨"FrameVerifier$Flow", "meet", "(III)V"⟩, 5), (⟨"FrameVerifier$Flow", "takeLeastWaiting", "()I"⟩, 5), (⟨"FrameVerifier$Flow", "goOn", "(II)V"⟩, 5), (⟨"FrameVerifier$Code", "hasOp", "(I)Z"⟩, 7), (⟨"FrameVerifier$Code", "numberFits", "(LFrameVerifier$Op;II)Z"⟩, 7), (⟨"FrameVerifier$Code", "takenFits", "(ILFrameVerifier$Op;II)Z"⟩, 7), (⟨"FrameVerifier$Code", "takenCount", "(LFrameVerifier$Op;I)I"⟩, 7), (⟨"FrameVerifier$Code", "wantedBelow", "(ILFrameVerifier$Op;II)I"⟩, 7), (⟨"FrameVerifier$Machine", "openFrame", "(I)LFrameVerifier$Frame;"⟩, 6), (⟨"FrameVerifier", "aboutTopFrame", "(I)I"⟩, 4), (⟨"java/lang/Throwable", "fillInStackTrace", "(I)Ljava/lang/Throwable;"⟩, 6), (⟨"FrameVerifier$Machine", "trapOf", "(LFrameVerifier$Frame;)LFrameVerifier$Trap;"⟩, 6), (⟨"FrameVerifier$Machine", "canMake", "(I)Z"⟩, 6)]
theorem lw_r1 : ∀ q ∈ lw_privs_1, lw_okq q := List.forall_mem_cons.mpr ⟨lw_p0, List.forall_mem_cons.mpr ⟨lw_p1, List.forall_mem_cons.mpr ⟨lw_p2, List.forall_mem_cons.mpr ⟨lw_p3, List.forall_mem_cons.mpr ⟨lw_p4, List.forall_mem_cons.mpr ⟨lw_p5, List.forall_mem_cons.mpr ⟨lw_p6, List.forall_mem_cons.mpr ⟨lw_p7, List.forall_mem_cons.mpr ⟨lw_p8, List.forall_mem_cons.mpr ⟨lw_p9, List.forall_mem_cons.mpr ⟨lw_p10, List.forall_mem_cons.mpr ⟨lw_p11, List.forall_mem_cons.mpr ⟨lw_p12, List.forall_mem_cons.mpr ⟨lw_p13, List.forall_mem_cons.mpr ⟨lw_p14, List.forall_mem_cons.mpr ⟨lw_p15, fun _ h => absurd h List.not_mem_nil⟩⟩⟩⟩⟩⟩⟩⟩⟩⟩⟩⟩⟩⟩⟩⟩
theorem lw_p16 : lw_okq (⟨"FrameVerifier$Machine", "act", "(LFrameVerifier$Frame;LFrameVerifier$Op;I)V"⟩, 6) := ⟨⟨by decide +kernel, by decide +kernel⟩, List.mem_of_getElem? (i := 91) (by decide +kernel), List.mem_of_getElem? (i := 649) (by decide +kernel), List.mem_of_getElem? (i := 650) (by decide +kernel)⟩
theorem lw_p17 : lw_okq (⟨"FrameVerifier$Machine", "useArray", "(LFrameVerifier$Frame;LFrameVerifier$Op;)V"⟩, 6) := ⟨⟨by decide +kernel, by decide +kernel⟩, List.mem_of_getElem? (i := 91) (by decide +kernel), List.mem_of_getElem? (i := 664) (by decide +kernel), List.mem_of_getElem? (i := 665) (by decide +kernel)⟩
theorem lw_p18 : lw_okq (⟨"FrameVerifier$Machine", "makeArray", "(I)I"⟩, 6) := ⟨⟨by decide +kernel, by decide +kernel⟩, List.mem_of_getElem? (i := 91) (by decide +kernel), List.mem_of_getElem? (i := 668) (by decide +kernel), List.mem_of_getElem? (i := 669) (by decide +kernel)⟩
theorem lw_p19 : lw_okq (⟨"FrameVerifier$Machine", "enter", "(LFrameVerifier$Frame;I)V"⟩, 6) := ⟨⟨by decide +kernel, by decide +kernel⟩, List.mem_of_getElem? (i := 91) (by decide +kernel), List.mem_of_getElem? (i := 675) (by decide +kernel), List.mem_of_getElem? (i := 676) (by decide +kernel)⟩
theorem lw_p20 : lw_okq (⟨"FrameVerifier$Machine", "leave", "(LFrameVerifier$Frame;)V"⟩, 6) := ⟨⟨by decide +kernel, by decide +kernel⟩, List.mem_of_getElem? (i := 91) (by decide +kernel), List.mem_of_getElem? (i := 683) (by decide +kernel), List.mem_of_getElem? (i := 684) (by decide +kernel)⟩
theorem lw_p21 : lw_okq (⟨"FrameVerifierModel", "work", "(I)I"⟩, 27) := ⟨⟨by decide +kernel, by decide +kernel⟩, List.mem_of_getElem? (i := 736) (by decide +kernel), List.mem_of_getElem? (i := 840) (by decide +kernel), List.mem_of_getElem? (i := 841) (by decide +kernel)⟩
theorem lw_p22 : lw_okq (⟨"FrameVerifierModel", "isAddress", "(I)Z"⟩, 27) := ⟨⟨by decide +kernel, by decide +kernel⟩, List.mem_of_getElem? (i := 736) (by decide +kernel), List.mem_of_getElem? (i := 844) (by decide +kernel), List.mem_of_getElem? (i := 845) (by decide +kernel)⟩
theorem lw_p23 : lw_okq (⟨"FrameVerifierModel", "kindOf", "(II)I"⟩, 27) := ⟨⟨by decide +kernel, by decide +kernel⟩, List.mem_of_getElem? (i := 736) (by decide +kernel), List.mem_of_getElem? (i := 848) (by decide +kernel), List.mem_of_getElem? (i := 849) (by decide +kernel)⟩
theorem lw_p24 : lw_okq (⟨"FrameVerifierModel", "meet", "(II)V"⟩, 27) := ⟨⟨by decide +kernel, by decide +kernel⟩, List.mem_of_getElem? (i := 736) (by decide +kernel), List.mem_of_getElem? (i := 852) (by decide +kernel), List.mem_of_getElem? (i := 853) (by decide +kernel)⟩
theorem lw_p25 : lw_okq (⟨"FrameVerifierModel", "fits", "(II)Z"⟩, 27) := ⟨⟨by decide +kernel, by decide +kernel⟩, List.mem_of_getElem? (i := 736) (by decide +kernel), List.mem_of_getElem? (i := 856) (by decide +kernel), List.mem_of_getElem? (i := 857) (by decide +kernel)⟩
theorem lw_p26 : lw_okq (⟨"FrameVerifierModel", "tryOut", "(II)V"⟩, 27) := ⟨⟨by decide +kernel, by decide +kernel⟩, List.mem_of_getElem? (i := 736) (by decide +kernel), List.mem_of_getElem? (i := 860) (by decide +kernel), List.mem_of_getElem? (i := 861) (by decide +kernel)⟩
theorem lw_p27 : lw_okq (⟨"FrameVerifierModel", "take", "(I)I"⟩, 27) := ⟨⟨by decide +kernel, by decide +kernel⟩, List.mem_of_getElem? (i := 736) (by decide +kernel), List.mem_of_getElem? (i := 864) (by decide +kernel), List.mem_of_getElem? (i := 865) (by decide +kernel)⟩
theorem lw_p28 : lw_okq (⟨"FrameVerifierModel", "give", "(I)V"⟩, 27) := ⟨⟨by decide +kernel, by decide +kernel⟩, List.mem_of_getElem? (i := 736) (by decide +kernel), List.mem_of_getElem? (i := 868) (by decide +kernel), List.mem_of_getElem? (i := 869) (by decide +kernel)⟩
theorem lw_p29 : lw_okq (⟨"FrameVerifierModel", "tryLocal", "(II)V"⟩, 27) := ⟨⟨by decide +kernel, by decide +kernel⟩, List.mem_of_getElem? (i := 736) (by decide +kernel), List.mem_of_getElem? (i := 872) (by decide +kernel), List.mem_of_getElem? (i := 873) (by decide +kernel)⟩
theorem lw_p30 : lw_okq (⟨"FrameVerifierModel", "tryGo", "(II)V"⟩, 27) := ⟨⟨by decide +kernel, by decide +kernel⟩, List.mem_of_getElem? (i := 736) (by decide +kernel), List.mem_of_getElem? (i := 876) (by decide +kernel), List.mem_of_getElem? (i := 877) (by decide +kernel)⟩
theorem lw_p31 : lw_okq (⟨"FrameVerifierModel", "goTo", "(I)V"⟩, 27) := ⟨⟨by decide +kernel, by decide +kernel⟩, List.mem_of_getElem? (i := 736) (by decide +kernel), List.mem_of_getElem? (i := 880) (by decide +kernel), List.mem_of_getElem? (i := 881) (by decide +kernel)⟩
def lw_privs_2 : List (MethodName × Nat) := [(⟨"FrameVerifier$Machine", "act", "(LFrameVerifier$Frame;LFrameVerifier$Op;I)V"⟩, 6), (⟨"FrameVerifier$Machine", "useArray", "(LFrameVerifier$Frame;LFrameVerifier$Op;)V"⟩, 6), (⟨"FrameVerifier$Machine", "makeArray", "(I)I"⟩, 6), (⟨"FrameVerifier$Machine", "enter", "(LFrameVerifier$Frame;I)V"⟩, 6), (⟨"FrameVerifier$Machine", "leave", "(LFrameVerifier$Frame;)V"⟩, 6), (⟨"FrameVerifierModel", "work", "(I)I"⟩, 27), (⟨"FrameVerifierModel", "isAddress", "(I)Z"⟩, 27), (⟨"FrameVerifierModel", "kindOf", "(II)I"⟩, 27), (⟨"FrameVerifierModel", "meet", "(II)V"⟩, 27), (⟨"FrameVerifierModel", "fits", "(II)Z"⟩, 27), (⟨"FrameVerifierModel", "tryOut", "(II)V"⟩, 27), (⟨"FrameVerifierModel", "take", "(I)I"⟩, 27), (⟨"FrameVerifierModel", "give", "(I)V"⟩, 27), (⟨"FrameVerifierModel", "tryLocal", "(II)V"⟩, 27), (⟨"FrameVerifierModel", "tryGo", "(II)V"⟩, 27), (⟨"FrameVerifierModel", "goTo", "(I)V"⟩, 27)]
theorem lw_r2 : ∀ q ∈ lw_privs_2, lw_okq q := List.forall_mem_cons.mpr ⟨lw_p16, List.forall_mem_cons.mpr ⟨lw_p17, List.forall_mem_cons.mpr ⟨lw_p18, List.forall_mem_cons.mpr ⟨lw_p19, List.forall_mem_cons.mpr ⟨lw_p20, List.forall_mem_cons.mpr ⟨lw_p21, List.forall_mem_cons.mpr ⟨lw_p22, List.forall_mem_cons.mpr ⟨lw_p23, List.forall_mem_cons.mpr ⟨lw_p24, List.forall_mem_cons.mpr ⟨lw_p25, List.forall_mem_cons.mpr ⟨lw_p26, List.forall_mem_cons.mpr ⟨lw_p27, List.forall_mem_cons.mpr ⟨lw_p28, List.forall_mem_cons.mpr ⟨lw_p29, List.forall_mem_cons.mpr ⟨lw_p30, List.forall_mem_cons.mpr ⟨lw_p31, fun _ h => absurd h List.not_mem_nil⟩⟩⟩⟩⟩⟩⟩⟩⟩⟩⟩⟩⟩⟩⟩⟩
theorem lw_p32 : lw_okq (⟨"FrameVerifierModel", "tryArray", "(I)V"⟩, 27) := ⟨⟨by decide +kernel, by decide +kernel⟩, List.mem_of_getElem? (i := 736) (by decide +kernel), List.mem_of_getElem? (i := 884) (by decide +kernel), List.mem_of_getElem? (i := 885) (by decide +kernel)⟩
theorem lw_p33 : lw_okq (⟨"FrameVerifierModel", "tryPlaces", "(I)V"⟩, 27) := ⟨⟨by decide +kernel, by decide +kernel⟩, List.mem_of_getElem? (i := 736) (by decide +kernel), List.mem_of_getElem? (i := 888) (by decide +kernel), List.mem_of_getElem? (i := 889) (by decide +kernel)⟩
theorem lw_p34 : lw_okq (⟨"FrameVerifierModel", "tryCall", "(I)V"⟩, 27) := ⟨⟨by decide +kernel, by decide +kernel⟩, List.mem_of_getElem? (i := 736) (by decide +kernel), List.mem_of_getElem? (i := 892) (by decide +kernel), List.mem_of_getElem? (i := 893) (by decide +kernel)⟩
theorem lw_p35 : lw_okq (⟨"FrameVerifierModel", "enter", "(I)V"⟩, 27) := ⟨⟨by decide +kernel, by decide +kernel⟩, List.mem_of_getElem? (i := 736) (by decide +kernel), List.mem_of_getElem? (i := 908) (by decide +kernel), List.mem_of_getElem? (i := 909) (by decide +kernel)⟩
theorem lw_p36 : lw_okq (⟨"FrameVerifierModel", "stepOnce", "()Z"⟩, 27) := ⟨⟨by decide +kernel, by decide +kernel⟩, List.mem_of_getElem? (i := 736) (by decide +kernel), List.mem_of_getElem? (i := 916) (by decide +kernel), List.mem_of_getElem? (i := 917) (by decide +kernel)⟩
theorem lw_p37 : lw_okq (⟨"FrameVerifierModel", "fitsValues", "(I)Z"⟩, 27) := ⟨⟨by decide +kernel, by decide +kernel⟩, List.mem_of_getElem? (i := 736) (by decide +kernel), List.mem_of_getElem? (i := 920) (by decide +kernel), List.mem_of_getElem? (i := 921) (by decide +kernel)⟩
theorem lw_p38 : lw_okq (⟨"FrameVerifierModel", "trapOf", "(II)I"⟩, 27) := ⟨⟨by decide +kernel, by decide +kernel⟩, List.mem_of_getElem? (i := 736) (by decide +kernel), List.mem_of_getElem? (i := 924) (by decide +kernel), List.mem_of_getElem? (i := 925) (by decide +kernel)⟩
theorem lw_p39 : lw_okq (⟨"FrameVerifierModel", "below", "(I)I"⟩, 27) := ⟨⟨by decide +kernel, by decide +kernel⟩, List.mem_of_getElem? (i := 736) (by decide +kernel), List.mem_of_getElem? (i := 928) (by decide +kernel), List.mem_of_getElem? (i := 929) (by decide +kernel)⟩
theorem lw_p40 : lw_okq (⟨"FrameVerifierModel", "perform", "(I)V"⟩, 27) := ⟨⟨by decide +kernel, by decide +kernel⟩, List.mem_of_getElem? (i := 736) (by decide +kernel), List.mem_of_getElem? (i := 938) (by decide +kernel), List.mem_of_getElem? (i := 939) (by decide +kernel)⟩
theorem lw_p41 : lw_okq (⟨"FrameVerifierModel", "put", "(II)V"⟩, 27) := ⟨⟨by decide +kernel, by decide +kernel⟩, List.mem_of_getElem? (i := 736) (by decide +kernel), List.mem_of_getElem? (i := 942) (by decide +kernel), List.mem_of_getElem? (i := 943) (by decide +kernel)⟩
theorem lw_p42 : lw_okq (⟨"FrameVerifierModel", "calculate", "(I)V"⟩, 27) := ⟨⟨by decide +kernel, by decide +kernel⟩, List.mem_of_getElem? (i := 736) (by decide +kernel), List.mem_of_getElem? (i := 946) (by decide +kernel), List.mem_of_getElem? (i := 947) (by decide +kernel)⟩
theorem lw_p43 : lw_okq (⟨"FrameVerifierModel", "drop", "(I)V"⟩, 27) := ⟨⟨by decide +kernel, by decide +kernel⟩, List.mem_of_getElem? (i := 736) (by decide +kernel), List.mem_of_getElem? (i := 950) (by decide +kernel), List.mem_of_getElem? (i := 951) (by decide +kernel)⟩
theorem lw_p44 : lw_okq (⟨"FrameVerifierModel", "onArrays", "(I)V"⟩, 27) := ⟨⟨by decide +kernel, by decide +kernel⟩, List.mem_of_getElem? (i := 736) (by decide +kernel), List.mem_of_getElem? (i := 954) (by decide +kernel), List.mem_of_getElem? (i := 955) (by decide +kernel)⟩
theorem lw_p45 : lw_okq (⟨"FrameVerifierModel", "call", "(I)V"⟩, 27) := ⟨⟨by decide +kernel, by decide +kernel⟩, List.mem_of_getElem? (i := 736) (by decide +kernel), List.mem_of_getElem? (i := 958) (by decide +kernel), List.mem_of_getElem? (i := 959) (by decide +kernel)⟩
theorem lw_p46 : lw_okq (⟨"FrameVerifierModel", "giveBack", "()V"⟩, 27) := ⟨⟨by decide +kernel, by decide +kernel⟩, List.mem_of_getElem? (i := 736) (by decide +kernel), List.mem_of_getElem? (i := 962) (by decide +kernel), List.mem_of_getElem? (i := 963) (by decide +kernel)⟩
theorem lw_p47 : lw_okq (⟨"FrameVerifierModel", "onPlaces", "(II)V"⟩, 27) := ⟨⟨by decide +kernel, by decide +kernel⟩, List.mem_of_getElem? (i := 736) (by decide +kernel), List.mem_of_getElem? (i := 969) (by decide +kernel), List.mem_of_getElem? (i := 970) (by decide +kernel)⟩
def lw_privs_3 : List (MethodName × Nat) := [(⟨"FrameVerifierModel", "tryArray", "(I)V"⟩, 27), (⟨"FrameVerifierModel", "tryPlaces", "(I)V"⟩, 27), (⟨"FrameVerifierModel", "tryCall", "(I)V"⟩, 27), (⟨"FrameVerifierModel", "enter", "(I)V"⟩, 27), (⟨"FrameVerifierModel", "stepOnce", "()Z"⟩, 27), (⟨"FrameVerifierModel", "fitsValues", "(I)Z"⟩, 27), (⟨"FrameVerifierModel", "trapOf", "(II)I"⟩, 27), (⟨"FrameVerifierModel", "below", "(I)I"⟩, 27), (⟨"FrameVerifierModel", "perform", "(I)V"⟩, 27), (⟨"FrameVerifierModel", "put", "(II)V"⟩, 27), (⟨"FrameVerifierModel", "calculate", "(I)V"⟩, 27), (⟨"FrameVerifierModel", "drop", "(I)V"⟩, 27), (⟨"FrameVerifierModel", "onArrays", "(I)V"⟩, 27), (⟨"FrameVerifierModel", "call", "(I)V"⟩, 27), (⟨"FrameVerifierModel", "giveBack", "()V"⟩, 27), (⟨"FrameVerifierModel", "onPlaces", "(II)V"⟩, 27)]
theorem lw_r3 : ∀ q ∈ lw_privs_3, lw_okq q := List.forall_mem_cons.mpr ⟨lw_p32, List.forall_mem_cons.mpr ⟨lw_p33, List.forall_mem_cons.mpr ⟨lw_p34, List.forall_mem_cons.mpr ⟨lw_p35, List.forall_mem_cons.mpr ⟨lw_p36, List.forall_mem_cons.mpr ⟨lw_p37, List.forall_mem_cons.mpr ⟨lw_p38, List.forall_mem_cons.mpr ⟨lw_p39, List.forall_mem_cons.mpr ⟨lw_p40, List.forall_mem_cons.mpr ⟨lw_p41, List.forall_mem_cons.mpr ⟨lw_p42, List.forall_mem_cons.mpr ⟨lw_p43, List.forall_mem_cons.mpr ⟨lw_p44, List.forall_mem_cons.mpr ⟨lw_p45, List.forall_mem_cons.mpr ⟨lw_p46, List.forall_mem_cons.mpr ⟨lw_p47, fun _ h => absurd h List.not_mem_nil⟩⟩⟩⟩⟩⟩⟩⟩⟩⟩⟩⟩⟩⟩⟩⟩
def lw_privs : List (MethodName × Nat) := lw_privs_1 ++ (lw_privs_2 ++ (lw_privs_3))
def lw_tbl : List Cond := k2_sels lw_privs ++ tables_1
theorem lw_privs_ok : ∀ q ∈ lw_privs, lw_okq q := by
  show ∀ q ∈ lw_privs_1 ++ (lw_privs_2 ++ (lw_privs_3)), lw_okq q
  exact List.forall_mem_append.mpr ⟨lw_r1, List.forall_mem_append.mpr ⟨lw_r2, lw_r3⟩⟩
end
section
/-! part 02: a world of consecutive cells whose ints are one function; the judgement vv (walk with the answer's function); a row an instruction -/
abbrev mm_M : Type := Nat → Nat → Int32
def mm_wl (b N : Nat) (c : Nat → va_E) : va_W := (List.range N).map (fun k => (b + k, c k))
theorem mm_len {b N : Nat} {c : Nat → va_E} : (mm_wl b N c).length = N := by simp [mm_wl]
theorem mm_get {b N k : Nat} {c : Nat → va_E} (h : k < N) : (mm_wl b N c)[k]? = some (b + k, c k) := by
  simp [mm_wl, h]
theorem mm_set {b N k : Nat} {c : Nat → va_E} {e : va_E} : (mm_wl b N c).set k (b + k, e) = mm_wl b N (va_up c k e) := by
  apply List.ext_getElem?
  intro j
  by_cases hj : j < N
  · rw [mm_get hj]
    by_cases h : j = k
    · subst h
      rw [List.getElem?_set_self (by rw [mm_len]; exact hj), va_up_self]
    · rw [List.getElem?_set_ne (Ne.symm h), mm_get hj, va_up_ne _ _ h]
  · rw [List.getElem?_eq_none (by rw [List.length_set, mm_len]; omega), List.getElem?_eq_none (by rw [mm_len]; omega)]
def mm_A (b N : Nat) : Nat → Prop := fun q => b ≤ q ∧ q < b + N
theorem mm_key {b N : Nat} {c : Nat → va_E} {k : Nat} {q : Nat × va_E} (hk : (mm_wl b N c)[k]? = some q) : k < N ∧ q = (b + k, c k) := by
  have hl := (List.getElem?_eq_some_iff.mp hk).1
  rw [mm_len] at hl
  rw [mm_get hl] at hk
  cases hk
  exact ⟨hl, rfl⟩
theorem mm_D {b N : Nat} {c : Nat → va_E} : va_D (mm_A b N) (mm_wl b N c) := by
  refine ⟨fun i j x y hi hj hxy => ?_, fun k q hk => ?_⟩
  · obtain ⟨h1, rfl⟩ := mm_key hi
    obtain ⟨h2, rfl⟩ := mm_key hj
    simp only at hxy
    omega
  · obtain ⟨h1, rfl⟩ := mm_key hk
    exact ⟨Nat.le_add_right _ _, Nat.add_lt_add_left h1 _⟩
def mm_P (D : va_G) (cl : List vw_C) (b N : Nat) (ce : Nat → (Nat → Int32) → va_E) (σ : mm_M) (H : Heap) : Prop := va_P D cl (mm_wl b N (fun k => ce k (σ k))) H
theorem mm_P.put {D : va_G} {cl : List vw_C} {b N k : Nat} {ce : Nat → (Nat → Int32) → va_E} {σ : mm_M} {H : Heap} {e : va_E} (f : Nat → Int32) (he : e = ce k f) (h : va_P D cl ((mm_wl b N (fun k => ce k (σ k))).set k (b + k, e)) H) : mm_P D cl b N ce (va_up σ k f) H := by
  rw [mm_set] at h
  have e1 : va_up (fun k => ce k (σ k)) k e = fun j => ce j (va_up σ k f j) := by
    funext j
    by_cases hj : j = k
    · subst hj
      rw [va_up_self, va_up_self, he]
    · rw [va_up_ne _ _ hj, va_up_ne _ _ hj]
  rw [e1] at h
  exact h
/-- the locals by their places; none: nothing is known of it -/
def lo_ok (ls : Array Slot) (nL : Nat) (L : List (Option Value)) : Prop := ls.size = nL ∧ lv_wf ls ∧ ∀ (i : Nat) (v : Value), L[i]? = some (some v) → v.category = 1 ∧ ls[i]? = some (.val v)
def lo_li (L : List (Option Value)) : List (Nat × Value) := (List.range L.length).filterMap (fun i => (L[i]?.join).map (fun v => (i, v)))
theorem lo_mem {L : List (Option Value)} {i : Nat} {v : Value} : (i, v) ∈ lo_li L ↔ L[i]? = some (some v) := by
  unfold lo_li
  rw [List.mem_filterMap]
  constructor
  · rintro ⟨j, hj, h⟩
    cases hq : L[j]? with
    | none => rw [hq] at h; cases h
    | some w =>
      cases w with
      | none => rw [hq] at h; cases h
      | some z =>
        rw [hq] at h
        simp at h
        obtain ⟨rfl, rfl⟩ := h
        exact hq
  · intro h
    exact ⟨i, List.mem_range.mpr (List.getElem?_eq_some_iff.mp h).1, by rw [h]; rfl⟩
theorem lo_has {ls : Array Slot} {nL : Nat} {L : List (Option Value)} (h : lo_ok ls nL L) : lv_has ls nL (lo_li L) := ⟨h.1, h.2.1, fun q hq => (h.2.2 q.1 q.2 (lo_mem.mp hq)).2⟩
theorem lo_put {ls ls' : Array Slot} {nL i : Nat} {v : Value} {L : List (Option Value)} (h : lo_ok ls nL L) (hv : v.category = 1) (h2 : lv_has ls' nL ((i, v) :: (lo_li L).filter (fun q => !(q.1 == i) && !(q.1 + 1 == i && q.2.category == 2)))) : lo_ok ls' nL (L.set i (some v)) := by
  refine ⟨h2.1, h2.2.1, fun j w hj => ?_⟩
  by_cases hji : j = i
  · subst hji
    have hlt : j < (L.set j (some v)).length := (List.getElem?_eq_some_iff.mp hj).1
    rw [List.length_set] at hlt
    rw [List.getElem?_set_self hlt] at hj
    cases hj
    exact ⟨hv, h2.2.2 (j, v) List.mem_cons_self⟩
  · rw [List.getElem?_set_ne (Ne.symm hji)] at hj
    have h1 := (h.2.2 j w hj).1
    refine ⟨h1, h2.2.2 (j, w) (List.mem_cons_of_mem _ (List.mem_filter.mpr ⟨lo_mem.mpr hj, ?_⟩))⟩
    simp [hji, h1]
theorem lo_sub {ls : Array Slot} {nL : Nat} {L L' : List (Option Value)} (h : lo_ok ls nL L) (hs : ∀ (i : Nat) (v : Value), L'[i]? = some (some v) → L[i]? = some (some v)) : lo_ok ls nL L' := ⟨h.1, h.2.1, fun i v hi => h.2.2 i v (hs i v hi)⟩
/-- forgetting places: every place of L' says nothing, or what L says -/
def lo_le : List (Option Value) → List (Option Value) → Prop
  | [], _ => True
  | none :: t, _ :: t' => lo_le t t'
  | some v :: t, w :: t' => w = some v ∧ lo_le t t'
  | _ :: _, [] => False
theorem lo_le_get : ∀ (L' L : List (Option Value)), lo_le L' L → ∀ (i : Nat) (v : Value), L'[i]? = some (some v) → L[i]? = some (some v)
  | [], _, _, i, v, h => by simp at h
  | none :: t, w :: t', hl, i, v, h => by
    cases i with
    | zero => simp at h
    | succ i =>
      rw [List.getElem?_cons_succ] at h ⊢
      exact lo_le_get t t' hl i v h
  | some u :: t, w :: t', hl, i, v, h => by
    cases i with
    | zero =>
      rw [List.getElem?_cons_zero] at h ⊢
      cases h
      rw [hl.1]
    | succ i =>
      rw [List.getElem?_cons_succ] at h ⊢
      exact lo_le_get t t' hl.2 i v h
  | none :: t, [], hl, i, v, h => by cases hl
  | some u :: t, [], hl, i, v, h => by cases hl
def vv {Res : Type} (p : Program) (l : Launch) (e : Env) (R : Room) (s : State) (m : MethodId) (args : Array Value) (below : List Frame) (meth : Method) (c : Code) (D : va_G) (cl : List vw_C) (b N : Nat) (ce : Nat → (Nat → Int32) → va_E) (nL : Nat) (Q : State → Prop) (fin : Res) (k : Option Res) (σ : mm_M) (pc : Nat) (L : List (Option Value)) (st : List Value) : Prop :=
  k = some fin → ∀ (H : Heap) (locs : List Loc) (ls : Array Slot), lo_ok ls nL L → mm_P D cl b N ce σ H → va_S (mm_A b N) s.heap H locs → W p l e R s m args below meth c H locs 0 0 Q (F0 m pc ls st)
section VV1
variable {Res : Type} {p : Program} {l : Launch} {e : Env} {R : Room} {s : State} {m : MethodId} {args : Array Value} {below : List Frame} {meth : Method} {c : Code} {D : va_G} {cl : List vw_C} {b N : Nat} {ce : Nat → (Nat → Int32) → va_E} {nL : Nat} {Q : State → Prop} {fin : Res} {k A B : Option Res} {σ : mm_M} {pc : Nat} {L L2 : List (Option Value)} {rest : List Value} {cc : ByteArray} {Ts : List Cond} {own : String}
theorem v_iconst (S : CallFix p m c cc nL s args Ts own) {n : Int} {v : Int32} (d : decode cc pc = .ok (.iconst n, 1)) (hv : Int32.ofInt n = v)
    (kk : vv p l e R s m args below meth c D cl b N ce nL Q fin k σ (pc + 1) L (.int v :: rest)) : vv p l e R s m args below meth c D cl b N ce nL Q fin k σ pc L rest := fun hk H locs ls hl hP hS => lv_iconst S.1 S.2.1 d hv (kk hk H locs ls hl hP hS)
theorem v_bipush (S : CallFix p m c cc nL s args Ts own) {n : Int} {v : Int32} (d : decode cc pc = .ok (.bipush n, 2)) (hv : (Int8.ofInt n).toInt32 = v)
    (kk : vv p l e R s m args below meth c D cl b N ce nL Q fin k σ (pc + 2) L (.int v :: rest)) : vv p l e R s m args below meth c D cl b N ce nL Q fin k σ pc L rest := fun hk H locs ls hl hP hS => lv_bipush S.1 S.2.1 d hv (kk hk H locs ls hl hP hS)
theorem v_sipush (S : CallFix p m c cc nL s args Ts own) {n : Int} {v : Int32} (d : decode cc pc = .ok (.sipush n, 3)) (hv : (Int16.ofInt n).toInt32 = v)
    (kk : vv p l e R s m args below meth c D cl b N ce nL Q fin k σ (pc + 3) L (.int v :: rest)) : vv p l e R s m args below meth c D cl b N ce nL Q fin k σ pc L rest := fun hk H locs ls hl hP hS => lv_sipush S.1 S.2.1 d hv (kk hk H locs ls hl hP hS)
theorem v_iload_n (S : CallFix p m c cc nL s args Ts own) {q : Fin 4} {i : Nat} {x : Int32} (d : decode cc pc = .ok (.iload_n q, 1)) (hi : (q : Nat) = i) (hL : L[i]? = some (some (.int x)))
    (kk : vv p l e R s m args below meth c D cl b N ce nL Q fin k σ (pc + 1) L (.int x :: rest)) : vv p l e R s m args below meth c D cl b N ce nL Q fin k σ pc L rest := fun hk H locs ls hl hP hS => lv_iload_n S.1 S.2.1 d hi (hl.2.2 _ _ hL).2 (kk hk H locs ls hl hP hS)
theorem v_iload (S : CallFix p m c cc nL s args Ts own) {i : Nat} {x : Int32} (d : decode cc pc = .ok (.iload i, 2)) (hL : L[i]? = some (some (.int x)))
    (kk : vv p l e R s m args below meth c D cl b N ce nL Q fin k σ (pc + 2) L (.int x :: rest)) : vv p l e R s m args below meth c D cl b N ce nL Q fin k σ pc L rest := fun hk H locs ls hl hP hS => lv_iload S.1 S.2.1 d (hl.2.2 _ _ hL).2 (kk hk H locs ls hl hP hS)
theorem v_aload_n (S : CallFix p m c cc nL s args Ts own) {q : Fin 4} {i : Nat} {x : Nat} (d : decode cc pc = .ok (.aload_n q, 1)) (hi : (q : Nat) = i) (hL : L[i]? = some (some (.ref x)))
    (kk : vv p l e R s m args below meth c D cl b N ce nL Q fin k σ (pc + 1) L (.ref x :: rest)) : vv p l e R s m args below meth c D cl b N ce nL Q fin k σ pc L rest := fun hk H locs ls hl hP hS => lv_aload_n S.1 S.2.1 d hi (hl.2.2 _ _ hL).2 (kk hk H locs ls hl hP hS)
theorem v_aload (S : CallFix p m c cc nL s args Ts own) {i : Nat} {x : Nat} (d : decode cc pc = .ok (.aload i, 2)) (hL : L[i]? = some (some (.ref x)))
    (kk : vv p l e R s m args below meth c D cl b N ce nL Q fin k σ (pc + 2) L (.ref x :: rest)) : vv p l e R s m args below meth c D cl b N ce nL Q fin k σ pc L rest := fun hk H locs ls hl hP hS => lv_aload S.1 S.2.1 d (hl.2.2 _ _ hL).2 (kk hk H locs ls hl hP hS)
theorem v_istore_n (S : CallFix p m c cc nL s args Ts own) {q : Fin 4} {i : Nat} {x : Int32} (d : decode cc pc = .ok (.istore_n q, 1)) (hi : (q : Nat) = i) (hn : i < nL) (hL : L.set i (some (.int x)) = L2)
    (kk : vv p l e R s m args below meth c D cl b N ce nL Q fin k σ (pc + 1) L2 rest) : vv p l e R s m args below meth c D cl b N ce nL Q fin k σ pc L (.int x :: rest) := fun hk H locs ls hl hP hS => lv_istore_n S.1 S.2.1 d hi (lo_has hl) hn rfl (fun ls' h2 => kk hk H locs ls' (hL ▸ lo_put hl rfl h2) hP hS)
theorem v_istore (S : CallFix p m c cc nL s args Ts own) {i : Nat} {x : Int32} (d : decode cc pc = .ok (.istore i, 2)) (hn : i < nL) (hL : L.set i (some (.int x)) = L2)
    (kk : vv p l e R s m args below meth c D cl b N ce nL Q fin k σ (pc + 2) L2 rest) : vv p l e R s m args below meth c D cl b N ce nL Q fin k σ pc L (.int x :: rest) := fun hk H locs ls hl hP hS => lv_istore S.1 S.2.1 d (lo_has hl) hn rfl (fun ls' h2 => kk hk H locs ls' (hL ▸ lo_put hl rfl h2) hP hS)
theorem v_astore_n (S : CallFix p m c cc nL s args Ts own) {q : Fin 4} {i : Nat} {x : Nat} (d : decode cc pc = .ok (.astore_n q, 1)) (hi : (q : Nat) = i) (hn : i < nL) (hL : L.set i (some (.ref x)) = L2)
    (kk : vv p l e R s m args below meth c D cl b N ce nL Q fin k σ (pc + 1) L2 rest) : vv p l e R s m args below meth c D cl b N ce nL Q fin k σ pc L (.ref x :: rest) := fun hk H locs ls hl hP hS => lv_astore_n S.1 S.2.1 d hi (lo_has hl) hn rfl (fun ls' h2 => kk hk H locs ls' (hL ▸ lo_put hl rfl h2) hP hS)
theorem v_astore (S : CallFix p m c cc nL s args Ts own) {i : Nat} {x : Nat} (d : decode cc pc = .ok (.astore i, 2)) (hn : i < nL) (hL : L.set i (some (.ref x)) = L2)
    (kk : vv p l e R s m args below meth c D cl b N ce nL Q fin k σ (pc + 2) L2 rest) : vv p l e R s m args below meth c D cl b N ce nL Q fin k σ pc L (.ref x :: rest) := fun hk H locs ls hl hP hS => lv_astore S.1 S.2.1 d (lo_has hl) hn rfl (fun ls' h2 => kk hk H locs ls' (hL ▸ lo_put hl rfl h2) hP hS)
theorem v_iinc (S : CallFix p m c cc nL s args Ts own) {i : Nat} {n : Int} {x v : Int32} (d : decode cc pc = .ok (.iinc i n, 3)) (hx : L[i]? = some (some (.int x))) (hv : x + Int32.ofInt n = v) (hn : i < nL) (hL : L.set i (some (.int v)) = L2)
    (kk : vv p l e R s m args below meth c D cl b N ce nL Q fin k σ (pc + 3) L2 rest) : vv p l e R s m args below meth c D cl b N ce nL Q fin k σ pc L rest := fun hk H locs ls hl hP hS => by
  obtain ⟨j, hj⟩ := List.getElem?_of_mem (lo_mem.mpr hx)
  exact lv_iinc S.1 S.2.1 d (lo_has hl) hj hv hn rfl (fun ls' h2 => kk hk H locs ls' (hL ▸ lo_put hl rfl h2) hP hS)
theorem v_iadd (S : CallFix p m c cc nL s args Ts own) {x y : Int32} (d : decode cc pc = .ok (.iadd, 1)) 
    (kk : vv p l e R s m args below meth c D cl b N ce nL Q fin k σ (pc + 1) L (.int (x + y) :: rest)) : vv p l e R s m args below meth c D cl b N ce nL Q fin k σ pc L (.int y :: .int x :: rest) := fun hk H locs ls hl hP hS => lv_iadd S.1 S.2.1 d (kk hk H locs ls hl hP hS)
theorem v_isub (S : CallFix p m c cc nL s args Ts own) {x y : Int32} (d : decode cc pc = .ok (.isub, 1)) 
    (kk : vv p l e R s m args below meth c D cl b N ce nL Q fin k σ (pc + 1) L (.int (x - y) :: rest)) : vv p l e R s m args below meth c D cl b N ce nL Q fin k σ pc L (.int y :: .int x :: rest) := fun hk H locs ls hl hP hS => lv_isub S.1 S.2.1 d (kk hk H locs ls hl hP hS)
theorem v_imul (S : CallFix p m c cc nL s args Ts own) {x y : Int32} (d : decode cc pc = .ok (.imul, 1)) 
    (kk : vv p l e R s m args below meth c D cl b N ce nL Q fin k σ (pc + 1) L (.int (x * y) :: rest)) : vv p l e R s m args below meth c D cl b N ce nL Q fin k σ pc L (.int y :: .int x :: rest) := fun hk H locs ls hl hP hS => lv_imul S.1 S.2.1 d (kk hk H locs ls hl hP hS)
theorem v_iand (S : CallFix p m c cc nL s args Ts own) {x y : Int32} (d : decode cc pc = .ok (.iand, 1)) 
    (kk : vv p l e R s m args below meth c D cl b N ce nL Q fin k σ (pc + 1) L (.int (x &&& y) :: rest)) : vv p l e R s m args below meth c D cl b N ce nL Q fin k σ pc L (.int y :: .int x :: rest) := fun hk H locs ls hl hP hS => lv_iand S.1 S.2.1 d (kk hk H locs ls hl hP hS)
theorem v_ior (S : CallFix p m c cc nL s args Ts own) {x y : Int32} (d : decode cc pc = .ok (.ior, 1)) 
    (kk : vv p l e R s m args below meth c D cl b N ce nL Q fin k σ (pc + 1) L (.int (x ||| y) :: rest)) : vv p l e R s m args below meth c D cl b N ce nL Q fin k σ pc L (.int y :: .int x :: rest) := fun hk H locs ls hl hP hS => lv_ior S.1 S.2.1 d (kk hk H locs ls hl hP hS)
theorem v_ixor (S : CallFix p m c cc nL s args Ts own) {x y : Int32} (d : decode cc pc = .ok (.ixor, 1)) 
    (kk : vv p l e R s m args below meth c D cl b N ce nL Q fin k σ (pc + 1) L (.int (x ^^^ y) :: rest)) : vv p l e R s m args below meth c D cl b N ce nL Q fin k σ pc L (.int y :: .int x :: rest) := fun hk H locs ls hl hP hS => lv_ixor S.1 S.2.1 d (kk hk H locs ls hl hP hS)
theorem v_ishl (S : CallFix p m c cc nL s args Ts own) {x y : Int32} (d : decode cc pc = .ok (.ishl, 1)) 
    (kk : vv p l e R s m args below meth c D cl b N ce nL Q fin k σ (pc + 1) L (.int (x <<< (y &&& 31)) :: rest)) : vv p l e R s m args below meth c D cl b N ce nL Q fin k σ pc L (.int y :: .int x :: rest) := fun hk H locs ls hl hP hS => lv_ishl S.1 S.2.1 d (kk hk H locs ls hl hP hS)
theorem v_ishr (S : CallFix p m c cc nL s args Ts own) {x y : Int32} (d : decode cc pc = .ok (.ishr, 1)) 
    (kk : vv p l e R s m args below meth c D cl b N ce nL Q fin k σ (pc + 1) L (.int (x >>> (y &&& 31)) :: rest)) : vv p l e R s m args below meth c D cl b N ce nL Q fin k σ pc L (.int y :: .int x :: rest) := fun hk H locs ls hl hP hS => lv_ishr S.1 S.2.1 d (kk hk H locs ls hl hP hS)
theorem v_ineg (S : CallFix p m c cc nL s args Ts own) {x : Int32} (d : decode cc pc = .ok (.ineg, 1)) 
    (kk : vv p l e R s m args below meth c D cl b N ce nL Q fin k σ (pc + 1) L (.int (-x) :: rest)) : vv p l e R s m args below meth c D cl b N ce nL Q fin k σ pc L (.int x :: rest) := fun hk H locs ls hl hP hS => lv_ineg S.1 S.2.1 d (kk hk H locs ls hl hP hS)
theorem v_idiv (S : CallFix p m c cc nL s args Ts own) {x y : Int32} (d : decode cc pc = .ok (.idiv, 1))
    (kk : ¬ y = 0 → vv p l e R s m args below meth c D cl b N ce nL Q fin k σ (pc + 1) L (.int (x / y) :: rest)) : vv p l e R s m args below meth c D cl b N ce nL Q fin (if y = 0 then none else k) σ pc L (.int y :: .int x :: rest) := fun hk H locs ls hl hP hS => by
  by_cases h : y = 0
  · rw [if_pos h] at hk; cases hk
  · rw [if_neg h] at hk
    exact lv_idiv S.1 S.2.1 d h (kk h hk H locs ls hl hP hS)
theorem v_irem (S : CallFix p m c cc nL s args Ts own) {x y : Int32} (d : decode cc pc = .ok (.irem, 1))
    (kk : ¬ y = 0 → vv p l e R s m args below meth c D cl b N ce nL Q fin k σ (pc + 1) L (.int (x - x / y * y) :: rest)) : vv p l e R s m args below meth c D cl b N ce nL Q fin (if y = 0 then none else k) σ pc L (.int y :: .int x :: rest) := fun hk H locs ls hl hP hS => by
  by_cases h : y = 0
  · rw [if_pos h] at hk; cases hk
  · rw [if_neg h] at hk
    exact lv_irem S.1 S.2.1 d h (kk h hk H locs ls hl hP hS)
theorem v_dup (S : CallFix p m c cc nL s args Ts own) {va : Value} (d : decode cc pc = .ok (.dup, 1)) (hva : va.category = 1)
    (kk : vv p l e R s m args below meth c D cl b N ce nL Q fin k σ (pc + 1) L (va :: va :: rest)) : vv p l e R s m args below meth c D cl b N ce nL Q fin k σ pc L (va :: rest) := fun hk H locs ls hl hP hS => lv_dup S.1 S.2.1 d hva (kk hk H locs ls hl hP hS)
theorem v_pop (S : CallFix p m c cc nL s args Ts own) {va : Value} (d : decode cc pc = .ok (.pop, 1)) (hva : va.category = 1)
    (kk : vv p l e R s m args below meth c D cl b N ce nL Q fin k σ (pc + 1) L rest) : vv p l e R s m args below meth c D cl b N ce nL Q fin k σ pc L (va :: rest) := fun hk H locs ls hl hP hS => lv_pop S.1 S.2.1 d hva (kk hk H locs ls hl hP hS)
theorem v_dup_x1 (S : CallFix p m c cc nL s args Ts own) {va vb : Value} (d : decode cc pc = .ok (.dup_x1, 1)) (hva : va.category = 1) (hvb : vb.category = 1)
    (kk : vv p l e R s m args below meth c D cl b N ce nL Q fin k σ (pc + 1) L (va :: vb :: va :: rest)) : vv p l e R s m args below meth c D cl b N ce nL Q fin k σ pc L (va :: vb :: rest) := fun hk H locs ls hl hP hS => lv_dup_x1 S.1 S.2.1 d hva hvb (kk hk H locs ls hl hP hS)
theorem v_dup2 (S : CallFix p m c cc nL s args Ts own) {va vb : Value} (d : decode cc pc = .ok (.dup2, 1)) (hva : va.category = 1) (hvb : vb.category = 1)
    (kk : vv p l e R s m args below meth c D cl b N ce nL Q fin k σ (pc + 1) L (va :: vb :: va :: vb :: rest)) : vv p l e R s m args below meth c D cl b N ce nL Q fin k σ pc L (va :: vb :: rest) := fun hk H locs ls hl hP hS => lv_dup2_11 S.1 S.2.1 d hva hvb (kk hk H locs ls hl hP hS)
theorem v_if_eq (S : CallFix p m c cc nL s args Ts own) {x : Int32} {off : Int} {tgt : Nat} (d : decode cc pc = .ok (.ifCond .eq off, 3)) (ht : (pc : Int) + off = (tgt : Int))
    (kt : x = 0 → vv p l e R s m args below meth c D cl b N ce nL Q fin A σ tgt L rest) (kf : ¬ x = 0 → vv p l e R s m args below meth c D cl b N ce nL Q fin B σ (pc + 3) L rest) : vv p l e R s m args below meth c D cl b N ce nL Q fin (if x = 0 then A else B) σ pc L (.int x :: rest) := fun hk H locs ls hl hP hS =>
  lv_if_eq S.1 S.2.1 d ht (fun h => kt h (by rw [if_pos h] at hk; exact hk) H locs ls hl hP hS) (fun h => kf h (by rw [if_neg h] at hk; exact hk) H locs ls hl hP hS)
theorem v_if_eqT (S : CallFix p m c cc nL s args Ts own) {x : Int32} {off : Int} {tgt : Nat} (d : decode cc pc = .ok (.ifCond .eq off, 3)) (ht : (pc : Int) + off = (tgt : Int)) (h0 : x = 0)
    (kt : vv p l e R s m args below meth c D cl b N ce nL Q fin k σ tgt L rest) : vv p l e R s m args below meth c D cl b N ce nL Q fin k σ pc L (.int x :: rest) := fun hk H locs ls hl hP hS =>
  lv_if_eq S.1 S.2.1 d ht (fun _ => kt hk H locs ls hl hP hS) (fun h => absurd h0 h)
theorem v_if_eqF (S : CallFix p m c cc nL s args Ts own) {x : Int32} {off : Int} {tgt : Nat} (d : decode cc pc = .ok (.ifCond .eq off, 3)) (ht : (pc : Int) + off = (tgt : Int)) (h0 : ¬ x = 0)
    (kf : vv p l e R s m args below meth c D cl b N ce nL Q fin k σ (pc + 3) L rest) : vv p l e R s m args below meth c D cl b N ce nL Q fin k σ pc L (.int x :: rest) := fun hk H locs ls hl hP hS =>
  lv_if_eq S.1 S.2.1 d ht (fun h => absurd h h0) (fun _ => kf hk H locs ls hl hP hS)
theorem v_icmp_eq (S : CallFix p m c cc nL s args Ts own) {x y : Int32} {off : Int} {tgt : Nat} (d : decode cc pc = .ok (.if_icmp .eq off, 3)) (ht : (pc : Int) + off = (tgt : Int))
    (kt : x = y → vv p l e R s m args below meth c D cl b N ce nL Q fin A σ tgt L rest) (kf : ¬ x = y → vv p l e R s m args below meth c D cl b N ce nL Q fin B σ (pc + 3) L rest) : vv p l e R s m args below meth c D cl b N ce nL Q fin (if x = y then A else B) σ pc L (.int y :: .int x :: rest) := fun hk H locs ls hl hP hS =>
  lv_icmp_eq S.1 S.2.1 d ht (fun h => kt h (by rw [if_pos h] at hk; exact hk) H locs ls hl hP hS) (fun h => kf h (by rw [if_neg h] at hk; exact hk) H locs ls hl hP hS)
theorem v_icmp_eqT (S : CallFix p m c cc nL s args Ts own) {x y : Int32} {off : Int} {tgt : Nat} (d : decode cc pc = .ok (.if_icmp .eq off, 3)) (ht : (pc : Int) + off = (tgt : Int)) (h0 : x = y)
    (kt : vv p l e R s m args below meth c D cl b N ce nL Q fin k σ tgt L rest) : vv p l e R s m args below meth c D cl b N ce nL Q fin k σ pc L (.int y :: .int x :: rest) := fun hk H locs ls hl hP hS =>
  lv_icmp_eq S.1 S.2.1 d ht (fun _ => kt hk H locs ls hl hP hS) (fun h => absurd h0 h)
theorem v_icmp_eqF (S : CallFix p m c cc nL s args Ts own) {x y : Int32} {off : Int} {tgt : Nat} (d : decode cc pc = .ok (.if_icmp .eq off, 3)) (ht : (pc : Int) + off = (tgt : Int)) (h0 : ¬ x = y)
    (kf : vv p l e R s m args below meth c D cl b N ce nL Q fin k σ (pc + 3) L rest) : vv p l e R s m args below meth c D cl b N ce nL Q fin k σ pc L (.int y :: .int x :: rest) := fun hk H locs ls hl hP hS =>
  lv_icmp_eq S.1 S.2.1 d ht (fun h => absurd h h0) (fun _ => kf hk H locs ls hl hP hS)
theorem v_if_ne (S : CallFix p m c cc nL s args Ts own) {x : Int32} {off : Int} {tgt : Nat} (d : decode cc pc = .ok (.ifCond .ne off, 3)) (ht : (pc : Int) + off = (tgt : Int))
    (kt : ¬ x = 0 → vv p l e R s m args below meth c D cl b N ce nL Q fin B σ tgt L rest) (kf : x = 0 → vv p l e R s m args below meth c D cl b N ce nL Q fin A σ (pc + 3) L rest) : vv p l e R s m args below meth c D cl b N ce nL Q fin (if x = 0 then A else B) σ pc L (.int x :: rest) := fun hk H locs ls hl hP hS =>
  lv_if_ne S.1 S.2.1 d ht (fun h => kt h (by rw [if_neg h] at hk; exact hk) H locs ls hl hP hS) (fun h => kf h (by rw [if_pos h] at hk; exact hk) H locs ls hl hP hS)
theorem v_if_neT (S : CallFix p m c cc nL s args Ts own) {x : Int32} {off : Int} {tgt : Nat} (d : decode cc pc = .ok (.ifCond .ne off, 3)) (ht : (pc : Int) + off = (tgt : Int)) (h0 : ¬ x = 0)
    (kt : vv p l e R s m args below meth c D cl b N ce nL Q fin k σ tgt L rest) : vv p l e R s m args below meth c D cl b N ce nL Q fin k σ pc L (.int x :: rest) := fun hk H locs ls hl hP hS =>
  lv_if_ne S.1 S.2.1 d ht (fun _ => kt hk H locs ls hl hP hS) (fun h => absurd h h0)
theorem v_if_neF (S : CallFix p m c cc nL s args Ts own) {x : Int32} {off : Int} {tgt : Nat} (d : decode cc pc = .ok (.ifCond .ne off, 3)) (ht : (pc : Int) + off = (tgt : Int)) (h0 : x = 0)
    (kf : vv p l e R s m args below meth c D cl b N ce nL Q fin k σ (pc + 3) L rest) : vv p l e R s m args below meth c D cl b N ce nL Q fin k σ pc L (.int x :: rest) := fun hk H locs ls hl hP hS =>
  lv_if_ne S.1 S.2.1 d ht (fun h => absurd h0 h) (fun _ => kf hk H locs ls hl hP hS)
theorem v_icmp_ne (S : CallFix p m c cc nL s args Ts own) {x y : Int32} {off : Int} {tgt : Nat} (d : decode cc pc = .ok (.if_icmp .ne off, 3)) (ht : (pc : Int) + off = (tgt : Int))
    (kt : ¬ x = y → vv p l e R s m args below meth c D cl b N ce nL Q fin B σ tgt L rest) (kf : x = y → vv p l e R s m args below meth c D cl b N ce nL Q fin A σ (pc + 3) L rest) : vv p l e R s m args below meth c D cl b N ce nL Q fin (if x = y then A else B) σ pc L (.int y :: .int x :: rest) := fun hk H locs ls hl hP hS =>
  lv_icmp_ne S.1 S.2.1 d ht (fun h => kt h (by rw [if_neg h] at hk; exact hk) H locs ls hl hP hS) (fun h => kf h (by rw [if_pos h] at hk; exact hk) H locs ls hl hP hS)
theorem v_icmp_neT (S : CallFix p m c cc nL s args Ts own) {x y : Int32} {off : Int} {tgt : Nat} (d : decode cc pc = .ok (.if_icmp .ne off, 3)) (ht : (pc : Int) + off = (tgt : Int)) (h0 : ¬ x = y)
    (kt : vv p l e R s m args below meth c D cl b N ce nL Q fin k σ tgt L rest) : vv p l e R s m args below meth c D cl b N ce nL Q fin k σ pc L (.int y :: .int x :: rest) := fun hk H locs ls hl hP hS =>
  lv_icmp_ne S.1 S.2.1 d ht (fun _ => kt hk H locs ls hl hP hS) (fun h => absurd h h0)
theorem v_icmp_neF (S : CallFix p m c cc nL s args Ts own) {x y : Int32} {off : Int} {tgt : Nat} (d : decode cc pc = .ok (.if_icmp .ne off, 3)) (ht : (pc : Int) + off = (tgt : Int)) (h0 : x = y)
    (kf : vv p l e R s m args below meth c D cl b N ce nL Q fin k σ (pc + 3) L rest) : vv p l e R s m args below meth c D cl b N ce nL Q fin k σ pc L (.int y :: .int x :: rest) := fun hk H locs ls hl hP hS =>
  lv_icmp_ne S.1 S.2.1 d ht (fun h => absurd h0 h) (fun _ => kf hk H locs ls hl hP hS)
theorem v_if_lt (S : CallFix p m c cc nL s args Ts own) {x : Int32} {off : Int} {tgt : Nat} (d : decode cc pc = .ok (.ifCond .lt off, 3)) (ht : (pc : Int) + off = (tgt : Int))
    (kt : x < 0 → vv p l e R s m args below meth c D cl b N ce nL Q fin A σ tgt L rest) (kf : ¬ x < 0 → vv p l e R s m args below meth c D cl b N ce nL Q fin B σ (pc + 3) L rest) : vv p l e R s m args below meth c D cl b N ce nL Q fin (if x < 0 then A else B) σ pc L (.int x :: rest) := fun hk H locs ls hl hP hS =>
  lv_if_lt S.1 S.2.1 d ht (fun h => kt h (by rw [if_pos h] at hk; exact hk) H locs ls hl hP hS) (fun h => kf h (by rw [if_neg h] at hk; exact hk) H locs ls hl hP hS)
theorem v_if_ltT (S : CallFix p m c cc nL s args Ts own) {x : Int32} {off : Int} {tgt : Nat} (d : decode cc pc = .ok (.ifCond .lt off, 3)) (ht : (pc : Int) + off = (tgt : Int)) (h0 : x < 0)
    (kt : vv p l e R s m args below meth c D cl b N ce nL Q fin k σ tgt L rest) : vv p l e R s m args below meth c D cl b N ce nL Q fin k σ pc L (.int x :: rest) := fun hk H locs ls hl hP hS =>
  lv_if_lt S.1 S.2.1 d ht (fun _ => kt hk H locs ls hl hP hS) (fun h => absurd h0 h)
theorem v_if_ltF (S : CallFix p m c cc nL s args Ts own) {x : Int32} {off : Int} {tgt : Nat} (d : decode cc pc = .ok (.ifCond .lt off, 3)) (ht : (pc : Int) + off = (tgt : Int)) (h0 : ¬ x < 0)
    (kf : vv p l e R s m args below meth c D cl b N ce nL Q fin k σ (pc + 3) L rest) : vv p l e R s m args below meth c D cl b N ce nL Q fin k σ pc L (.int x :: rest) := fun hk H locs ls hl hP hS =>
  lv_if_lt S.1 S.2.1 d ht (fun h => absurd h h0) (fun _ => kf hk H locs ls hl hP hS)
theorem v_icmp_lt (S : CallFix p m c cc nL s args Ts own) {x y : Int32} {off : Int} {tgt : Nat} (d : decode cc pc = .ok (.if_icmp .lt off, 3)) (ht : (pc : Int) + off = (tgt : Int))
    (kt : x < y → vv p l e R s m args below meth c D cl b N ce nL Q fin A σ tgt L rest) (kf : ¬ x < y → vv p l e R s m args below meth c D cl b N ce nL Q fin B σ (pc + 3) L rest) : vv p l e R s m args below meth c D cl b N ce nL Q fin (if x < y then A else B) σ pc L (.int y :: .int x :: rest) := fun hk H locs ls hl hP hS =>
  lv_icmp_lt S.1 S.2.1 d ht (fun h => kt h (by rw [if_pos h] at hk; exact hk) H locs ls hl hP hS) (fun h => kf h (by rw [if_neg h] at hk; exact hk) H locs ls hl hP hS)
theorem v_icmp_ltT (S : CallFix p m c cc nL s args Ts own) {x y : Int32} {off : Int} {tgt : Nat} (d : decode cc pc = .ok (.if_icmp .lt off, 3)) (ht : (pc : Int) + off = (tgt : Int)) (h0 : x < y)
    (kt : vv p l e R s m args below meth c D cl b N ce nL Q fin k σ tgt L rest) : vv p l e R s m args below meth c D cl b N ce nL Q fin k σ pc L (.int y :: .int x :: rest) := fun hk H locs ls hl hP hS =>
  lv_icmp_lt S.1 S.2.1 d ht (fun _ => kt hk H locs ls hl hP hS) (fun h => absurd h0 h)
theorem v_icmp_ltF (S : CallFix p m c cc nL s args Ts own) {x y : Int32} {off : Int} {tgt : Nat} (d : decode cc pc = .ok (.if_icmp .lt off, 3)) (ht : (pc : Int) + off = (tgt : Int)) (h0 : ¬ x < y)
    (kf : vv p l e R s m args below meth c D cl b N ce nL Q fin k σ (pc + 3) L rest) : vv p l e R s m args below meth c D cl b N ce nL Q fin k σ pc L (.int y :: .int x :: rest) := fun hk H locs ls hl hP hS =>
  lv_icmp_lt S.1 S.2.1 d ht (fun h => absurd h h0) (fun _ => kf hk H locs ls hl hP hS)
theorem v_if_ge (S : CallFix p m c cc nL s args Ts own) {x : Int32} {off : Int} {tgt : Nat} (d : decode cc pc = .ok (.ifCond .ge off, 3)) (ht : (pc : Int) + off = (tgt : Int))
    (kt : 0 ≤ x → vv p l e R s m args below meth c D cl b N ce nL Q fin A σ tgt L rest) (kf : ¬ 0 ≤ x → vv p l e R s m args below meth c D cl b N ce nL Q fin B σ (pc + 3) L rest) : vv p l e R s m args below meth c D cl b N ce nL Q fin (if 0 ≤ x then A else B) σ pc L (.int x :: rest) := fun hk H locs ls hl hP hS =>
  lv_if_ge S.1 S.2.1 d ht (fun h => kt h (by rw [if_pos h] at hk; exact hk) H locs ls hl hP hS) (fun h => kf h (by rw [if_neg h] at hk; exact hk) H locs ls hl hP hS)
theorem v_if_geT (S : CallFix p m c cc nL s args Ts own) {x : Int32} {off : Int} {tgt : Nat} (d : decode cc pc = .ok (.ifCond .ge off, 3)) (ht : (pc : Int) + off = (tgt : Int)) (h0 : 0 ≤ x)
    (kt : vv p l e R s m args below meth c D cl b N ce nL Q fin k σ tgt L rest) : vv p l e R s m args below meth c D cl b N ce nL Q fin k σ pc L (.int x :: rest) := fun hk H locs ls hl hP hS =>
  lv_if_ge S.1 S.2.1 d ht (fun _ => kt hk H locs ls hl hP hS) (fun h => absurd h0 h)
theorem v_if_geF (S : CallFix p m c cc nL s args Ts own) {x : Int32} {off : Int} {tgt : Nat} (d : decode cc pc = .ok (.ifCond .ge off, 3)) (ht : (pc : Int) + off = (tgt : Int)) (h0 : ¬ 0 ≤ x)
    (kf : vv p l e R s m args below meth c D cl b N ce nL Q fin k σ (pc + 3) L rest) : vv p l e R s m args below meth c D cl b N ce nL Q fin k σ pc L (.int x :: rest) := fun hk H locs ls hl hP hS =>
  lv_if_ge S.1 S.2.1 d ht (fun h => absurd h h0) (fun _ => kf hk H locs ls hl hP hS)
theorem v_icmp_ge (S : CallFix p m c cc nL s args Ts own) {x y : Int32} {off : Int} {tgt : Nat} (d : decode cc pc = .ok (.if_icmp .ge off, 3)) (ht : (pc : Int) + off = (tgt : Int))
    (kt : y ≤ x → vv p l e R s m args below meth c D cl b N ce nL Q fin A σ tgt L rest) (kf : ¬ y ≤ x → vv p l e R s m args below meth c D cl b N ce nL Q fin B σ (pc + 3) L rest) : vv p l e R s m args below meth c D cl b N ce nL Q fin (if y ≤ x then A else B) σ pc L (.int y :: .int x :: rest) := fun hk H locs ls hl hP hS =>
  lv_icmp_ge S.1 S.2.1 d ht (fun h => kt h (by rw [if_pos h] at hk; exact hk) H locs ls hl hP hS) (fun h => kf h (by rw [if_neg h] at hk; exact hk) H locs ls hl hP hS)
theorem v_icmp_geT (S : CallFix p m c cc nL s args Ts own) {x y : Int32} {off : Int} {tgt : Nat} (d : decode cc pc = .ok (.if_icmp .ge off, 3)) (ht : (pc : Int) + off = (tgt : Int)) (h0 : y ≤ x)
    (kt : vv p l e R s m args below meth c D cl b N ce nL Q fin k σ tgt L rest) : vv p l e R s m args below meth c D cl b N ce nL Q fin k σ pc L (.int y :: .int x :: rest) := fun hk H locs ls hl hP hS =>
  lv_icmp_ge S.1 S.2.1 d ht (fun _ => kt hk H locs ls hl hP hS) (fun h => absurd h0 h)
theorem v_icmp_geF (S : CallFix p m c cc nL s args Ts own) {x y : Int32} {off : Int} {tgt : Nat} (d : decode cc pc = .ok (.if_icmp .ge off, 3)) (ht : (pc : Int) + off = (tgt : Int)) (h0 : ¬ y ≤ x)
    (kf : vv p l e R s m args below meth c D cl b N ce nL Q fin k σ (pc + 3) L rest) : vv p l e R s m args below meth c D cl b N ce nL Q fin k σ pc L (.int y :: .int x :: rest) := fun hk H locs ls hl hP hS =>
  lv_icmp_ge S.1 S.2.1 d ht (fun h => absurd h h0) (fun _ => kf hk H locs ls hl hP hS)
theorem v_if_gt (S : CallFix p m c cc nL s args Ts own) {x : Int32} {off : Int} {tgt : Nat} (d : decode cc pc = .ok (.ifCond .gt off, 3)) (ht : (pc : Int) + off = (tgt : Int))
    (kt : 0 < x → vv p l e R s m args below meth c D cl b N ce nL Q fin A σ tgt L rest) (kf : ¬ 0 < x → vv p l e R s m args below meth c D cl b N ce nL Q fin B σ (pc + 3) L rest) : vv p l e R s m args below meth c D cl b N ce nL Q fin (if 0 < x then A else B) σ pc L (.int x :: rest) := fun hk H locs ls hl hP hS =>
  lv_if_gt S.1 S.2.1 d ht (fun h => kt h (by rw [if_pos h] at hk; exact hk) H locs ls hl hP hS) (fun h => kf h (by rw [if_neg h] at hk; exact hk) H locs ls hl hP hS)
theorem v_if_gtT (S : CallFix p m c cc nL s args Ts own) {x : Int32} {off : Int} {tgt : Nat} (d : decode cc pc = .ok (.ifCond .gt off, 3)) (ht : (pc : Int) + off = (tgt : Int)) (h0 : 0 < x)
    (kt : vv p l e R s m args below meth c D cl b N ce nL Q fin k σ tgt L rest) : vv p l e R s m args below meth c D cl b N ce nL Q fin k σ pc L (.int x :: rest) := fun hk H locs ls hl hP hS =>
  lv_if_gt S.1 S.2.1 d ht (fun _ => kt hk H locs ls hl hP hS) (fun h => absurd h0 h)
theorem v_if_gtF (S : CallFix p m c cc nL s args Ts own) {x : Int32} {off : Int} {tgt : Nat} (d : decode cc pc = .ok (.ifCond .gt off, 3)) (ht : (pc : Int) + off = (tgt : Int)) (h0 : ¬ 0 < x)
    (kf : vv p l e R s m args below meth c D cl b N ce nL Q fin k σ (pc + 3) L rest) : vv p l e R s m args below meth c D cl b N ce nL Q fin k σ pc L (.int x :: rest) := fun hk H locs ls hl hP hS =>
  lv_if_gt S.1 S.2.1 d ht (fun h => absurd h h0) (fun _ => kf hk H locs ls hl hP hS)
theorem v_icmp_gt (S : CallFix p m c cc nL s args Ts own) {x y : Int32} {off : Int} {tgt : Nat} (d : decode cc pc = .ok (.if_icmp .gt off, 3)) (ht : (pc : Int) + off = (tgt : Int))
    (kt : y < x → vv p l e R s m args below meth c D cl b N ce nL Q fin A σ tgt L rest) (kf : ¬ y < x → vv p l e R s m args below meth c D cl b N ce nL Q fin B σ (pc + 3) L rest) : vv p l e R s m args below meth c D cl b N ce nL Q fin (if y < x then A else B) σ pc L (.int y :: .int x :: rest) := fun hk H locs ls hl hP hS =>
  lv_icmp_gt S.1 S.2.1 d ht (fun h => kt h (by rw [if_pos h] at hk; exact hk) H locs ls hl hP hS) (fun h => kf h (by rw [if_neg h] at hk; exact hk) H locs ls hl hP hS)
theorem v_icmp_gtT (S : CallFix p m c cc nL s args Ts own) {x y : Int32} {off : Int} {tgt : Nat} (d : decode cc pc = .ok (.if_icmp .gt off, 3)) (ht : (pc : Int) + off = (tgt : Int)) (h0 : y < x)
    (kt : vv p l e R s m args below meth c D cl b N ce nL Q fin k σ tgt L rest) : vv p l e R s m args below meth c D cl b N ce nL Q fin k σ pc L (.int y :: .int x :: rest) := fun hk H locs ls hl hP hS =>
  lv_icmp_gt S.1 S.2.1 d ht (fun _ => kt hk H locs ls hl hP hS) (fun h => absurd h0 h)
theorem v_icmp_gtF (S : CallFix p m c cc nL s args Ts own) {x y : Int32} {off : Int} {tgt : Nat} (d : decode cc pc = .ok (.if_icmp .gt off, 3)) (ht : (pc : Int) + off = (tgt : Int)) (h0 : ¬ y < x)
    (kf : vv p l e R s m args below meth c D cl b N ce nL Q fin k σ (pc + 3) L rest) : vv p l e R s m args below meth c D cl b N ce nL Q fin k σ pc L (.int y :: .int x :: rest) := fun hk H locs ls hl hP hS =>
  lv_icmp_gt S.1 S.2.1 d ht (fun h => absurd h h0) (fun _ => kf hk H locs ls hl hP hS)
theorem v_if_le (S : CallFix p m c cc nL s args Ts own) {x : Int32} {off : Int} {tgt : Nat} (d : decode cc pc = .ok (.ifCond .le off, 3)) (ht : (pc : Int) + off = (tgt : Int))
    (kt : x ≤ 0 → vv p l e R s m args below meth c D cl b N ce nL Q fin A σ tgt L rest) (kf : ¬ x ≤ 0 → vv p l e R s m args below meth c D cl b N ce nL Q fin B σ (pc + 3) L rest) : vv p l e R s m args below meth c D cl b N ce nL Q fin (if x ≤ 0 then A else B) σ pc L (.int x :: rest) := fun hk H locs ls hl hP hS =>
  lv_if_le S.1 S.2.1 d ht (fun h => kt h (by rw [if_pos h] at hk; exact hk) H locs ls hl hP hS) (fun h => kf h (by rw [if_neg h] at hk; exact hk) H locs ls hl hP hS)
theorem v_if_leT (S : CallFix p m c cc nL s args Ts own) {x : Int32} {off : Int} {tgt : Nat} (d : decode cc pc = .ok (.ifCond .le off, 3)) (ht : (pc : Int) + off = (tgt : Int)) (h0 : x ≤ 0)
    (kt : vv p l e R s m args below meth c D cl b N ce nL Q fin k σ tgt L rest) : vv p l e R s m args below meth c D cl b N ce nL Q fin k σ pc L (.int x :: rest) := fun hk H locs ls hl hP hS =>
  lv_if_le S.1 S.2.1 d ht (fun _ => kt hk H locs ls hl hP hS) (fun h => absurd h0 h)
theorem v_if_leF (S : CallFix p m c cc nL s args Ts own) {x : Int32} {off : Int} {tgt : Nat} (d : decode cc pc = .ok (.ifCond .le off, 3)) (ht : (pc : Int) + off = (tgt : Int)) (h0 : ¬ x ≤ 0)
    (kf : vv p l e R s m args below meth c D cl b N ce nL Q fin k σ (pc + 3) L rest) : vv p l e R s m args below meth c D cl b N ce nL Q fin k σ pc L (.int x :: rest) := fun hk H locs ls hl hP hS =>
  lv_if_le S.1 S.2.1 d ht (fun h => absurd h h0) (fun _ => kf hk H locs ls hl hP hS)
theorem v_icmp_le (S : CallFix p m c cc nL s args Ts own) {x y : Int32} {off : Int} {tgt : Nat} (d : decode cc pc = .ok (.if_icmp .le off, 3)) (ht : (pc : Int) + off = (tgt : Int))
    (kt : x ≤ y → vv p l e R s m args below meth c D cl b N ce nL Q fin A σ tgt L rest) (kf : ¬ x ≤ y → vv p l e R s m args below meth c D cl b N ce nL Q fin B σ (pc + 3) L rest) : vv p l e R s m args below meth c D cl b N ce nL Q fin (if x ≤ y then A else B) σ pc L (.int y :: .int x :: rest) := fun hk H locs ls hl hP hS =>
  lv_icmp_le S.1 S.2.1 d ht (fun h => kt h (by rw [if_pos h] at hk; exact hk) H locs ls hl hP hS) (fun h => kf h (by rw [if_neg h] at hk; exact hk) H locs ls hl hP hS)
theorem v_icmp_leT (S : CallFix p m c cc nL s args Ts own) {x y : Int32} {off : Int} {tgt : Nat} (d : decode cc pc = .ok (.if_icmp .le off, 3)) (ht : (pc : Int) + off = (tgt : Int)) (h0 : x ≤ y)
    (kt : vv p l e R s m args below meth c D cl b N ce nL Q fin k σ tgt L rest) : vv p l e R s m args below meth c D cl b N ce nL Q fin k σ pc L (.int y :: .int x :: rest) := fun hk H locs ls hl hP hS =>
  lv_icmp_le S.1 S.2.1 d ht (fun _ => kt hk H locs ls hl hP hS) (fun h => absurd h0 h)
theorem v_icmp_leF (S : CallFix p m c cc nL s args Ts own) {x y : Int32} {off : Int} {tgt : Nat} (d : decode cc pc = .ok (.if_icmp .le off, 3)) (ht : (pc : Int) + off = (tgt : Int)) (h0 : ¬ x ≤ y)
    (kf : vv p l e R s m args below meth c D cl b N ce nL Q fin k σ (pc + 3) L rest) : vv p l e R s m args below meth c D cl b N ce nL Q fin k σ pc L (.int y :: .int x :: rest) := fun hk H locs ls hl hP hS =>
  lv_icmp_le S.1 S.2.1 d ht (fun h => absurd h h0) (fun _ => kf hk H locs ls hl hP hS)
theorem v_goto (S : CallFix p m c cc nL s args Ts own) {off : Int} {tgt : Nat} (d : decode cc pc = .ok (.goto off, 3)) (ht : (pc : Int) + off = (tgt : Int))
    (kk : vv p l e R s m args below meth c D cl b N ce nL Q fin k σ tgt L rest) : vv p l e R s m args below meth c D cl b N ce nL Q fin k σ pc L rest := fun hk H locs ls hl hP hS => lv_goto S.1 S.2.1 d ht (kk hk H locs ls hl hP hS)
theorem v_sub (h : lo_le L2 L) (kk : vv p l e R s m args below meth c D cl b N ce nL Q fin k σ pc L2 rest) : vv p l e R s m args below meth c D cl b N ce nL Q fin k σ pc L rest := fun hk H locs ls hl hP hS => kk hk H locs ls (lo_sub hl (lo_le_get _ _ h)) hP hS
theorem v_tsw (S : CallFix p m c cc nL s args Ts own) {dflt lo hi : Int} {offs : Array Int} {len : Nat} {x : Int32} (v : Int32) {off : Int} {tgt : Nat} (d : decode cc pc = .ok (.tableswitch dflt lo hi offs, len)) (h1 : ¬ v.toInt < lo) (h2 : ¬ hi < v.toInt) (ho : offs[(v.toInt - lo).toNat]? = some off) (ht : (pc : Int) + off = (tgt : Int))
    (kt : x = v → vv p l e R s m args below meth c D cl b N ce nL Q fin A σ tgt L rest) (kf : ¬ x = v → vv p l e R s m args below meth c D cl b N ce nL Q fin B σ pc L (.int x :: rest)) : vv p l e R s m args below meth c D cl b N ce nL Q fin (if x = v then A else B) σ pc L (.int x :: rest) := fun hk H locs ls hl hP hS => by
  by_cases h : x = v
  · rw [if_pos h] at hk
    subst h
    exact lv_tableIn S.1 S.2.1 d h1 h2 ho ht (kt rfl hk H locs ls hl hP hS)
  · rw [if_neg h] at hk
    exact kf h hk H locs ls hl hP hS
theorem v_tswD (S : CallFix p m c cc nL s args Ts own) {dflt lo hi : Int} {offs : Array Int} {len : Nat} {x : Int32} {tgt : Nat} (d : decode cc pc = .ok (.tableswitch dflt lo hi offs, len)) (h : x.toInt < lo ∨ hi < x.toInt) (ht : (pc : Int) + dflt = (tgt : Int))
    (kk : vv p l e R s m args below meth c D cl b N ce nL Q fin k σ tgt L rest) : vv p l e R s m args below meth c D cl b N ce nL Q fin k σ pc L (.int x :: rest) := fun hk H locs ls hl hP hS => lv_tableOut S.1 S.2.1 d h ht (kk hk H locs ls hl hP hS)
theorem v_lsw (S : CallFix p m c cc nL s args Ts own) {dflt : Int} {ps : Array (Int × Int)} {len : Nat} {x : Int32} (v : Int32) {off : Int} {tgt : Nat} (d : decode cc pc = .ok (.lookupswitch dflt ps, len)) (hp : (ps.toList.zip (ps.toList.drop 1)).all (fun (a, next) => a.1 < next.1) = true) (ho : Op.lookupswitch.offset ps.toList dflt v.toInt = off) (ht : (pc : Int) + off = (tgt : Int))
    (kt : x = v → vv p l e R s m args below meth c D cl b N ce nL Q fin A σ tgt L rest) (kf : ¬ x = v → vv p l e R s m args below meth c D cl b N ce nL Q fin B σ pc L (.int x :: rest)) : vv p l e R s m args below meth c D cl b N ce nL Q fin (if x = v then A else B) σ pc L (.int x :: rest) := fun hk H locs ls hl hP hS => by
  by_cases h : x = v
  · rw [if_pos h] at hk
    subst h
    exact lv_lookup S.1 S.2.1 d hp ho ht (kt rfl hk H locs ls hl hP hS)
  · rw [if_neg h] at hk
    exact kf h hk H locs ls hl hP hS
theorem v_lswD (S : CallFix p m c cc nL s args Ts own) {dflt : Int} {ps : Array (Int × Int)} {len : Nat} {x : Int32} {tgt : Nat} (d : decode cc pc = .ok (.lookupswitch dflt ps, len)) (hp : (ps.toList.zip (ps.toList.drop 1)).all (fun (a, next) => a.1 < next.1) = true) (ho : Op.lookupswitch.offset ps.toList dflt x.toInt = dflt) (ht : (pc : Int) + dflt = (tgt : Int))
    (kk : vv p l e R s m args below meth c D cl b N ce nL Q fin k σ tgt L rest) : vv p l e R s m args below meth c D cl b N ce nL Q fin k σ pc L (.int x :: rest) := fun hk H locs ls hl hP hS => lv_lookup S.1 S.2.1 d hp ho ht (kk hk H locs ls hl hP hS)
theorem v_get (S : CallFix p m c cc nL s args Ts own) {ref C : String} {T : u_T} {Nf ci index : Nat} {tys : List (ClassId × FieldType)} (hin : ∀ w ∈ u_ws C T Nf, w ∈ Ts) (hK : va_K D cl tys s) (kq : Nat) (hkq : kq < N) {fs : List Value} (hce : ce kq (σ kq) = .inr (ci, fs)) (hc : cl[ci]? = some (C, T, Nf)) (j : Nat) (hj : j < Nf) (hlink : (Cond.fieldLink own index ref (T j).2.1 (T j).2.2.1).before args s = true) (hsame : ∀ x, s.fieldFound? (T j).1 (T j).2.1 (T j).2.2.1 = some x → s.fieldFound? ref (T j).2.1 (T j).2.2.1 = some x) {v : Value} (hv : fs[j]? = some v) (d : decode cc pc = .ok (.getfield index, 3))
    (kk : vv p l e R s m args below meth c D cl b N ce nL Q fin k σ (pc + 3) L (v :: rest)) : vv p l e R s m args below meth c D cl b N ce nL Q fin k σ pc L (.ref (b + kq) :: rest) := fun hk H locs ls hl hP hS =>
  va_get S.1 S.2.1 S.2.2.2.2 hin S.2.2.2.1 hK hP kq (by rw [mm_get hkq, hce]) hc j hj hlink hsame hv d (kk hk H locs ls hl hP hS)
theorem v_put (S : CallFix p m c cc nL s args Ts own) {ref C : String} {T : u_T} {Nf ci index : Nat} {tys : List (ClassId × FieldType)} (hin : ∀ w ∈ u_ws C T Nf, w ∈ Ts) (hK : va_K D cl tys s) (kq : Nat) (hkq : kq < N) {fs : List Value} (hce : ce kq (σ kq) = .inr (ci, fs)) (hc : cl[ci]? = some (C, T, Nf)) (j : Nat) (hj : j < Nf) (hlink : (Cond.fieldLink own index ref (T j).2.1 (T j).2.2.1).before args s = true) (hsame : ∀ x, s.fieldFound? (T j).1 (T j).2.1 (T j).2.2.1 = some x → s.fieldFound? ref (T j).2.1 (T j).2.2.1 = some x) (ty0 : Nat → FieldType) (hty : ∀ k, k < Nf → parseFieldDescriptor (T k).2.2.1 = some (ty0 k)) (hnm : ∀ a, a < Nf → ∀ b, b < Nf → a ≠ b → (T a).2.1 ≠ (T b).2.1) (hfin : (T j).2.2.2 = false) {ty : FieldType} {v : Value} (hd : parseFieldDescriptor (T j).2.2.1 = some ty) (hn : narrow ty v = v) (hfit : fits ty v = true) (hl0 : j < fs.length) (f : Nat → Int32) (he : .inr (ci, fs.set j v) = ce kq f) (d : decode cc pc = .ok (.putfield index, 3))
    (kk : vv p l e R s m args below meth c D cl b N ce nL Q fin k (va_up σ kq f) (pc + 3) L rest) : vv p l e R s m args below meth c D cl b N ce nL Q fin k σ pc L (v :: .ref (b + kq) :: rest) := fun hk H locs ls hl hP hS =>
  va_put S.1 S.2.1 S.2.2.2.2 hin ty0 hty hnm S.2.2.2.1 hK hP mm_D hS kq (by rw [mm_get hkq, hce]) hc j hj hlink hsame hfin hd hn hfit hl0 d (fun H1 locs1 hP1 _ hS1 => kk hk H1 locs1 ls hl (mm_P.put f he hP1) hS1)
theorem v_getN (S : CallFix p m c cc nL s args Ts own) {ref C : String} {T : u_T} {Nf ci index : Nat} {tys : List (ClassId × FieldType)} (hin : ∀ w ∈ u_ws C T Nf, w ∈ Ts) (hK : va_K D cl tys s) (kq : Nat) (hkq : kq < N) {fs : List Value} (hce : ce kq (σ kq) = .inr (ci, fs)) (hc : cl[ci]? = some (C, T, Nf)) (j : Nat) (hj : j < Nf) {host : String} (hlink : (Cond.fieldLinkNest own index ref (T j).2.1 (T j).2.2.1 host).before args s = true) (hsame : ∀ x, s.fieldFound? (T j).1 (T j).2.1 (T j).2.2.1 = some x → s.fieldFound? ref (T j).2.1 (T j).2.2.1 = some x) {v : Value} (hv : fs[j]? = some v) (d : decode cc pc = .ok (.getfield index, 3))
    (kk : vv p l e R s m args below meth c D cl b N ce nL Q fin k σ (pc + 3) L (v :: rest)) : vv p l e R s m args below meth c D cl b N ce nL Q fin k σ pc L (.ref (b + kq) :: rest) := fun hk H locs ls hl hP hS =>
  va_getN S.1 S.2.1 S.2.2.2.2 hin S.2.2.2.1 hK hP kq (by rw [mm_get hkq, hce]) hc j hj hlink hsame hv d (kk hk H locs ls hl hP hS)
theorem v_putN (S : CallFix p m c cc nL s args Ts own) {ref C : String} {T : u_T} {Nf ci index : Nat} {tys : List (ClassId × FieldType)} (hin : ∀ w ∈ u_ws C T Nf, w ∈ Ts) (hK : va_K D cl tys s) (kq : Nat) (hkq : kq < N) {fs : List Value} (hce : ce kq (σ kq) = .inr (ci, fs)) (hc : cl[ci]? = some (C, T, Nf)) (j : Nat) (hj : j < Nf) {host : String} (hlink : (Cond.fieldLinkNest own index ref (T j).2.1 (T j).2.2.1 host).before args s = true) (hsame : ∀ x, s.fieldFound? (T j).1 (T j).2.1 (T j).2.2.1 = some x → s.fieldFound? ref (T j).2.1 (T j).2.2.1 = some x) (ty0 : Nat → FieldType) (hty : ∀ k, k < Nf → parseFieldDescriptor (T k).2.2.1 = some (ty0 k)) (hnm : ∀ a, a < Nf → ∀ b, b < Nf → a ≠ b → (T a).2.1 ≠ (T b).2.1) (hfin : (T j).2.2.2 = false) {ty : FieldType} {v : Value} (hd : parseFieldDescriptor (T j).2.2.1 = some ty) (hn : narrow ty v = v) (hfit : fits ty v = true) (hl0 : j < fs.length) (f : Nat → Int32) (he : .inr (ci, fs.set j v) = ce kq f) (d : decode cc pc = .ok (.putfield index, 3))
    (kk : vv p l e R s m args below meth c D cl b N ce nL Q fin k (va_up σ kq f) (pc + 3) L rest) : vv p l e R s m args below meth c D cl b N ce nL Q fin k σ pc L (v :: .ref (b + kq) :: rest) := fun hk H locs ls hl hP hS =>
  va_putN S.1 S.2.1 S.2.2.2.2 hin ty0 hty hnm S.2.2.2.1 hK hP mm_D hS kq (by rw [mm_get hkq, hce]) hc j hj hlink hsame hfin hd hn hfit hl0 d (fun H1 locs1 hP1 _ hS1 => kk hk H1 locs1 ls hl (mm_P.put f he hP1) hS1)
theorem v_iald (S : CallFix p m c cc nL s args Ts own) {tys : List (ClassId × FieldType)} (hK : va_K D cl tys s) (kq t0 : Nat) (hkq : kq < N) {cA : ClassId} {n : Nat} (hce : ce kq (σ kq) = .inl (cA, n, .inl (σ kq))) (ht : tys[t0]? = some (cA, .int)) {i : Int32} (d : decode cc pc = .ok (.iaload, 1))
    (kk : ¬ (i < 0 ∨ n ≤ i.toNatClampNeg) → vv p l e R s m args below meth c D cl b N ce nL Q fin k σ (pc + 1) L (.int (σ kq i.toNatClampNeg) :: rest)) : vv p l e R s m args below meth c D cl b N ce nL Q fin (if (i < 0 ∨ n ≤ i.toNatClampNeg) then none else k) σ pc L (.int i :: .ref (b + kq) :: rest) := fun hk H locs ls hl hP hS => by
  by_cases h : (i < 0 ∨ n ≤ i.toNatClampNeg)
  · rw [if_pos h] at hk; cases hk
  · rw [if_neg h] at hk
    exact va_iald S.1 S.2.1 hK hP kq t0 (by rw [mm_get hkq, hce]) ht h d (kk h hk H locs ls hl hP hS)
theorem v_zald (S : CallFix p m c cc nL s args Ts own) {tys : List (ClassId × FieldType)} (hK : va_K D cl tys s) (kq t0 : Nat) (hkq : kq < N) {cA : ClassId} {n : Nat} (hce : ce kq (σ kq) = .inl (cA, n, .inl (σ kq))) (ht : tys[t0]? = some (cA, .boolean)) {i : Int32} (d : decode cc pc = .ok (.baload, 1))
    (kk : ¬ (i < 0 ∨ n ≤ i.toNatClampNeg) → vv p l e R s m args below meth c D cl b N ce nL Q fin k σ (pc + 1) L (.int (σ kq i.toNatClampNeg) :: rest)) : vv p l e R s m args below meth c D cl b N ce nL Q fin (if (i < 0 ∨ n ≤ i.toNatClampNeg) then none else k) σ pc L (.int i :: .ref (b + kq) :: rest) := fun hk H locs ls hl hP hS => by
  by_cases h : (i < 0 ∨ n ≤ i.toNatClampNeg)
  · rw [if_pos h] at hk; cases hk
  · rw [if_neg h] at hk
    exact va_zald S.1 S.2.1 hK hP kq t0 (by rw [mm_get hkq, hce]) ht h d (kk h hk H locs ls hl hP hS)
theorem v_iast (S : CallFix p m c cc nL s args Ts own) {tys : List (ClassId × FieldType)} (hK : va_K D cl tys s) (kq t0 : Nat) (hkq : kq < N) {cA : ClassId} {n : Nat} (hce : ∀ f, ce kq f = .inl (cA, n, .inl f)) (ht : tys[t0]? = some (cA, .int)) {i x : Int32} (d : decode cc pc = .ok (.iastore, 1))
    (kk : ¬ (i < 0 ∨ n ≤ i.toNatClampNeg) → vv p l e R s m args below meth c D cl b N ce nL Q fin k (va_up σ kq (upd (σ kq) i.toNatClampNeg x)) (pc + 1) L rest) : vv p l e R s m args below meth c D cl b N ce nL Q fin (if (i < 0 ∨ n ≤ i.toNatClampNeg) then none else k) σ pc L (.int x :: .int i :: .ref (b + kq) :: rest) := fun hk H locs ls hl hP hS => by
  by_cases h : (i < 0 ∨ n ≤ i.toNatClampNeg)
  · rw [if_pos h] at hk; cases hk
  · rw [if_neg h] at hk
    exact va_iast S.1 S.2.1 hK hP mm_D hS kq t0 (by rw [mm_get hkq, hce]) ht h d (fun H1 locs1 hP1 _ hS1 => kk h hk H1 locs1 ls hl (mm_P.put _ (hce _).symm hP1) hS1)
theorem v_zast (S : CallFix p m c cc nL s args Ts own) {tys : List (ClassId × FieldType)} (hK : va_K D cl tys s) (kq t0 : Nat) (hkq : kq < N) {cA : ClassId} {n : Nat} (hce : ∀ f, ce kq f = .inl (cA, n, .inl f)) (ht : tys[t0]? = some (cA, .boolean)) {i x : Int32} (d : decode cc pc = .ok (.bastore, 1))
    (kk : ¬ (i < 0 ∨ n ≤ i.toNatClampNeg) → vv p l e R s m args below meth c D cl b N ce nL Q fin k (va_up σ kq (upd (σ kq) i.toNatClampNeg (vp_nar .boolean x))) (pc + 1) L rest) : vv p l e R s m args below meth c D cl b N ce nL Q fin (if (i < 0 ∨ n ≤ i.toNatClampNeg) then none else k) σ pc L (.int x :: .int i :: .ref (b + kq) :: rest) := fun hk H locs ls hl hP hS => by
  by_cases h : (i < 0 ∨ n ≤ i.toNatClampNeg)
  · rw [if_pos h] at hk; cases hk
  · rw [if_neg h] at hk
    exact va_zast S.1 S.2.1 hK hP mm_D hS kq t0 (by rw [mm_get hkq, hce]) ht h d (fun H1 locs1 hP1 _ hS1 => kk h hk H1 locs1 ls hl (mm_P.put _ (hce _).symm hP1) hS1)
end VV1
def bd {α β : Type} (o : Option (α × mm_M)) (k : α → mm_M → Option β) : Option β := match o with
  | none => none
  | some x => k x.1 x.2
def bv {β : Type} (o : Option mm_M) (k : mm_M → Option β) : Option β := match o with
  | none => none
  | some x => k x
/-- what a method's start knows of the tables and constants: it moves with the walk -/
def kk_ok (b N : Nat) (KK : State → Prop) : Prop := (∀ u U : State, KK u → u.WarmedH U.vm → (∀ a : Nat, a < u.heap.size → ¬ mm_A b N a → U.heap[a]? = u.heap[a]?) → KK U) ∧ ∀ (U : State) (g : JFrame) (mk : MethodId) (a : Array Value), KK U → KK (U.calling g mk a)
abbrev qc_i (D : va_G) (cl : List vw_C) (b N : Nat) (ce : Nat → (Nat → Int32) → va_E) (r : Int32) (σ' : mm_M) : Array Value → State → Outcome → State → Prop := va_Qi (fun r' (u : mm_M) => r' = r ∧ u = σ') (fun u t => mm_P D cl b N ce u t.heap) (mm_A b N)
abbrev qc_v (D : va_G) (cl : List vw_C) (b N : Nat) (ce : Nat → (Nat → Int32) → va_E) (σ' : mm_M) : Array Value → State → Outcome → State → Prop := va_Qv (fun (u : mm_M) => u = σ') (fun u t => mm_P D cl b N ce u t.heap) (mm_A b N)
abbrev qc_a (D : va_G) (cl : List vw_C) (b N : Nat) (ce : Nat → (Nat → Int32) → va_E) (ra : Nat) (σ' : mm_M) : Array Value → State → Outcome → State → Prop := va_Qr (fun (u : mm_M) => u = σ') (fun u a t => a = ra ∧ mm_P D cl b N ce u t.heap) (mm_A b N)
abbrev pc_w (D : va_G) (cl : List vw_C) (b N : Nat) (ce : Nat → (Nat → Int32) → va_E) (KK : State → Prop) (av : List Value) (σ : mm_M) : Array Value → State → Prop := va_Pc av (fun U => mm_P D cl b N ce σ U.heap ∧ KK U)
/-- the contract of a method over the world: with these arguments, from σ, it answers r and leaves σ' -/
def ct_i (l : Launch) (D : va_G) (cl : List vw_C) (b N : Nat) (ce : Nat → (Nat → Int32) → va_E) (KK : State → Prop) (y : MethodName) (ws : List Cond) (rm : Room) (av : List Value) (σ : mm_M) (r : Int32) (σ' : mm_M) : Prop := Met l y ws rm (pc_w D cl b N ce KK av σ) (qc_i D cl b N ce r σ') 0 0 (mm_A b N)
def ct_v (l : Launch) (D : va_G) (cl : List vw_C) (b N : Nat) (ce : Nat → (Nat → Int32) → va_E) (KK : State → Prop) (y : MethodName) (ws : List Cond) (rm : Room) (av : List Value) (σ σ' : mm_M) : Prop := Met l y ws rm (pc_w D cl b N ce KK av σ) (qc_v D cl b N ce σ') 0 0 (mm_A b N)
def ct_a (l : Launch) (D : va_G) (cl : List vw_C) (b N : Nat) (ce : Nat → (Nat → Int32) → va_E) (KK : State → Prop) (y : MethodName) (ws : List Cond) (rm : Room) (av : List Value) (σ : mm_M) (ra : Nat) (σ' : mm_M) : Prop := Met l y ws rm (pc_w D cl b N ce KK av σ) (qc_a D cl b N ce ra σ') 0 0 (mm_A b N)
theorem lo_entry (vs : List Value) (h : ∀ v ∈ vs, v.category = 1) {n : Nat} (hn : vs.length ≤ n) : lo_ok ((vs.map Slot.val ++ List.replicate (n - vs.length) Slot.unset).toArray) n (vs.map some) := by
  have hg : ∀ (i : Nat) (z : Slot), ((vs.map Slot.val ++ List.replicate (n - vs.length) Slot.unset).toArray)[i]? = some z → (∃ v ∈ vs, z = .val v) ∨ z = .unset := by
    intro i z hz
    have hm : z ∈ vs.map Slot.val ++ List.replicate (n - vs.length) Slot.unset := by
      rw [List.getElem?_toArray] at hz
      exact List.mem_of_getElem? hz
    rcases List.mem_append.mp hm with h1 | h1
    · obtain ⟨v, hv, rfl⟩ := List.mem_map.mp h1
      exact Or.inl ⟨v, hv, rfl⟩
    · exact Or.inr (List.eq_of_mem_replicate h1)
  refine ⟨by simp; omega, ⟨fun i v hv hc => ?_, fun i hi => ?_⟩, fun i v hi => ?_⟩
  · rcases hg i _ hv with ⟨w, hw, e⟩ | e
    · cases e
      rw [h v hw] at hc
      cases hc
    · cases e
  · rcases hg i _ hi with ⟨w, hw, e⟩ | e <;> cases e
  · rw [List.getElem?_map] at hi
    cases hq : vs[i]? with
    | none => rw [hq] at hi; cases hi
    | some w =>
      rw [hq] at hi
      cases hi
      refine ⟨h _ (List.mem_of_getElem? hq), ?_⟩
      have hlt : i < (vs.map Slot.val).length := by rw [List.length_map]; exact (List.getElem?_eq_some_iff.mp hq).1
      rw [List.getElem?_toArray, List.getElem?_append_left hlt, List.getElem?_map, hq]
      rfl
section VV2
variable {l : Launch} {D : va_G} {cl : List vw_C} {b N : Nat} {ce : Nat → (Nat → Int32) → va_E} {KK : State → Prop} {y : MethodName} {ws ws' : List Cond} {rm : Room} {av : List Value} {σ σ' : mm_M} {r : Int32} {ra : Nat} {cc : ByteArray} {maxL : Nat}
theorem vv_go {Qc : Array Value → State → Outcome → State → Prop} {ret : Option FieldType} {Res : Type} {k : Option Res} {fin : Res} (hy : plainName y.cls = true) (hw : ws = Cond.code y cc maxL ret :: ws') (hav : ∀ v ∈ av, v.category = 1) (hn : av.length ≤ maxL) (hk : k = some fin)
    (body : ∀ (p : Program) (e : Env) (s : State) (m : MethodId) (below : List Frame) (meth : Method) (c : Code), meth.locks = false → meth.sig.returnType = ret → CallFix p m c cc maxL s av.toArray ws y.cls → KK s →
      vv p l e (headSpec ws rm).room s m av.toArray below meth c D cl b N ce maxL (MQ below Qc av.toArray s 0 0 (mm_A b N)) fin k σ 0 (av.map some) []) : Met l y ws rm (pc_w D cl b N ce KK av σ) Qc 0 0 (mm_A b N) := by
  refine Met.ofW (cc := cc) (maxL := maxL) (ret := ret) hy hw ?_
  intro p e s m args below meth c s₁ B hml hv
  obtain ⟨rfl, hP, hKK⟩ := hv
  rw [entry_eq m av hav maxL]
  exact body p e s m below meth c B.notSynchronized B.returns ⟨B.exec, B.bytes, hml, findClass_of_methodNamed B.named, atoms_spec (ws := ws) B.pre⟩ hKK hk s.heap [] _ (lo_entry av hav hn) hP va_S.rf
end VV2
section VV3
variable {Res : Type} {p : Program} {l : Launch} {e : Env} {R : Room} {s : State} {m : MethodId} {args : Array Value} {below : List Frame} {meth : Method} {c : Code} {D : va_G} {cl : List vw_C} {b N : Nat} {ce : Nat → (Nat → Int32) → va_E} {nL : Nat} {Q : State → Prop} {fin : Res} {k A B : Option Res} {σ σ' : mm_M} {pc : Nat} {L L2 : List (Option Value)} {rest : List Value} {cc : ByteArray} {Ts : List Cond} {own : String} {r xv : Int32} {ra : Nat}
theorem v_iret (S : CallFix p m c cc nL s args Ts own) (hr : meth.sig.returnType = some .int) (hlocks : meth.locks = false) (d : decode cc pc = .ok (.ireturn, 1)) : vv p l e R s m args below meth c D cl b N ce nL (MQ below (qc_i D cl b N ce r σ') args s 0 0 (mm_A b N)) (r, σ') (some (xv, σ)) σ pc L [.int xv] := fun hk H locs ls hl hP hS =>
  W.iret S.1 S.2.1 hr (fun t ht hW => ⟨⟨xv, σ, rfl, ⟨congrArg Prod.fst (Option.some.inj hk), congrArg Prod.snd (Option.some.inj hk)⟩, by show mm_P D cl b N ce σ t.heap; rw [ht]; exact hP⟩, hS.F ht⟩) hS.2.2 d hlocks
theorem v_zret (S : CallFix p m c cc nL s args Ts own) (hr : meth.sig.returnType = some .boolean) (hlocks : meth.locks = false) (d : decode cc pc = .ok (.ireturn, 1)) : vv p l e R s m args below meth c D cl b N ce nL (MQ below (qc_i D cl b N ce r σ') args s 0 0 (mm_A b N)) (r, σ') (if xv = 0 ∨ xv = 1 then some (xv, σ) else none) σ pc L [.int xv] := fun hk H locs ls hl hP hS => by
  by_cases h : xv = 0 ∨ xv = 1
  · rw [if_pos h] at hk
    exact W.zret S.1 S.2.1 hr (by rcases h with rfl | rfl <;> rfl) (fun t ht hW => ⟨⟨xv, σ, rfl, ⟨congrArg Prod.fst (Option.some.inj hk), congrArg Prod.snd (Option.some.inj hk)⟩, by show mm_P D cl b N ce σ t.heap; rw [ht]; exact hP⟩, hS.F ht⟩) hS.2.2 d hlocks
  · rw [if_neg h] at hk
    cases hk
theorem v_vret (S : CallFix p m c cc nL s args Ts own) (hr : meth.sig.returnType = none) (hlocks : meth.locks = false) (d : decode cc pc = .ok (.return_, 1)) : vv p l e R s m args below meth c D cl b N ce nL (MQ below (qc_v D cl b N ce σ') args s 0 0 (mm_A b N)) σ' (some σ) σ pc L [] := fun hk H locs ls hl hP hS =>
  W.vret S.1 S.2.1 hr (fun t ht hW => ⟨⟨σ, rfl, Option.some.inj hk, by show mm_P D cl b N ce σ t.heap; rw [ht]; exact hP⟩, hS.F ht⟩) hS.2.2 d hlocks
theorem v_aret {nm : String} {ri : Nat} (ad : Nat → Nat) (S : CallFix p m c cc nL s args Ts own) (hr : meth.sig.returnType = some (.object nm)) (hlocks : meth.locks = false) {i : Nat} (d : decode cc pc = .ok (.areturn, 1)) : vv p l e R s m args below meth c D cl b N ce nL (MQ below (qc_a D cl b N ce (ad ri) σ') args s 0 0 (mm_A b N)) (ri, σ') (some (i, σ)) σ pc L [.ref (ad i)] := fun hk H locs ls hl hP hS =>
  W.aret S.1 S.2.1 hr (Or.inl ⟨nm, rfl⟩) (Or.inr ⟨_, rfl⟩) (fun t ht hW => ⟨⟨σ, ad i, rfl, congrArg Prod.snd (Option.some.inj hk), congrArg (fun z => ad z.1) (Option.some.inj hk), by show mm_P D cl b N ce σ t.heap; rw [ht]; exact hP⟩, hS.F ht⟩) hS.2.2 d hlocks
theorem v_ci {g : Option (Int32 × mm_M)} {kf : Int32 → mm_M → Option Res} {st0 : List Value} {av : Array Value}
    (hr : ∀ (r1 : Int32) (σ1 : mm_M), g = some (r1, σ1) → ∀ (H : Heap) (locs : List Loc) (ls : Array Slot), ls.size = nL → mm_P D cl b N ce σ H → va_S (mm_A b N) s.heap H locs → va_Run p l e R s m args below meth c H locs 0 0 0 0 (F0 m pc ls st0) rest (qc_i D cl b N ce r1 σ1 av) (mm_A b N))
    (kk : ∀ (r1 : Int32) (σ1 : mm_M), g = some (r1, σ1) → vv p l e R s m args below meth c D cl b N ce nL Q fin (kf r1 σ1) σ1 (pc + 3) L (.int r1 :: rest)) : vv p l e R s m args below meth c D cl b N ce nL Q fin (bd g kf) σ pc L st0 := by
  intro hk H locs ls hl hP hS
  cases hg : g with
  | none => rw [hg] at hk; cases hk
  | some z =>
    obtain ⟨r1, σ1⟩ := z
    rw [hg] at hk
    refine va_calli (hr r1 σ1 hg H locs ls hl.1 hP hS) hS (fun q _ h => h) (fun q h => h) (fun r u t H1 locs1 ht hvm hp hB hz hk1 hS1 => ?_)
    obtain ⟨rfl, rfl⟩ := hp
    exact kk r u hg hk H1 locs1 ls hl (by rw [← ht]; exact hB) hS1
theorem v_cv {g : Option mm_M} {kf : mm_M → Option Res} {st0 : List Value} {av : Array Value}
    (hr : ∀ (σ1 : mm_M), g = some σ1 → ∀ (H : Heap) (locs : List Loc) (ls : Array Slot), ls.size = nL → mm_P D cl b N ce σ H → va_S (mm_A b N) s.heap H locs → va_Run p l e R s m args below meth c H locs 0 0 0 0 (F0 m pc ls st0) rest (qc_v D cl b N ce σ1 av) (mm_A b N))
    (kk : ∀ (σ1 : mm_M), g = some σ1 → vv p l e R s m args below meth c D cl b N ce nL Q fin (kf σ1) σ1 (pc + 3) L rest) : vv p l e R s m args below meth c D cl b N ce nL Q fin (bv g kf) σ pc L st0 := by
  intro hk H locs ls hl hP hS
  cases hg : g with
  | none => rw [hg] at hk; cases hk
  | some σ1 =>
    rw [hg] at hk
    refine va_callv (hr σ1 hg H locs ls hl.1 hP hS) hS (fun q _ h => h) (fun q h => h) (fun u t H1 locs1 ht hvm hp hB hz hk1 hS1 => ?_)
    obtain rfl := hp
    exact kk u hg hk H1 locs1 ls hl (by rw [← ht]; exact hB) hS1
theorem v_ca {g : Option (Nat × mm_M)} {kf : Nat → mm_M → Option Res} {st0 : List Value} {av : Array Value} (ad : Nat → Nat)
    (hr : ∀ (r1 : Nat) (σ1 : mm_M), g = some (r1, σ1) → ∀ (H : Heap) (locs : List Loc) (ls : Array Slot), ls.size = nL → mm_P D cl b N ce σ H → va_S (mm_A b N) s.heap H locs → va_Run p l e R s m args below meth c H locs 0 0 0 0 (F0 m pc ls st0) rest (qc_a D cl b N ce (ad r1) σ1 av) (mm_A b N))
    (kk : ∀ (r1 : Nat) (σ1 : mm_M), g = some (r1, σ1) → vv p l e R s m args below meth c D cl b N ce nL Q fin (kf r1 σ1) σ1 (pc + 3) L (.ref (ad r1) :: rest)) : vv p l e R s m args below meth c D cl b N ce nL Q fin (bd g kf) σ pc L st0 := by
  intro hk H locs ls hl hP hS
  cases hg : g with
  | none => rw [hg] at hk; cases hk
  | some z =>
    obtain ⟨r1, σ1⟩ := z
    rw [hg] at hk
    refine va_callr (hr r1 σ1 hg H locs ls hl.1 hP hS) hS (fun q _ h => h) (fun q h => h) (fun u ra t H1 locs1 ht hvm hp hB hz hk1 hS1 => ?_)
    obtain rfl := hp
    obtain ⟨rfl, hB⟩ := hB
    exact kk r1 u hg hk H1 locs1 ls hl (by rw [← ht]; exact hB) hS1
end VV3
section VV4
variable {p : Program} {l : Launch} {e : Env} {R : Room} {s : State} {m : MethodId} {args : Array Value} {below : List Frame} {meth : Method} {c : Code} {D : va_G} {cl : List vw_C} {b N : Nat} {ce : Nat → (Nat → Int32) → va_E} {nL : Nat} {KK : State → Prop} {σ : mm_M} {pc : Nat} {rest : List Value} {cc : ByteArray} {Ts : List Cond} {own C host : String} {H : Heap} {locs : List Loc} {ls : Array Slot} {y : MethodName} {bytes : ByteArray} {maxL n index : Nat} {ret : Option FieldType} {ws : List Cond} {rm : Room} {As st0 : List Value} {Qc : Array Value → State → Outcome → State → Prop}
theorem pw_pre {av : List Value} (hkk : kk_ok b N KK) (hK : KK s) (hP : mm_P D cl b N ce σ H) (hS : va_S (mm_A b N) s.heap H locs) : FrameBlind (pc_w D cl b N ce KK av σ) ∧ ∀ U : State, U.heap = H → s.WarmedH U.vm → pc_w D cl b N ce KK av σ av.toArray U := by
  refine ⟨fun a U g mk q => ⟨q.1, q.2.1, hkk.2 U g mk a q.2.2⟩, fun U hU hW => ⟨rfl, by rw [hU]; exact hP, hkk.1 s U hK hW (fun a h1 h2 => by rw [hU]; exact hS.2.1 a h1 h2)⟩⟩
theorem run_S (S : CallFix p m c cc nL s args Ts own) (hkk : kk_ok b N KK) (hK : KK s) (hM : Met l y ws rm (pc_w D cl b N ce KK As σ) Qc 0 0 (mm_A b N)) (cw : CallB R s args own index y bytes maxL ret ws rm 0 0 n ∧ (Cond.static y).before args s = true) (hn : As.length = n) (hst : st0 = As.reverse ++ rest) (hw : (rest.map fun v => v.category).sum ≤ 8) (d : decode cc pc = .ok (.invokestatic index, 3)) (hsz : ls.size = nL) (hP : mm_P D cl b N ce σ H) (hS : va_S (mm_A b N) s.heap H locs) :
    va_Run p l e R s m args below meth c H locs 0 0 0 0 (F0 m pc ls st0) rest (Qc As.toArray) (mm_A b N) := va_runS S hM cw (pw_pre hkk hK hP hS) rfl hn hsz hst (lv_room hw) d ⟨Nat.zero_le _, Nat.zero_le _⟩
theorem run_SN (S : CallFix p m c cc nL s args Ts own) (hkk : kk_ok b N KK) (hK : KK s) (hM : Met l y ws rm (pc_w D cl b N ce KK As σ) Qc 0 0 (mm_A b N)) (cw : va_CN R s args own index y host bytes maxL ret ws rm 0 0 n ∧ (Cond.static y).before args s = true ∧ True) (hn : As.length = n) (hst : st0 = As.reverse ++ rest) (hw : (rest.map fun v => v.category).sum ≤ 8) (d : decode cc pc = .ok (.invokestatic index, 3)) (hsz : ls.size = nL) (hP : mm_P D cl b N ce σ H) (hS : va_S (mm_A b N) s.heap H locs) :
    va_Run p l e R s m args below meth c H locs 0 0 0 0 (F0 m pc ls st0) rest (Qc As.toArray) (mm_A b N) := va_runSN S hM cw (pw_pre hkk hK hP hS) rfl hn hsz hst (lv_room hw) d ⟨Nat.zero_le _, Nat.zero_le _⟩
theorem run_V {a : Nat} (S : CallFix p m c cc nL s args Ts own) (hkk : kk_ok b N KK) (hK : KK s) (hM : Met l y ws rm (pc_w D cl b N ce KK (.ref a :: As) σ) Qc 0 0 (mm_A b N)) (cw : CallW R s args own C index y bytes maxL ret ws rm 0 0 n) (hrc : ∃ cellB : Cell, H[a]? = some cellB ∧ cellB.vm.isStatics = false ∧ s.vm.findClass C = some cellB.cls) (hn : As.length = n) (hst : st0 = As.reverse ++ .ref a :: rest) (hw : (rest.map fun v => v.category).sum ≤ 8) (d : decode cc pc = .ok (.invokevirtual index, 3)) (hsz : ls.size = nL) (hP : mm_P D cl b N ce σ H) (hS : va_S (mm_A b N) s.heap H locs) :
    va_Run p l e R s m args below meth c H locs 0 0 0 0 (F0 m pc ls st0) rest (Qc (Value.ref a :: As).toArray) (mm_A b N) := va_runV S hM cw ⟨(pw_pre (av := .ref a :: As) hkk hK hP hS).1, hrc, (pw_pre (av := .ref a :: As) hkk hK hP hS).2⟩ rfl hn hsz hst (lv_room hw) d ⟨Nat.zero_le _, Nat.zero_le _⟩
theorem run_VN {a : Nat} (S : CallFix p m c cc nL s args Ts own) (hkk : kk_ok b N KK) (hK : KK s) (hM : Met l y ws rm (pc_w D cl b N ce KK (.ref a :: As) σ) Qc 0 0 (mm_A b N)) (cw : va_CN R s args own index y host bytes maxL ret ws rm 0 0 n ∧ (Cond.instanceMethod y).before args s = true ∧ (Cond.selects C y y).before args s = true) (hrc : ∃ cellB : Cell, H[a]? = some cellB ∧ cellB.vm.isStatics = false ∧ s.vm.findClass C = some cellB.cls) (hn : As.length = n) (hst : st0 = As.reverse ++ .ref a :: rest) (hw : (rest.map fun v => v.category).sum ≤ 8) (d : decode cc pc = .ok (.invokevirtual index, 3)) (hsz : ls.size = nL) (hP : mm_P D cl b N ce σ H) (hS : va_S (mm_A b N) s.heap H locs) :
    va_Run p l e R s m args below meth c H locs 0 0 0 0 (F0 m pc ls st0) rest (Qc (Value.ref a :: As).toArray) (mm_A b N) := va_runVN S hM cw ⟨(pw_pre (av := .ref a :: As) hkk hK hP hS).1, hrc, (pw_pre (av := .ref a :: As) hkk hK hP hS).2⟩ rfl hn hsz hst (lv_room hw) d ⟨Nat.zero_le _, Nat.zero_le _⟩
theorem rc_w {tys : List (ClassId × FieldType)} (hK : va_K D cl tys s) (hP : mm_P D cl b N ce σ H) (kq : Nat) (hkq : kq < N) {ci : Nat} {fs : List Value} {q : vw_C} (hce : ce kq (σ kq) = .inr (ci, fs)) (hc : cl[ci]? = some q) : ∃ cellB : Cell, H[b + kq]? = some cellB ∧ cellB.vm.isStatics = false ∧ s.vm.findClass q.1 = some cellB.cls := by
  obtain ⟨r, h1, cell, q1, q2, q3, q4⟩ := hP kq (b + kq, .inr (ci, fs)) (by rw [mm_get hkq, hce])
  obtain ⟨hS, hfc, -⟩ := hK.1 ci _ hc
  exact ⟨cell, q1, by rw [q3]; rfl, by rw [q2]; exact hfc⟩
end VV4
end
section
/-! part 03: names, field tables, the one word list, call rows; written by wip/whole/names.py -/
def wG : List Cond := lw_tbl.filter goodWord
theorem wg_t {w : Cond} (i : Nat) (h : tables_1[i]? = some w) (hg : goodWord w = true) : w ∈ wG := List.mem_filter.mpr ⟨List.mem_append_right _ (List.mem_of_getElem? h), hg⟩
theorem wg_s {q : MethodName × Nat} (i : Nat) (h : lw_privs[i]? = some q) (hg : goodWord (Cond.selects q.1.cls q.1 q.1) = true) : Cond.selects q.1.cls q.1 q.1 ∈ wG := List.mem_filter.mpr ⟨List.mem_append_left _ (List.mem_map.mpr ⟨q, List.mem_of_getElem? h, rfl⟩), hg⟩
theorem wg_in {Ts : List Cond} {y : MethodName} {b : ByteArray} {n : Nat} {r : Option FieldType} (h : ∀ w ∈ wG, w ∈ Ts) (hc : Cond.code y b n r ∈ wG) : GoodIn Ts (Cond.code y b n r :: wG) := by
  intro w hw
  have h1 : w ∈ wG := by
    rcases List.mem_cons.mp hw with rfl | h1
    · exact hc
    · exact h1
  exact ⟨h w h1, good_of_word (List.mem_filter.mp h1).2⟩
theorem cb_G {R : Room} {s : State} {args : Array Value} {own : String} {index : Nat} {y : MethodName} {bytes : ByteArray} {maxL n : Nat} {ret : Option FieldType} {rm : Room} {Ts : List Cond} (hts : ∀ w ∈ Ts, w.before args s = true) (hsub : ∀ w ∈ wG, w ∈ Ts) (hc : Cond.code y bytes maxL ret ∈ wG) (hini : Cond.initialized y.cls ∈ wG) (hl : Cond.methodLink own index y ∈ wG)
    (hd : y.cls ≠ "java/lang/invoke/MethodHandle" ∧ y.cls ≠ "java/lang/invoke/VarHandle" ∧ (parseMethodDescriptor y.desc).map (fun d => d.parameters.length) = some n) (hrc : rm.cells = 0) (hrs : rm.slots = 0) (hR : rm.frames + 1 ≤ R.frames ∧ 8 + (maxL + 11) + rm.locals ≤ R.locals) : CallB R s args own index y bytes maxL ret (Cond.code y bytes maxL ret :: wG) rm 0 0 n :=
  callB_of n hts (wg_in hsub hc) rfl hrc hrs (hts _ (hsub _ hini)) (hts _ (hsub _ hl)) hd hR
def F_FV : u_T := fun k => match k with
  | 0 => ("FrameVerifier", "code", "LFrameVerifier$Code;", true)
  | 1 => ("FrameVerifier", "flow", "LFrameVerifier$Flow;", true)
  | 2 => ("FrameVerifier", "machine", "LFrameVerifier$Machine;", true)
  | _ => ("FrameVerifier", "verified", "Z", false)
def t_FV : Nat → FieldType := fun k => match k with
  | 0 => (.object "FrameVerifier$Code")
  | 1 => (.object "FrameVerifier$Flow")
  | 2 => (.object "FrameVerifier$Machine")
  | _ => .boolean
theorem n_FV : ∀ a, a < 4 → ∀ b, b < 4 → a ≠ b → (F_FV a).2.1 ≠ (F_FV b).2.1 := by decide +kernel
theorem t_FV_ok : ∀ k, k < 4 → parseFieldDescriptor (F_FV k).2.2.1 = some (t_FV k) := by decide +kernel
theorem i_FV : ∀ w ∈ u_ws "FrameVerifier" F_FV 4, w ∈ wG := by
  intro w hw
  obtain ⟨k, hk, rfl⟩ := List.mem_map.mp hw
  have hk := List.mem_range.mp hk
  exact (show ∀ k, k < 4 → u_lay "FrameVerifier" F_FV k ∈ wG from fun k hk => wg_t ([147, 149, 151, 153].getD k 0) ((show ∀ k, k < 4 → tables_1[[147, 149, 151, 153].getD k 0]? = some (u_lay "FrameVerifier" F_FV k) by decide +kernel) k hk) ((show ∀ k, k < 4 → goodWord (u_lay "FrameVerifier" F_FV k) = true by decide +kernel) k hk)) k hk
def F_Co : u_T := fun k => match k with
  | 0 => ("FrameVerifier$Code", "count", "I", false)
  | 1 => ("FrameVerifier$Code", "ops", "[I", true)
  | 2 => ("FrameVerifier$Code", "numbers", "[I", true)
  | 3 => ("FrameVerifier$Code", "told", "[Z", true)
  | 4 => ("FrameVerifier$Code", "starts", "[I", true)
  | 5 => ("FrameVerifier$Code", "parameters", "[I", true)
  | _ => ("FrameVerifier$Code", "kinds", "[I", true)
def t_Co : Nat → FieldType := fun k => match k with
  | 0 => .int
  | 1 => (.array .int)
  | 2 => (.array .int)
  | 3 => (.array .boolean)
  | 4 => (.array .int)
  | 5 => (.array .int)
  | _ => (.array .int)
theorem n_Co : ∀ a, a < 7 → ∀ b, b < 7 → a ≠ b → (F_Co a).2.1 ≠ (F_Co b).2.1 := by decide +kernel
theorem t_Co_ok : ∀ k, k < 7 → parseFieldDescriptor (F_Co k).2.2.1 = some (t_Co k) := by decide +kernel
theorem i_Co : ∀ w ∈ u_ws "FrameVerifier$Code" F_Co 7, w ∈ wG := by
  intro w hw
  obtain ⟨k, hk, rfl⟩ := List.mem_map.mp hw
  have hk := List.mem_range.mp hk
  exact (show ∀ k, k < 7 → u_lay "FrameVerifier$Code" F_Co k ∈ wG from fun k hk => wg_t ([49, 51, 53, 55, 57, 59, 61].getD k 0) ((show ∀ k, k < 7 → tables_1[[49, 51, 53, 55, 57, 59, 61].getD k 0]? = some (u_lay "FrameVerifier$Code" F_Co k) by decide +kernel) k hk) ((show ∀ k, k < 7 → goodWord (u_lay "FrameVerifier$Code" F_Co k) = true by decide +kernel) k hk)) k hk
def F_Fl : u_T := fun k => match k with
  | 0 => ("FrameVerifier$Flow", "code", "LFrameVerifier$Code;", true)
  | 1 => ("FrameVerifier$Flow", "known", "[Z", true)
  | 2 => ("FrameVerifier$Flow", "states", "[[I", true)
  | 3 => ("FrameVerifier$Flow", "waiting", "[Z", true)
  | _ => ("FrameVerifier$Flow", "waitingFrom", "I", false)
def t_Fl : Nat → FieldType := fun k => match k with
  | 0 => (.object "FrameVerifier$Code")
  | 1 => (.array .boolean)
  | 2 => (.array (.array .int))
  | 3 => (.array .boolean)
  | _ => .int
theorem n_Fl : ∀ a, a < 5 → ∀ b, b < 5 → a ≠ b → (F_Fl a).2.1 ≠ (F_Fl b).2.1 := by decide +kernel
theorem t_Fl_ok : ∀ k, k < 5 → parseFieldDescriptor (F_Fl k).2.2.1 = some (t_Fl k) := by decide +kernel
theorem i_Fl : ∀ w ∈ u_ws "FrameVerifier$Flow" F_Fl 5, w ∈ wG := by
  intro w hw
  obtain ⟨k, hk, rfl⟩ := List.mem_map.mp hw
  have hk := List.mem_range.mp hk
  exact (show ∀ k, k < 5 → u_lay "FrameVerifier$Flow" F_Fl k ∈ wG from fun k hk => wg_t ([79, 81, 83, 85, 87].getD k 0) ((show ∀ k, k < 5 → tables_1[[79, 81, 83, 85, 87].getD k 0]? = some (u_lay "FrameVerifier$Flow" F_Fl k) by decide +kernel) k hk) ((show ∀ k, k < 5 → goodWord (u_lay "FrameVerifier$Flow" F_Fl k) = true by decide +kernel) k hk)) k hk
def F_Fr : u_T := fun k => match k with
  | 0 => ("FrameVerifier$Frame", "owner", "I", false)
  | 1 => ("FrameVerifier$Frame", "address", "I", false)
  | 2 => ("FrameVerifier$Frame", "types", "I", false)
  | _ => ("FrameVerifier$Frame", "values", "[I", true)
def t_Fr : Nat → FieldType := fun k => match k with
  | 0 => .int
  | 1 => .int
  | 2 => .int
  | _ => (.array .int)
theorem n_Fr : ∀ a, a < 4 → ∀ b, b < 4 → a ≠ b → (F_Fr a).2.1 ≠ (F_Fr b).2.1 := by decide +kernel
theorem t_Fr_ok : ∀ k, k < 4 → parseFieldDescriptor (F_Fr k).2.2.1 = some (t_Fr k) := by decide +kernel
theorem i_Fr : ∀ w ∈ u_ws "FrameVerifier$Frame" F_Fr 4, w ∈ wG := by
  intro w hw
  obtain ⟨k, hk, rfl⟩ := List.mem_map.mp hw
  have hk := List.mem_range.mp hk
  exact (show ∀ k, k < 4 → u_lay "FrameVerifier$Frame" F_Fr k ∈ wG from fun k hk => wg_t ([112, 114, 116, 118].getD k 0) ((show ∀ k, k < 4 → tables_1[[112, 114, 116, 118].getD k 0]? = some (u_lay "FrameVerifier$Frame" F_Fr k) by decide +kernel) k hk) ((show ∀ k, k < 4 → goodWord (u_lay "FrameVerifier$Frame" F_Fr k) = true by decide +kernel) k hk)) k hk
def F_Ma : u_T := fun k => match k with
  | 0 => ("FrameVerifier$Machine", "depth", "I", false)
  | 1 => ("FrameVerifier$Machine", "used", "I", false)
  | 2 => ("FrameVerifier$Machine", "result", "I", false)
  | 3 => ("FrameVerifier$Machine", "code", "LFrameVerifier$Code;", true)
  | 4 => ("FrameVerifier$Machine", "frames", "[LFrameVerifier$Frame;", true)
  | _ => ("FrameVerifier$Machine", "elements", "[I", true)
def t_Ma : Nat → FieldType := fun k => match k with
  | 0 => .int
  | 1 => .int
  | 2 => .int
  | 3 => (.object "FrameVerifier$Code")
  | 4 => (.array (.object "FrameVerifier$Frame"))
  | _ => (.array .int)
theorem n_Ma : ∀ a, a < 6 → ∀ b, b < 6 → a ≠ b → (F_Ma a).2.1 ≠ (F_Ma b).2.1 := by decide +kernel
theorem t_Ma_ok : ∀ k, k < 6 → parseFieldDescriptor (F_Ma k).2.2.1 = some (t_Ma k) := by decide +kernel
theorem i_Ma : ∀ w ∈ u_ws "FrameVerifier$Machine" F_Ma 6, w ∈ wG := by
  intro w hw
  obtain ⟨k, hk, rfl⟩ := List.mem_map.mp hw
  have hk := List.mem_range.mp hk
  exact (show ∀ k, k < 6 → u_lay "FrameVerifier$Machine" F_Ma k ∈ wG from fun k hk => wg_t ([130, 132, 134, 136, 138, 140].getD k 0) ((show ∀ k, k < 6 → tables_1[[130, 132, 134, 136, 138, 140].getD k 0]? = some (u_lay "FrameVerifier$Machine" F_Ma k) by decide +kernel) k hk) ((show ∀ k, k < 6 → goodWord (u_lay "FrameVerifier$Machine" F_Ma k) = true by decide +kernel) k hk)) k hk
def F_Mo : u_T := fun k => match k with
  | 0 => ("FrameVerifierModel", "instructions", "I", false)
  | 1 => ("FrameVerifierModel", "op", "[I", true)
  | 2 => ("FrameVerifierModel", "number", "[I", true)
  | 3 => ("FrameVerifierModel", "there", "[Z", true)
  | 4 => ("FrameVerifierModel", "start", "[I", true)
  | 5 => ("FrameVerifierModel", "parameters", "[I", true)
  | 6 => ("FrameVerifierModel", "kinds", "[I", true)
  | 7 => ("FrameVerifierModel", "verified", "Z", false)
  | 8 => ("FrameVerifierModel", "height", "[I", true)
  | 9 => ("FrameVerifierModel", "types", "[I", true)
  | 10 => ("FrameVerifierModel", "waits", "[Z", true)
  | 11 => ("FrameVerifierModel", "high", "I", false)
  | 12 => ("FrameVerifierModel", "row", "[I", true)
  | 13 => ("FrameVerifierModel", "bad", "Z", false)
  | 14 => ("FrameVerifierModel", "goesBehind", "Z", false)
  | 15 => ("FrameVerifierModel", "goesTo", "I", false)
  | 16 => ("FrameVerifierModel", "frames", "I", false)
  | 17 => ("FrameVerifierModel", "routineOf", "[I", true)
  | 18 => ("FrameVerifierModel", "at", "[I", true)
  | 19 => ("FrameVerifierModel", "heightOf", "[I", true)
  | 20 => ("FrameVerifierModel", "value", "[I", true)
  | 21 => ("FrameVerifierModel", "kind", "[I", true)
  | 22 => ("FrameVerifierModel", "elements", "I", false)
  | 23 => ("FrameVerifierModel", "heap", "[I", true)
  | 24 => ("FrameVerifierModel", "result", "I", false)
  | 25 => ("FrameVerifierModel", "trap", "I", false)
  | _ => ("FrameVerifierModel", "thrown", "I", false)
def t_Mo : Nat → FieldType := fun k => match k with
  | 0 => .int
  | 1 => (.array .int)
  | 2 => (.array .int)
  | 3 => (.array .boolean)
  | 4 => (.array .int)
  | 5 => (.array .int)
  | 6 => (.array .int)
  | 7 => .boolean
  | 8 => (.array .int)
  | 9 => (.array .int)
  | 10 => (.array .boolean)
  | 11 => .int
  | 12 => (.array .int)
  | 13 => .boolean
  | 14 => .boolean
  | 15 => .int
  | 16 => .int
  | 17 => (.array .int)
  | 18 => (.array .int)
  | 19 => (.array .int)
  | 20 => (.array .int)
  | 21 => (.array .int)
  | 22 => .int
  | 23 => (.array .int)
  | 24 => .int
  | 25 => .int
  | _ => .int
theorem n_Mo : ∀ a, a < 27 → ∀ b, b < 27 → a ≠ b → (F_Mo a).2.1 ≠ (F_Mo b).2.1 := by decide +kernel
theorem t_Mo_ok : ∀ k, k < 27 → parseFieldDescriptor (F_Mo k).2.2.1 = some (t_Mo k) := by decide +kernel
theorem i_Mo : ∀ w ∈ u_ws "FrameVerifierModel" F_Mo 27, w ∈ wG := by
  intro w hw
  obtain ⟨k, hk, rfl⟩ := List.mem_map.mp hw
  have hk := List.mem_range.mp hk
  exact (show ∀ k, k < 27 → u_lay "FrameVerifierModel" F_Mo k ∈ wG from fun k hk => wg_t ([768, 770, 772, 774, 776, 778, 780, 782, 784, 786, 788, 790, 792, 794, 796, 798, 800, 802, 804, 806, 808, 810, 812, 814, 816, 818, 820].getD k 0) ((show ∀ k, k < 27 → tables_1[[768, 770, 772, 774, 776, 778, 780, 782, 784, 786, 788, 790, 792, 794, 796, 798, 800, 802, 804, 806, 808, 810, 812, 814, 816, 818, 820].getD k 0]? = some (u_lay "FrameVerifierModel" F_Mo k) by decide +kernel) k hk) ((show ∀ k, k < 27 → goodWord (u_lay "FrameVerifierModel" F_Mo k) = true by decide +kernel) k hk)) k hk
abbrev cls : List vw_C := [("FrameVerifier", F_FV, 4), ("FrameVerifier$Code", F_Co, 7), ("FrameVerifier$Flow", F_Fl, 5), ("FrameVerifier$Frame", F_Fr, 4), ("FrameVerifier$Machine", F_Ma, 6), ("FrameVerifierModel", F_Mo, 27)]
end
section
/-! part 04: the two worlds; constants; written by wip/whole/world.py -/
def fuel0 : Nat := 200000
def nm {α β : Type} (a : α) (k : α → β) : β := k a
def mw (σ : mm_M) (k j : Nat) (v : Int32) : mm_M := va_up σ k (upd (σ k) j v)
def mi_n (x y : Int32) : Int32 := if y < x then y else x
def N_C : Nat := 35
def N_M : Nat := 17
def tys (ca : Nat → ClassId) : List (ClassId × FieldType) := [(ca 0, .int), (ca 1, .boolean), (ca 2, .object "FrameVerifier$Frame"), (ca 3, .array .int), (ca 4, .long)]
def op_nm (i : Nat) : String := ["PUSH", "ADD", "SUBTRACT", "MULTIPLY", "DIVIDE", "LOAD", "STORE", "JUMP", "ZERO", "NONE", "MISSING", "NEW", "GET", "PUT", "LENGTH", "TWICE", "EXCHANGE", "DROP", "CALL", "RETURN"].getD i ""
def tr_nm (i : Nat) : String := ["NO_TRAP", "UNFIT", "DIVISION", "MISSING_ARRAY", "OUTSIDE", "FULL"].getD i ""
def op_gives (i : Nat) : Int32 := ([1, 1, 1, 1, 1, 3, 0, 0, 0, 2, 0, 2, 1, 0, 1, 3, 3, 0, 3, 0] : List Int32).getD i 0
def op_behind (i : Nat) : Int32 := ([1, 1, 1, 1, 1, 1, 1, 0, 1, 1, 1, 1, 1, 1, 1, 1, 1, 1, 1, 0] : List Int32).getD i 0
def st_of (i : Nat) : Nat := ([0, 1, 1, 1, 1, 0, 2, 0, 3, 0, 4, 3, 5, 6, 4, 2, 7, 2, 0, 2] : List Nat).getD i 0
def sw_op (i : Nat) : Int32 := ([15, 12, 13, 14, 7, 1, 2, 0, 0, 16, 0, 11, 8, 9, 10, 3, 4, 0, 5, 6] : List Int32).getD i 0
def sw_tr (i : Nat) : Int32 := ([0, 1, 2, 3, 4, 0] : List Int32).getD i 0
def tx_n (i : Nat) : Nat := ([0, 2, 1, 1, 1, 2, 3, 2] : List Nat).getD i 0
def tx_b (i j : Nat) : Int32 := ([[], [105, 105], [97], [105], [114], [114, 105], [114, 105, 105], [97, 97]] : List (List Int32)).getD i [] |>.getD j 0
def st_n (o : Nat) : Nat := tx_n (st_of o)
def st_len (o : Nat) : Int32 := nI (st_n o)
def st_at (o j : Nat) : Int32 := tx_b (st_of o) j
def ce_0 (ca : Nat → ClassId) (b : Nat) (k : Nat) (f : Nat → Int32) : va_E := match k with
  | 0 => .inr (0, [.ref (b + 1), .ref (b + 8), .ref (b + 16), .int (f 3)])
  | 1 => .inr (1, [.int (f 0), .ref (b + 2), .ref (b + 3), .ref (b + 4), .ref (b + 5), .ref (b + 6), .ref (b + 7)])
  | 2 => .inl (ca 0, 100, .inl f)
  | 3 => .inl (ca 0, 100, .inl f)
  | 4 => .inl (ca 1, 4, .inl f)
  | 5 => .inl (ca 0, 4, .inl f)
  | 6 => .inl (ca 0, 4, .inl f)
  | 7 => .inl (ca 0, 4, .inl f)
  | 8 => .inr (2, [.ref (b + 1), .ref (b + 9), .ref (b + 10), .ref (b + 15), .int (f 4)])
  | 9 => .inl (ca 1, 4, .inl f)
  | 10 => .inl (ca 3, 4, .inr (.inr (.inr (.inr (fun j => some (b + (11 + j)))))))
  | 11 => .inl (ca 0, 100, .inl f)
  | 12 => .inl (ca 0, 100, .inl f)
  | 13 => .inl (ca 0, 100, .inl f)
  | 14 => .inl (ca 0, 100, .inl f)
  | 15 => .inl (ca 1, 100, .inl f)
  | 16 => .inr (4, [.int (f 0), .int (f 1), .int (f 2), .ref (b + 1), .ref (b + 18), .ref (b + 17)])
  | 17 => .inl (ca 0, 30, .inl f)
  | _ => .inl (ca 2, 8, .inr (.inr (.inr (.inr (fun j => some (b + (19 + 2 * j)))))))
def ce_C (ca : Nat → ClassId) (b : Nat) (k : Nat) (f : Nat → Int32) : va_E := if k < 19 then ce_0 ca b k f else if (k - 19) % 2 = 0 then .inr (3, [.int (f 0), .int (f 1), .int (f 2), .ref (b + (k + 1))]) else .inl (ca 0, 12, .inl f)
def ce_M (ca : Nat → ClassId) (b : Nat) (k : Nat) (f : Nat → Int32) : va_E := match k with
  | 0 => .inr (5, [.int (f 0), .ref (b + 1), .ref (b + 2), .ref (b + 3), .ref (b + 4), .ref (b + 5), .ref (b + 6), .int (f 7), .ref (b + 7), .ref (b + 8), .ref (b + 9), .int (f 11), .ref (b + 10), .int (f 13), .int (f 14), .int (f 15), .int (f 16), .ref (b + 11), .ref (b + 12), .ref (b + 13), .ref (b + 14), .ref (b + 15), .int (f 22), .ref (b + 16), .int (f 24), .int (f 25), .int (f 26)])
  | 1 => .inl (ca 0, 100, .inl f)
  | 2 => .inl (ca 0, 100, .inl f)
  | 3 => .inl (ca 1, 4, .inl f)
  | 4 => .inl (ca 0, 4, .inl f)
  | 5 => .inl (ca 0, 4, .inl f)
  | 6 => .inl (ca 0, 4, .inl f)
  | 7 => .inl (ca 0, 400, .inl f)
  | 8 => .inl (ca 0, 4800, .inl f)
  | 9 => .inl (ca 1, 400, .inl f)
  | 10 => .inl (ca 0, 12, .inl f)
  | 11 => .inl (ca 0, 8, .inl f)
  | 12 => .inl (ca 0, 8, .inl f)
  | 13 => .inl (ca 0, 8, .inl f)
  | 14 => .inl (ca 0, 96, .inl f)
  | 15 => .inl (ca 0, 96, .inl f)
  | _ => .inl (ca 0, 31, .inl f)
theorem fr_lt {i : Nat} (h : i < 8) : 19 + 2 * i < N_C := by unfold N_C; omega
theorem vl_lt {i : Nat} (h : i < 8) : 20 + 2 * i < N_C := by unfold N_C; omega
theorem rw_lt {i : Nat} (h : i < 4) : 11 + i < N_C := by unfold N_C; omega
theorem ce_fr {ca : Nat → ClassId} {b i : Nat} (_h : i < 8) {f : Nat → Int32} : ce_C ca b (19 + 2 * i) f = .inr (3, [.int (f 0), .int (f 1), .int (f 2), .ref (b + (20 + 2 * i))]) := by
  unfold ce_C
  rw [if_neg (by omega), if_pos (by omega), show 19 + 2 * i + 1 = 20 + 2 * i by omega]
theorem ce_frP {ca : Nat → ClassId} {b i : Nat} (h : i < 8) (j : Nat) (hj : j < 3) {f : Nat → Int32} {v : Int32} : (.inr (3, ([.int (f 0), .int (f 1), .int (f 2), .ref (b + (20 + 2 * i))] : List Value).set j (.int v)) : va_E) = ce_C ca b (19 + 2 * i) (upd f j v) := by
  rw [ce_fr h]
  rcases (show j = 0 ∨ j = 1 ∨ j = 2 by omega) with rfl | rfl | rfl <;> rfl
theorem ce_vl {ca : Nat → ClassId} {b i : Nat} (_h : i < 8) {f : Nat → Int32} : ce_C ca b (20 + 2 * i) f = .inl (ca 0, 12, .inl f) := by
  unfold ce_C
  rw [if_neg (by omega), if_neg (by omega)]
theorem ce_vlA {ca : Nat → ClassId} {b i : Nat} (h : i < 8) : ∀ f : Nat → Int32, ce_C ca b (20 + 2 * i) f = .inl (ca 0, 12, .inl f) := fun _ => ce_vl h
theorem ce_rwA {ca : Nat → ClassId} {b i : Nat} (h : i < 4) : ∀ f : Nat → Int32, ce_C ca b (11 + i) f = .inl (ca 0, 100, .inl f) := by
  intro f
  rcases (show i = 0 ∨ i = 1 ∨ i = 2 ∨ i = 3 by omega) with rfl | rfl | rfl | rfl <;> rfl
theorem ce_rw {ca : Nat → ClassId} {b i : Nat} (h : i < 4) {f : Nat → Int32} : ce_C ca b (11 + i) f = .inl (ca 0, 100, .inl f) := ce_rwA h f
theorem ib {i : Int32} {n : Nat} (h : ¬ (i < 0 ∨ n ≤ i.toNatClampNeg)) : (i.toNatClampNeg) < n := Nat.not_le.mp fun q => h (Or.inr q)
theorem nz_b {v : Int32} (h : v = 0 ∨ v = 1) : narrow .boolean (.int v) = .int v := by rcases h with rfl | rfl <;> rfl
theorem fz_b {v : Int32} (h : v = 0 ∨ v = 1) : fits .boolean (.int v) = true := by rcases h with rfl | rfl <;> rfl
theorem vp_nb {v : Int32} (h : v = 0 ∨ v = 1) : vp_nar .boolean v = v := by rcases h with rfl | rfl <;> rfl
theorem i32_ne {x v : Int32} {n : Int} (h : ¬ x = v) (hv : v.toInt = n) : x.toInt ≠ n := fun q => h (Int32.toInt_inj.mp (by rw [q, hv]))
/-- a place of the locals, wherever the list ends -/
def lo_st : List (Option Value) → Nat → Value → List (Option Value)
  | [], 0, v => [some v]
  | [], n + 1, v => none :: lo_st [] n v
  | _ :: t, 0, v => some v :: t
  | x :: t, n + 1, v => x :: lo_st t n v
theorem lo_st_at : ∀ (L : List (Option Value)) (i : Nat) (v : Value), (lo_st L i v)[i]? = some (some v)
  | [], 0, v => rfl
  | [], n + 1, v => by rw [lo_st, List.getElem?_cons_succ]; exact lo_st_at [] n v
  | _ :: t, 0, v => rfl
  | x :: t, n + 1, v => by rw [lo_st, List.getElem?_cons_succ]; exact lo_st_at t n v
theorem lo_st_ne : ∀ (L : List (Option Value)) (i : Nat) (v : Value) (j : Nat), j ≠ i → ∀ w, (lo_st L i v)[j]? = some (some w) → L[j]? = some (some w)
  | [], 0, v, j, hj, w, h => by
    cases j with
    | zero => exact absurd rfl hj
    | succ j => simp [lo_st] at h
  | [], n + 1, v, j, hj, w, h => by
    cases j with
    | zero => simp [lo_st] at h
    | succ j =>
      rw [lo_st, List.getElem?_cons_succ] at h
      have := lo_st_ne [] n v j (by omega) w h
      simp at this
  | _ :: t, 0, v, j, hj, w, h => by
    cases j with
    | zero => exact absurd rfl hj
    | succ j => rw [lo_st, List.getElem?_cons_succ] at h; rw [List.getElem?_cons_succ]; exact h
  | x :: t, n + 1, v, j, hj, w, h => by
    cases j with
    | zero => rw [lo_st, List.getElem?_cons_zero] at h; rw [List.getElem?_cons_zero]; exact h
    | succ j =>
      rw [lo_st, List.getElem?_cons_succ] at h
      rw [List.getElem?_cons_succ]
      exact lo_st_ne t n v j (by omega) w h
theorem lo_putP {ls ls' : Array Slot} {nL i : Nat} {v : Value} {L : List (Option Value)} (h : lo_ok ls nL L) (hv : v.category = 1) (h2 : lv_has ls' nL ((i, v) :: (lo_li L).filter (fun q => !(q.1 == i) && !(q.1 + 1 == i && q.2.category == 2)))) : lo_ok ls' nL (lo_st L i v) := by
  refine ⟨h2.1, h2.2.1, fun j w hj => ?_⟩
  by_cases hji : j = i
  · subst hji
    rw [lo_st_at] at hj
    cases hj
    exact ⟨hv, h2.2.2 (j, v) List.mem_cons_self⟩
  · have hj := lo_st_ne L i v j hji w hj
    have h1 := (h.2.2 j w hj).1
    refine ⟨h1, h2.2.2 (j, w) (List.mem_cons_of_mem _ (List.mem_filter.mpr ⟨lo_mem.mpr hj, ?_⟩))⟩
    simp [hji, h1]
/-- what is known of the constants -/
def kc_c (ax : Nat → Nat → Nat) (A : Nat → Prop) (U : State) (H : Heap) : Prop :=
  (∀ i, i < 20 → va_Z "FrameVerifier$Op" (op_nm i) "LFrameVerifier$Op;" (.ref (ax 0 i)) A U H ∧ va_O "FrameVerifier$Op" (ax 0 i) A U H ∧ va_OF "java/lang/Enum" "ordinal" "I" (.int (nI i)) (ax 0 i) A U H ∧ va_OF "FrameVerifier$Op" "gives" "I" (.int (op_gives i)) (ax 0 i) A U H ∧ va_OF "FrameVerifier$Op" "goesBehind" "Z" (.int (op_behind i)) (ax 0 i) A U H ∧ va_OF "FrameVerifier$Op" "takes" "Ljava/lang/String;" (.ref (ax 5 (st_of i))) (ax 0 i) A U H) ∧
  (∀ i, i < 6 → va_Z "FrameVerifier$Trap" (tr_nm i) "LFrameVerifier$Trap;" (.ref (ax 1 i)) A U H ∧ va_O "FrameVerifier$Trap" (ax 1 i) A U H ∧ va_OF "java/lang/Enum" "ordinal" "I" (.int (nI i)) (ax 1 i) A U H) ∧
  (∀ i, i < 8 → va_O "java/lang/String" (ax 5 i) A U H ∧ va_OF "java/lang/String" "coder" "B" (.int 0) (ax 5 i) A U H ∧ va_OF "java/lang/String" "value" "[B" (.ref (ax 6 i)) (ax 5 i) A U H ∧ va_T .byte (ax 6 i) (tx_n i) (fun j => .int (tx_b i j)) A U H) ∧
  (va_Z "FrameVerifier" "OPS" "[LFrameVerifier$Op;" (.ref (ax 2 0)) A U H ∧ va_T (.object "FrameVerifier$Op") (ax 2 0) 20 (fun j => .ref (ax 0 j)) A U H) ∧
  (va_Z "FrameVerifier$1" "$SwitchMap$FrameVerifier$Op" "[I" (.ref (ax 3 0)) A U H ∧ va_T .int (ax 3 0) 20 (fun j => .int (sw_op j)) A U H) ∧
  (va_Z "FrameVerifier$1" "$SwitchMap$FrameVerifier$Trap" "[I" (.ref (ax 4 0)) A U H ∧ va_T .int (ax 4 0) 6 (fun j => .int (sw_tr j)) A U H) ∧
  va_Z "java/lang/String" "COMPACT_STRINGS" "Z" (.int 1) A U H ∧ va_Zq "jdk/internal/util/Preconditions" "SIOOBE_FORMATTER" "Ljava/util/function/BiFunction;" A U H
theorem kc_c.moved {ax : Nat → Nat → Nat} {A : Nat → Prop} {u U : State} {H : Heap} (hvm : u.vm.Alike U.vm) (h : kc_c ax A u H) : kc_c ax A U H := by
  obtain ⟨h1, h2, h3, h4, h5, h6, h7, h8⟩ := h
  exact ⟨fun i hi => ⟨(h1 i hi).1.moved hvm, (h1 i hi).2.1.moved hvm, (h1 i hi).2.2.1.moved hvm, (h1 i hi).2.2.2.1.moved hvm, (h1 i hi).2.2.2.2.1.moved hvm, (h1 i hi).2.2.2.2.2.moved hvm⟩, fun i hi => ⟨(h2 i hi).1.moved hvm, (h2 i hi).2.1.moved hvm, (h2 i hi).2.2.moved hvm⟩, fun i hi => ⟨(h3 i hi).1.moved hvm, (h3 i hi).2.1.moved hvm, (h3 i hi).2.2.1.moved hvm, (h3 i hi).2.2.2.moved hvm⟩, ⟨h4.1.moved hvm, h4.2.moved hvm⟩, ⟨h5.1.moved hvm, h5.2.moved hvm⟩, ⟨h6.1.moved hvm, h6.2.moved hvm⟩, h7.moved hvm, h8.moved hvm⟩
theorem kc_c.kept {ax : Nat → Nat → Nat} {A : Nat → Prop} {U : State} {H H1 : Heap} (h : kc_c ax A U H) (hq : ∀ a : Nat, a < H.size → ¬ A a → H1[a]? = H[a]?) : kc_c ax A U H1 := by
  obtain ⟨h1, h2, h3, h4, h5, h6, h7, h8⟩ := h
  exact ⟨fun i hi => ⟨(h1 i hi).1.kept hq, (h1 i hi).2.1.kept hq, (h1 i hi).2.2.1.kept hq, (h1 i hi).2.2.2.1.kept hq, (h1 i hi).2.2.2.2.1.kept hq, (h1 i hi).2.2.2.2.2.kept hq⟩, fun i hi => ⟨(h2 i hi).1.kept hq, (h2 i hi).2.1.kept hq, (h2 i hi).2.2.kept hq⟩, fun i hi => ⟨(h3 i hi).1.kept hq, (h3 i hi).2.1.kept hq, (h3 i hi).2.2.1.kept hq, (h3 i hi).2.2.2.kept hq⟩, ⟨h4.1.kept hq, h4.2.kept hq⟩, ⟨h5.1.kept hq, h5.2.kept hq⟩, ⟨h6.1.kept hq, h6.2.kept hq⟩, h7.kept hq, h8.kept hq⟩
theorem kc_c.narrow {ax : Nat → Nat → Nat} {A B : Nat → Prop} {U : State} {H : Heap} (h : kc_c ax A U H) (hq : ∀ q, B q → A q) : kc_c ax B U H := by
  obtain ⟨h1, h2, h3, h4, h5, h6, h7, h8⟩ := h
  exact ⟨fun i hi => ⟨(h1 i hi).1.narrow hq, (h1 i hi).2.1.narrow hq, (h1 i hi).2.2.1.narrow hq, (h1 i hi).2.2.2.1.narrow hq, (h1 i hi).2.2.2.2.1.narrow hq, (h1 i hi).2.2.2.2.2.narrow hq⟩, fun i hi => ⟨(h2 i hi).1.narrow hq, (h2 i hi).2.1.narrow hq, (h2 i hi).2.2.narrow hq⟩, fun i hi => ⟨(h3 i hi).1.narrow hq, (h3 i hi).2.1.narrow hq, (h3 i hi).2.2.1.narrow hq, (h3 i hi).2.2.2.narrow hq⟩, ⟨h4.1.narrow hq, h4.2.narrow hq⟩, ⟨h5.1.narrow hq, h5.2.narrow hq⟩, ⟨h6.1.narrow hq, h6.2.narrow hq⟩, h7.narrow hq, h8.narrow hq⟩
def kc_n (U : State) : Prop := va_Nw (.fieldLinkNest "FrameVerifier$Code" 35 "FrameVerifier" "OPS" "[LFrameVerifier$Op;" "FrameVerifier") U ∧ va_Nw (.methodLinkNest "FrameVerifier$Code" 109 ⟨"FrameVerifier", "isLocal", "(I)Z"⟩ "FrameVerifier") U
def kC (D : va_G) (ca : Nat → ClassId) (ax : Nat → Nat → Nat) (b : Nat) (U : State) : Prop := va_K D cls (tys ca) U ∧ kc_c ax (mm_A b N_C) U U.heap ∧ kc_n U
def kM (D : va_G) (ca : Nat → ClassId) (_ax : Nat → Nat → Nat) (_b : Nat) (U : State) : Prop := va_K D cls (tys ca) U ∧ True
theorem kC_ok {D : va_G} {ca : Nat → ClassId} {ax : Nat → Nat → Nat} {b : Nat} : kk_ok b N_C (kC D ca ax b) := by
  refine ⟨fun u U h hW hq => ⟨va_K.moved hW.alike h.1, (h.2.1.moved hW.alike).kept hq, va_Nw.warmF hW h.2.2.1, va_Nw.warmM hW h.2.2.2⟩, fun U g mk a h => ⟨va_K.moved (u := U) (U := U.calling g mk a) (Vm.Alike.refl U.vm) h.1, kc_c.moved (u := U) (U := U.calling g mk a) (Vm.Alike.refl U.vm) h.2.1, va_Nw.same rfl (rfl : U.vm = (U.calling g mk a).vm) h.2.2.1, va_Nw.same rfl (rfl : U.vm = (U.calling g mk a).vm) h.2.2.2⟩⟩
theorem kM_ok {D : va_G} {ca : Nat → ClassId} {ax : Nat → Nat → Nat} {b : Nat} : kk_ok b N_M (kM D ca ax b) :=
  ⟨fun u U h hW hq => ⟨va_K.moved hW.alike h.1, trivial⟩, fun U g mk a h => ⟨va_K.moved (u := U) (U := U.calling g mk a) (Vm.Alike.refl U.vm) h.1, trivial⟩⟩
section VV5
variable {Res : Type} {p : Program} {l : Launch} {e : Env} {R : Room} {s : State} {m : MethodId} {args : Array Value} {below : List Frame} {meth : Method} {c : Code} {D : va_G} {cl : List vw_C} {b N : Nat} {ce : Nat → (Nat → Int32) → va_E} {nL : Nat} {Q : State → Prop} {fin : Res} {k A B : Option Res} {σ : mm_M} {pc : Nat} {L L2 : List (Option Value)} {rest : List Value} {cc : ByteArray} {Ts : List Cond} {own : String}
theorem v_istore_nP (S : CallFix p m c cc nL s args Ts own) {q : Fin 4} {i : Nat} {x : Int32} (d : decode cc pc = .ok (.istore_n q, 1)) (hi : (q : Nat) = i) (hn : i < nL) (hL : lo_st L i (.int x) = L2)
    (kk : vv p l e R s m args below meth c D cl b N ce nL Q fin k σ (pc + 1) L2 rest) : vv p l e R s m args below meth c D cl b N ce nL Q fin k σ pc L (.int x :: rest) := fun hk H locs ls hl hP hS => lv_istore_n S.1 S.2.1 d hi (lo_has hl) hn rfl (fun ls' h2 => kk hk H locs ls' (hL ▸ lo_putP hl rfl h2) hP hS)
theorem v_istoreP (S : CallFix p m c cc nL s args Ts own) {i : Nat} {x : Int32} (d : decode cc pc = .ok (.istore i, 2)) (hn : i < nL) (hL : lo_st L i (.int x) = L2)
    (kk : vv p l e R s m args below meth c D cl b N ce nL Q fin k σ (pc + 2) L2 rest) : vv p l e R s m args below meth c D cl b N ce nL Q fin k σ pc L (.int x :: rest) := fun hk H locs ls hl hP hS => lv_istore S.1 S.2.1 d (lo_has hl) hn rfl (fun ls' h2 => kk hk H locs ls' (hL ▸ lo_putP hl rfl h2) hP hS)
theorem v_astore_nP (S : CallFix p m c cc nL s args Ts own) {q : Fin 4} {i : Nat} {x : Nat} (d : decode cc pc = .ok (.astore_n q, 1)) (hi : (q : Nat) = i) (hn : i < nL) (hL : lo_st L i (.ref x) = L2)
    (kk : vv p l e R s m args below meth c D cl b N ce nL Q fin k σ (pc + 1) L2 rest) : vv p l e R s m args below meth c D cl b N ce nL Q fin k σ pc L (.ref x :: rest) := fun hk H locs ls hl hP hS => lv_astore_n S.1 S.2.1 d hi (lo_has hl) hn rfl (fun ls' h2 => kk hk H locs ls' (hL ▸ lo_putP hl rfl h2) hP hS)
theorem v_astoreP (S : CallFix p m c cc nL s args Ts own) {i : Nat} {x : Nat} (d : decode cc pc = .ok (.astore i, 2)) (hn : i < nL) (hL : lo_st L i (.ref x) = L2)
    (kk : vv p l e R s m args below meth c D cl b N ce nL Q fin k σ (pc + 2) L2 rest) : vv p l e R s m args below meth c D cl b N ce nL Q fin k σ pc L (.ref x :: rest) := fun hk H locs ls hl hP hS => lv_astore S.1 S.2.1 d (lo_has hl) hn rfl (fun ls' h2 => kk hk H locs ls' (hL ▸ lo_putP hl rfl h2) hP hS)
theorem v_top {x : Int32} {kf : Int32 → Option Res} (kk : ∀ z : Int32, z = x → vv p l e R s m args below meth c D cl b N ce nL Q fin (kf z) σ pc L (.int z :: rest)) : vv p l e R s m args below meth c D cl b N ce nL Q fin (nm x kf) σ pc L (.int x :: rest) := kk x rfl
theorem v_sg {kf : mm_M → Option Res} (kk : ∀ z : mm_M, z = σ → vv p l e R s m args below meth c D cl b N ce nL Q fin (kf z) z pc L rest) : vv p l e R s m args below meth c D cl b N ce nL Q fin (nm σ kf) σ pc L rest := kk σ rfl
theorem v_guard {c' : Prop} (hd : Decidable c') (kk : c' → vv p l e R s m args below meth c D cl b N ce nL Q fin k σ pc L rest) : vv p l e R s m args below meth c D cl b N ce nL Q fin (@ite _ c' hd k none) σ pc L rest := fun hk H locs ls hl hP hS => by
  by_cases h : c'
  · rw [if_pos h] at hk
    exact kk h hk H locs ls hl hP hS
  · rw [if_neg h] at hk
    cases hk
theorem v_puti (S : CallFix p m c cc nL s args Ts own) {ref C : String} {T : u_T} {Nf ci index : Nat} {tys : List (ClassId × FieldType)} (hin : ∀ w ∈ u_ws C T Nf, w ∈ Ts) (hK : va_K D cl tys s) (kq : Nat) (hkq : kq < N) {fs : List Value} (hce : ce kq (σ kq) = .inr (ci, fs)) (hc : cl[ci]? = some (C, T, Nf)) (j : Nat) (hj : j < Nf) (hlink : (Cond.fieldLink own index ref (T j).2.1 (T j).2.2.1).before args s = true) (hsame : ∀ x, s.fieldFound? (T j).1 (T j).2.1 (T j).2.2.1 = some x → s.fieldFound? ref (T j).2.1 (T j).2.2.1 = some x) (ty0 : Nat → FieldType) (hty : ∀ k, k < Nf → parseFieldDescriptor (T k).2.2.1 = some (ty0 k)) (hnm : ∀ a, a < Nf → ∀ b, b < Nf → a ≠ b → (T a).2.1 ≠ (T b).2.1) (hfin : (T j).2.2.2 = false) {ty : FieldType} {x : Int32} (hd : parseFieldDescriptor (T j).2.2.1 = some ty) (hn : narrow ty (.int x) = .int x) (hfit : fits ty (.int x) = true) (hl0 : j < fs.length) (he : .inr (ci, fs.set j (.int x)) = ce kq (upd (σ kq) j x)) (d : decode cc pc = .ok (.putfield index, 3))
    (kk : vv p l e R s m args below meth c D cl b N ce nL Q fin k (mw σ kq j x) (pc + 3) L rest) : vv p l e R s m args below meth c D cl b N ce nL Q fin k σ pc L (.int x :: .ref (b + kq) :: rest) := v_put S hin hK kq hkq hce hc j hj hlink hsame ty0 hty hnm hfin hd hn hfit hl0 _ he d kk
theorem v_iast1 (S : CallFix p m c cc nL s args Ts own) {tys : List (ClassId × FieldType)} (hK : va_K D cl tys s) (kq t0 : Nat) (hkq : kq < N) {cA : ClassId} {n : Nat} (hce : ∀ f, ce kq f = .inl (cA, n, .inl f)) (ht : tys[t0]? = some (cA, .int)) {i x : Int32} (d : decode cc pc = .ok (.iastore, 1))
    (kk : ¬ (i < 0 ∨ n ≤ i.toNatClampNeg) → vv p l e R s m args below meth c D cl b N ce nL Q fin k (mw σ kq i.toNatClampNeg x) (pc + 1) L rest) : vv p l e R s m args below meth c D cl b N ce nL Q fin (if (i < 0 ∨ n ≤ i.toNatClampNeg) then none else k) σ pc L (.int x :: .int i :: .ref (b + kq) :: rest) := v_iast S hK kq t0 hkq hce ht d kk
theorem v_zast1 (S : CallFix p m c cc nL s args Ts own) {tys : List (ClassId × FieldType)} (hK : va_K D cl tys s) (kq t0 : Nat) (hkq : kq < N) {cA : ClassId} {n : Nat} (hce : ∀ f, ce kq f = .inl (cA, n, .inl f)) (ht : tys[t0]? = some (cA, .boolean)) {i x : Int32} (hx : x = 0 ∨ x = 1) (d : decode cc pc = .ok (.bastore, 1))
    (kk : ¬ (i < 0 ∨ n ≤ i.toNatClampNeg) → vv p l e R s m args below meth c D cl b N ce nL Q fin k (mw σ kq i.toNatClampNeg x) (pc + 1) L rest) : vv p l e R s m args below meth c D cl b N ce nL Q fin (if (i < 0 ∨ n ≤ i.toNatClampNeg) then none else k) σ pc L (.int x :: .int i :: .ref (b + kq) :: rest) := v_zast S hK kq t0 hkq hce ht d (fun h => by rw [vp_nb hx]; exact kk h)
theorem v_aald (S : CallFix p m c cc nL s args Ts own) {tys : List (ClassId × FieldType)} (hK : va_K D cl tys s) (kq t0 : Nat) (hkq : kq < N) {cA : ClassId} {n : Nat} {ty : FieldType} {g : Nat → Nat} (hce : ce kq (σ kq) = .inl (cA, n, .inr (.inr (.inr (.inr (fun j => some (g j))))))) (ht : tys[t0]? = some (cA, ty)) (hr : ty.isReference = true) {i : Int32} (d : decode cc pc = .ok (.aaload, 1))
    (kk : ¬ (i < 0 ∨ n ≤ i.toNatClampNeg) → vv p l e R s m args below meth c D cl b N ce nL Q fin k σ (pc + 1) L (.ref (g i.toNatClampNeg) :: rest)) : vv p l e R s m args below meth c D cl b N ce nL Q fin (if (i < 0 ∨ n ≤ i.toNatClampNeg) then none else k) σ pc L (.int i :: .ref (b + kq) :: rest) := fun hk H locs ls hl hP hS => by
  by_cases h : (i < 0 ∨ n ≤ i.toNatClampNeg)
  · rw [if_pos h] at hk; cases hk
  · rw [if_neg h] at hk
    have hlt : i.toNatClampNeg < n := Nat.not_le.mp fun q => h (Or.inr q)
    exact W.aald (v := .ref (g i.toNatClampNeg)) (ty := ty) S.1 S.2.1 (hP kq (b + kq, .inl (cA, n, .inr (.inr (.inr (.inr (fun j => some (g j))))))) (by rw [mm_get hkq, hce])) ((hK.2 t0 _ ht).1 n (fun j => .ref (g j))) hr (fun q => by cases q) (by show ¬ (i < 0 ∨ (arrV _ _ _).slots.size ≤ _); rw [arrV_size]; exact h) (by show (arrV _ _ _).slots[_]? = _; rw [arrV_read _ _ hlt]; rfl) rfl rfl d (kk h hk H locs ls hl hP hS)
theorem v_gets (S : CallFix p m c cc nL s args Ts own) {C n d0 ref : String} {v : Value} {index : Nat} (hZ : va_Z C n d0 v (mm_A b N) s s.heap) (hlink : (Cond.fieldLink own index ref n d0).before args s = true) (hsame : ∀ x, s.fieldFound? C n d0 = some x → s.fieldFound? ref n d0 = some x) (d : decode cc pc = .ok (.getstatic index, 3))
    (kk : vv p l e R s m args below meth c D cl b N ce nL Q fin k σ (pc + 3) L (v :: rest)) : vv p l e R s m args below meth c D cl b N ce nL Q fin k σ pc L rest := fun hk H locs ls hl hP hS => va_gets S.1 S.2.1 hZ hS S.2.2.2.1 hlink hsame d (kk hk H locs ls hl hP hS)
theorem v_getsN (S : CallFix p m c cc nL s args Ts own) {C n d0 ref host : String} {v : Value} {index : Nat} (hZ : va_Z C n d0 v (mm_A b N) s s.heap) (hlink : (Cond.fieldLinkNest own index ref n d0 host).before args s = true) (hsame : ∀ x, s.fieldFound? C n d0 = some x → s.fieldFound? ref n d0 = some x) (d : decode cc pc = .ok (.getstatic index, 3))
    (kk : vv p l e R s m args below meth c D cl b N ce nL Q fin k σ (pc + 3) L (v :: rest)) : vv p l e R s m args below meth c D cl b N ce nL Q fin k σ pc L rest := fun hk H locs ls hl hP hS => va_getsN S.1 S.2.1 hZ hS S.2.2.2.1 hlink hsame d (kk hk H locs ls hl hP hS)
theorem v_ti0 (S : CallFix p m c cc nL s args Ts own) {t n : Nat} {f : Nat → Int32} (hT : va_T .int t n (fun j => .int (f j)) (mm_A b N) s s.heap) {i : Int32} (d : decode cc pc = .ok (.iaload, 1))
    (kk : ¬ (i < 0 ∨ n ≤ i.toNatClampNeg) → vv p l e R s m args below meth c D cl b N ce nL Q fin k σ (pc + 1) L (.int (f i.toNatClampNeg) :: rest)) : vv p l e R s m args below meth c D cl b N ce nL Q fin (if (i < 0 ∨ n ≤ i.toNatClampNeg) then none else k) σ pc L (.int i :: .ref t :: rest) := fun hk H locs ls hl hP hS => by
  by_cases h : (i < 0 ∨ n ≤ i.toNatClampNeg)
  · rw [if_pos h] at hk; cases hk
  · rw [if_neg h] at hk
    exact va_ti S.1 S.2.1 hT hS h rfl d (kk h hk H locs ls hl hP hS)
theorem v_of (S : CallFix p m c cc nL s args Ts own) {o n d0 ref : String} {index q : Nat} {v : Value} (hE : va_OF o n d0 v q (mm_A b N) s s.heap) (hlink : (Cond.fieldLink own index ref n d0).before args s = true) (hsame : ∀ x, s.fieldFound? o n d0 = some x → s.fieldFound? ref n d0 = some x) (d : decode cc pc = .ok (.getfield index, 3))
    (kk : vv p l e R s m args below meth c D cl b N ce nL Q fin k σ (pc + 3) L (v :: rest)) : vv p l e R s m args below meth c D cl b N ce nL Q fin k σ pc L (.ref q :: rest) := fun hk H locs ls hl hP hS => vk_getf S.1 S.2.1 hE hS S.2.2.2.1 hlink hsame d (kk hk H locs ls hl hP hS)
theorem v_tlen (S : CallFix p m c cc nL s args Ts own) {t n : Nat} {ty : FieldType} {f : Nat → Value} (hT : va_T ty t n f (mm_A b N) s s.heap) {v : Int32} (hv : Int32.ofNat n = v) (d : decode cc pc = .ok (.arraylength, 1))
    (kk : vv p l e R s m args below meth c D cl b N ce nL Q fin k σ (pc + 1) L (.int v :: rest)) : vv p l e R s m args below meth c D cl b N ce nL Q fin k σ pc L (.ref t :: rest) := fun hk H locs ls hl hP hS => va_tlen S.1 S.2.1 hT hS hv d (kk hk H locs ls hl hP hS)
theorem v_ta (S : CallFix p m c cc nL s args Ts own) {t n : Nat} {ty : FieldType} {g : Nat → Nat} (hT : va_T ty t n (fun j => .ref (g j)) (mm_A b N) s s.heap) (hr : ty.isReference = true) {i : Int32} (d : decode cc pc = .ok (.aaload, 1))
    (kk : ¬ (i < 0 ∨ n ≤ i.toNatClampNeg) → vv p l e R s m args below meth c D cl b N ce nL Q fin k σ (pc + 1) L (.ref (g i.toNatClampNeg) :: rest)) : vv p l e R s m args below meth c D cl b N ce nL Q fin (if (i < 0 ∨ n ≤ i.toNatClampNeg) then none else k) σ pc L (.int i :: .ref t :: rest) := fun hk H locs ls hl hP hS => by
  by_cases h : (i < 0 ∨ n ≤ i.toNatClampNeg)
  · rw [if_pos h] at hk; cases hk
  · rw [if_neg h] at hk
    obtain ⟨cell, h1, h2, h3, h4, h5, h6, h7⟩ := hT
    have hlt : i.toNatClampNeg < n := Nat.not_le.mp fun q => h (Or.inr q)
    exact W.aald (v := .ref (g i.toNatClampNeg)) (ty := ty) S.1 S.2.1 (by rw [hS.2.1 t (Array.getElem?_eq_some_iff.mp h1).1 h7]; exact h1) h2 hr h3 (fun q => by rcases q with q | q; exact h (Or.inl q); omega) (h6 _ hlt) rfl rfl d (kk h hk H locs ls hl hP hS)
theorem v_acmp_eq (S : CallFix p m c cc nL s args Ts own) {ad : Nat → Nat} {x y : Nat} {off : Int} {tgt : Nat} (d : decode cc pc = .ok (.if_acmp .eq off, 3)) (ht : (pc : Int) + off = (tgt : Int)) (hi : ad x = ad y → x = y) (kt : x = y → vv p l e R s m args below meth c D cl b N ce nL Q fin A σ tgt L rest) (kf : ¬ x = y → vv p l e R s m args below meth c D cl b N ce nL Q fin B σ (pc + 3) L rest) : vv p l e R s m args below meth c D cl b N ce nL Q fin (if x = y then A else B) σ pc L (.ref (ad y) :: .ref (ad x) :: rest) := fun hk H locs ls hl hP hS =>
  lv_acmp_eq (rx := some (ad x)) (ry := some (ad y)) S.1 S.2.1 d ht (fun h => kt (hi (Option.some.inj h)) (by rw [if_pos (hi (Option.some.inj h))] at hk; exact hk) H locs ls hl hP hS) (fun h => kf (fun q => h (by rw [q])) (by rw [if_neg (fun q => h (by rw [q]))] at hk; exact hk) H locs ls hl hP hS)
theorem v_acmp_ne (S : CallFix p m c cc nL s args Ts own) {ad : Nat → Nat} {x y : Nat} {off : Int} {tgt : Nat} (d : decode cc pc = .ok (.if_acmp .ne off, 3)) (ht : (pc : Int) + off = (tgt : Int)) (hi : ad x = ad y → x = y) (kt : ¬ x = y → vv p l e R s m args below meth c D cl b N ce nL Q fin B σ tgt L rest) (kf : x = y → vv p l e R s m args below meth c D cl b N ce nL Q fin A σ (pc + 3) L rest) : vv p l e R s m args below meth c D cl b N ce nL Q fin (if x = y then A else B) σ pc L (.ref (ad y) :: .ref (ad x) :: rest) := fun hk H locs ls hl hP hS =>
  lv_acmp_ne (rx := some (ad x)) (ry := some (ad y)) S.1 S.2.1 d ht (fun h => kt (fun q => h (by rw [q])) (by rw [if_neg (fun q => h (by rw [q]))] at hk; exact hk) H locs ls hl hP hS) (fun h => kf (hi (Option.some.inj h)) (by rw [if_pos (hi (Option.some.inj h))] at hk; exact hk) H locs ls hl hP hS)
theorem v_tswQ (S : CallFix p m c cc nL s args Ts own) {dflt lo hi : Int} {offs : Array Int} {len : Nat} {x : Int32} (v : Int32) {off : Int} {tgt : Nat} (d : decode cc pc = .ok (.tableswitch dflt lo hi offs, len)) (h1 : ¬ v.toInt < lo) (h2 : ¬ hi < v.toInt) (ho : offs[(v.toInt - lo).toNat]? = some off) (ht : (pc : Int) + off = (tgt : Int))
    (kt : vv p l e R s m args below meth c D cl b N ce nL Q fin k σ tgt L rest) (kf : ¬ x = v → vv p l e R s m args below meth c D cl b N ce nL Q fin k σ pc L (.int x :: rest)) : vv p l e R s m args below meth c D cl b N ce nL Q fin k σ pc L (.int x :: rest) := fun hk H locs ls hl hP hS => by
  by_cases h : x = v
  · subst h
    exact lv_tableIn S.1 S.2.1 d h1 h2 ho ht (kt hk H locs ls hl hP hS)
  · exact kf h hk H locs ls hl hP hS
theorem v_tb0 (S : CallFix p m c cc nL s args Ts own) {t n : Nat} {f : Nat → Int32} (hT : va_T .byte t n (fun j => .int (f j)) (mm_A b N) s s.heap) {i : Int32} (h : ¬ (i < 0 ∨ n ≤ i.toNatClampNeg)) (d : decode cc pc = .ok (.baload, 1))
    (kk : vv p l e R s m args below meth c D cl b N ce nL Q fin k σ (pc + 1) L (.int (f i.toNatClampNeg) :: rest)) : vv p l e R s m args below meth c D cl b N ce nL Q fin k σ pc L (.int i :: .ref t :: rest) := fun hk H locs ls hl hP hS => va_tb S.1 S.2.1 hT hS h rfl d (kk hk H locs ls hl hP hS)
theorem v_i2c (S : CallFix p m c cc nL s args Ts own) {x v : Int32} (d : decode cc pc = .ok (.i2c, 1)) (hv : (x.toUInt32 % 65536).toInt32 = v)
    (kk : vv p l e R s m args below meth c D cl b N ce nL Q fin k σ (pc + 1) L (.int v :: rest)) : vv p l e R s m args below meth c D cl b N ce nL Q fin k σ pc L (.int x :: rest) := fun hk H locs ls hl hP hS => lv_i2c S.1 S.2.1 d hv (kk hk H locs ls hl hP hS)
theorem v_xret {ty : FieldType} {r xv : Int32} {σ' : mm_M} (S : CallFix p m c cc nL s args Ts own) (hr : meth.sig.returnType = some ty) (hn : narrow ty (.int xv) = .int xv) (hlocks : meth.locks = false) (d : decode cc pc = .ok (.ireturn, 1)) : vv p l e R s m args below meth c D cl b N ce nL (MQ below (qc_i D cl b N ce r σ') args s 0 0 (mm_A b N)) (r, σ') (some (xv, σ)) σ pc L [.int xv] := fun hk H locs ls hl hP hS =>
  W.zret S.1 S.2.1 hr hn (fun t ht hW => ⟨⟨xv, σ, rfl, ⟨congrArg Prod.fst (Option.some.inj hk), congrArg Prod.snd (Option.some.inj hk)⟩, by show mm_P D cl b N ce σ t.heap; rw [ht]; exact hP⟩, hS.F ht⟩) hS.2.2 d hlocks
theorem v_min (S : CallFix p m c cc nL s args Ts own) {index : Nat} (hlink : (Cond.methodLink own index Lib.Math.min.name).before args s = true) (hstat : (Cond.static Lib.Math.min.name).before args s = true) (hini : (Cond.initialized "java/lang/Math").before args s = true) (hcode : (Cond.code Lib.Math.min.name Lib.Math.min.code 2 (some .int)).before args s = true) (hframes : 1 ≤ R.frames) (hlocals : (rest.map fun v => v.category).sum + 13 ≤ R.locals) {x y : Int32} (d : decode cc pc = .ok (.invokestatic index, 3))
    (kk : vv p l e R s m args below meth c D cl b N ce nL Q fin k σ (pc + 3) L (.int (mi_n x y) :: rest)) : vv p l e R s m args below meth c D cl b N ce nL Q fin k σ pc L (.int y :: .int x :: rest) := fun hk H locs ls hl hP hS => va_mmin S.1 S.2.1 (S.2.2.1.trans hl.1.symm) S.2.2.2.1 hlink hstat hini hcode hframes hlocals (Nat.zero_le _) (Nat.zero_le _) d (kk hk H locs ls hl hP hS)
end VV5
section VV6
variable {D : va_G} {ca : Nat → ClassId} {ax : Nat → Nat → Nat} {b : Nat} {s : State}
theorem va_OF.inj {o n d : String} {v w : Value} {t : Nat} {A : Nat → Prop} {U : State} {H : Heap} (h1 : va_OF o n d v t A U H) (h2 : va_OF o n d w t A U H) : v = w := by
  obtain ⟨cf, k, i, f, cell, a1, a2, a3, a4, a5, a6⟩ := h1
  obtain ⟨cf', k', i', f', cell', b1, b2, b3, b4, b5, b6⟩ := h2
  cases a1.symm.trans b1
  cases a3.symm.trans b3
  exact Option.some.inj (a5.symm.trans b5)
theorem op_inj (h : kC D ca ax b s) {i j : Nat} (hi : i < 20) (hj : j < 20) (e : ax 0 i = ax 0 j) : i = j := by
  have h1 := (h.2.1.1 i hi).2.2.1
  have h2 := (h.2.1.1 j hj).2.2.1
  rw [e] at h1
  exact (nI_eq (by omega) (by omega)).mp (Value.int.inj (h1.inj h2))
theorem tr_inj (h : kC D ca ax b s) {i j : Nat} (hi : i < 6) (hj : j < 6) (e : ax 1 i = ax 1 j) : i = j := by
  have h1 := (h.2.1.2.1 i hi).2.2
  have h2 := (h.2.1.2.1 j hj).2.2
  rw [e] at h1
  exact (nI_eq (by omega) (by omega)).mp (Value.int.inj (h1.inj h2))
theorem kc_zO (h : kC D ca ax b s) {i : Nat} (hi : i < 20) : va_Z "FrameVerifier$Op" (op_nm i) "LFrameVerifier$Op;" (.ref (ax 0 i)) (mm_A b N_C) s s.heap := (h.2.1.1 i hi).1
theorem kc_zT (h : kC D ca ax b s) {i : Nat} (hi : i < 6) : va_Z "FrameVerifier$Trap" (tr_nm i) "LFrameVerifier$Trap;" (.ref (ax 1 i)) (mm_A b N_C) s s.heap := (h.2.1.2.1 i hi).1
theorem kc_fG (h : kC D ca ax b s) {i : Nat} (hi : i < 20) : va_OF "FrameVerifier$Op" "gives" "I" (.int (op_gives i)) (ax 0 i) (mm_A b N_C) s s.heap := (h.2.1.1 i hi).2.2.2.1
theorem kc_fB (h : kC D ca ax b s) {i : Nat} (hi : i < 20) : va_OF "FrameVerifier$Op" "goesBehind" "Z" (.int (op_behind i)) (ax 0 i) (mm_A b N_C) s s.heap := (h.2.1.1 i hi).2.2.2.2.1
theorem kc_fT (h : kC D ca ax b s) {i : Nat} (hi : i < 20) : va_OF "FrameVerifier$Op" "takes" "Ljava/lang/String;" (.ref (ax 5 (st_of i))) (ax 0 i) (mm_A b N_C) s s.heap := (h.2.1.1 i hi).2.2.2.2.2
theorem kc_zOps (h : kC D ca ax b s) : va_Z "FrameVerifier" "OPS" "[LFrameVerifier$Op;" (.ref (ax 2 0)) (mm_A b N_C) s s.heap := h.2.1.2.2.2.1.1
theorem kc_tOps (h : kC D ca ax b s) : va_T (.object "FrameVerifier$Op") (ax 2 0) 20 (fun j => .ref (ax 0 j)) (mm_A b N_C) s s.heap := h.2.1.2.2.2.1.2
theorem kc_zOp (h : kC D ca ax b s) : va_Z "FrameVerifier$1" "$SwitchMap$FrameVerifier$Op" "[I" (.ref (ax 3 0)) (mm_A b N_C) s s.heap := h.2.1.2.2.2.2.1.1
theorem kc_swOp (h : kC D ca ax b s) : va_T .int (ax 3 0) 20 (fun j => .int (sw_op j)) (mm_A b N_C) s s.heap := h.2.1.2.2.2.2.1.2
theorem kc_zTr (h : kC D ca ax b s) : va_Z "FrameVerifier$1" "$SwitchMap$FrameVerifier$Trap" "[I" (.ref (ax 4 0)) (mm_A b N_C) s s.heap := h.2.1.2.2.2.2.2.1.1
theorem kc_swTr (h : kC D ca ax b s) : va_T .int (ax 4 0) 6 (fun j => .int (sw_tr j)) (mm_A b N_C) s s.heap := h.2.1.2.2.2.2.2.1.2
theorem kc_cs (h : kC D ca ax b s) : va_Z "java/lang/String" "COMPACT_STRINGS" "Z" (.int 1) (mm_A b N_C) s s.heap := h.2.1.2.2.2.2.2.2.1
theorem kc_sf (h : kC D ca ax b s) : va_Zq "jdk/internal/util/Preconditions" "SIOOBE_FORMATTER" "Ljava/util/function/BiFunction;" (mm_A b N_C) s s.heap := h.2.1.2.2.2.2.2.2.2
theorem kc_st (h : kC D ca ax b s) {i : Nat} (hi : i < 8) : va_O "java/lang/String" (ax 5 i) (mm_A b N_C) s s.heap ∧ va_OF "java/lang/String" "coder" "B" (.int 0) (ax 5 i) (mm_A b N_C) s s.heap ∧ va_OF "java/lang/String" "value" "[B" (.ref (ax 6 i)) (ax 5 i) (mm_A b N_C) s s.heap ∧ va_T .byte (ax 6 i) (tx_n i) (fun j => .int (tx_b i j)) (mm_A b N_C) s s.heap := h.2.1.2.2.1 i hi
theorem rc_o {E : String} {t : Nat} {N : Nat} {H : Heap} {locs : List Loc} (h : va_O E t (mm_A b N) s s.heap) (hS : va_S (mm_A b N) s.heap H locs) : ∃ cellB : Cell, H[t]? = some cellB ∧ cellB.vm.isStatics = false ∧ s.vm.findClass E = some cellB.cls := va_Orecv h hS
theorem rc_op (h : kC D ca ax b s) {i : Nat} (hi : i < 20) {H : Heap} {locs : List Loc} (hS : va_S (mm_A b N_C) s.heap H locs) : ∃ cellB : Cell, H[ax 0 i]? = some cellB ∧ cellB.vm.isStatics = false ∧ s.vm.findClass "FrameVerifier$Op" = some cellB.cls := rc_o (h.2.1.1 i hi).2.1 hS
theorem st_lt {o : Nat} (h : o < 20) : st_of o < 8 := (show ∀ o, o < 20 → st_of o < 8 by decide) o h
theorem tx_lt : ∀ k, k < 8 → tx_n k < 4 := by decide
theorem tx_c : ∀ k, k < 8 → ∀ j, j < tx_n k → ((tx_b k j &&& 255).toUInt32 % 65536).toInt32 = tx_b k j := by decide +kernel
theorem tx_nc : ∀ k, k < 8 → ∀ j, j < tx_n k → narrow .char (.int (tx_b k j)) = .int (tx_b k j) := by decide +kernel
end VV6
end
section
/-! names of 05.types -/
def y_Ty_height : MethodName := ⟨"FrameVerifier$Types", "height", "(I)I"⟩
abbrev b_Ty_height : ByteArray := prog_9_method_2_code
def rm_Ty_height : Room := { frames := 0, cells := 0, slots := 0, locals := 0 }
abbrev w_Ty_height : List Cond := Cond.code y_Ty_height b_Ty_height 1 (some .int) :: wG
theorem m_Ty_height : Cond.code y_Ty_height b_Ty_height 1 (some .int) ∈ wG := wg_t 216 (by decide +kernel) (by decide +kernel)
theorem q_Ty_height : y_Ty_height.cls ≠ "java/lang/invoke/MethodHandle" ∧ y_Ty_height.cls ≠ "java/lang/invoke/VarHandle" ∧ (parseMethodDescriptor y_Ty_height.desc).map (fun d => d.parameters.length) = some 1 := by decide +kernel
theorem g_Ty_height : Cond.initialized y_Ty_height.cls ∈ wG := wg_t 11 (by decide +kernel) (by decide +kernel)
theorem s_Ty_height : Cond.static y_Ty_height ∈ wG := wg_t 215 (by decide +kernel) (by decide +kernel)
theorem d_Ty_height_0 : decode b_Ty_height 0 = .ok (.iload_n 0, 1) := by decide +kernel
theorem d_Ty_height_1 : decode b_Ty_height 1 = .ok (.bipush (7), 2) := by decide +kernel
theorem d_Ty_height_3 : decode b_Ty_height 3 = .ok (.iand, 1) := by decide +kernel
theorem d_Ty_height_4 : decode b_Ty_height 4 = .ok (.ireturn, 1) := by decide +kernel
def y_Ty_at : MethodName := ⟨"FrameVerifier$Types", "at", "(II)I"⟩
abbrev b_Ty_at : ByteArray := prog_9_method_3_code
def rm_Ty_at : Room := { frames := 0, cells := 0, slots := 0, locals := 0 }
abbrev w_Ty_at : List Cond := Cond.code y_Ty_at b_Ty_at 2 (some .int) :: wG
theorem m_Ty_at : Cond.code y_Ty_at b_Ty_at 2 (some .int) ∈ wG := wg_t 219 (by decide +kernel) (by decide +kernel)
theorem q_Ty_at : y_Ty_at.cls ≠ "java/lang/invoke/MethodHandle" ∧ y_Ty_at.cls ≠ "java/lang/invoke/VarHandle" ∧ (parseMethodDescriptor y_Ty_at.desc).map (fun d => d.parameters.length) = some 2 := by decide +kernel
theorem g_Ty_at : Cond.initialized y_Ty_at.cls ∈ wG := wg_t 11 (by decide +kernel) (by decide +kernel)
theorem s_Ty_at : Cond.static y_Ty_at ∈ wG := wg_t 218 (by decide +kernel) (by decide +kernel)
theorem d_Ty_at_0 : decode b_Ty_at 0 = .ok (.iload_n 0, 1) := by decide +kernel
theorem d_Ty_at_1 : decode b_Ty_at 1 = .ok (.iconst 3, 1) := by decide +kernel
theorem d_Ty_at_2 : decode b_Ty_at 2 = .ok (.iconst 2, 1) := by decide +kernel
theorem d_Ty_at_3 : decode b_Ty_at 3 = .ok (.iload_n 1, 1) := by decide +kernel
theorem d_Ty_at_4 : decode b_Ty_at 4 = .ok (.imul, 1) := by decide +kernel
theorem d_Ty_at_5 : decode b_Ty_at 5 = .ok (.iadd, 1) := by decide +kernel
theorem d_Ty_at_6 : decode b_Ty_at 6 = .ok (.ishr, 1) := by decide +kernel
theorem d_Ty_at_7 : decode b_Ty_at 7 = .ok (.iconst 3, 1) := by decide +kernel
theorem d_Ty_at_8 : decode b_Ty_at 8 = .ok (.iand, 1) := by decide +kernel
theorem d_Ty_at_9 : decode b_Ty_at 9 = .ok (.ireturn, 1) := by decide +kernel
def y_Ty_with : MethodName := ⟨"FrameVerifier$Types", "with", "(III)I"⟩
abbrev b_Ty_with : ByteArray := prog_9_method_4_code
def rm_Ty_with : Room := { frames := 0, cells := 0, slots := 0, locals := 0 }
abbrev w_Ty_with : List Cond := Cond.code y_Ty_with b_Ty_with 4 (some .int) :: wG
theorem m_Ty_with : Cond.code y_Ty_with b_Ty_with 4 (some .int) ∈ wG := wg_t 206 (by decide +kernel) (by decide +kernel)
theorem q_Ty_with : y_Ty_with.cls ≠ "java/lang/invoke/MethodHandle" ∧ y_Ty_with.cls ≠ "java/lang/invoke/VarHandle" ∧ (parseMethodDescriptor y_Ty_with.desc).map (fun d => d.parameters.length) = some 3 := by decide +kernel
theorem g_Ty_with : Cond.initialized y_Ty_with.cls ∈ wG := wg_t 11 (by decide +kernel) (by decide +kernel)
theorem s_Ty_with : Cond.static y_Ty_with ∈ wG := wg_t 205 (by decide +kernel) (by decide +kernel)
theorem d_Ty_with_0 : decode b_Ty_with 0 = .ok (.iconst 3, 1) := by decide +kernel
theorem d_Ty_with_1 : decode b_Ty_with 1 = .ok (.iconst 2, 1) := by decide +kernel
theorem d_Ty_with_2 : decode b_Ty_with 2 = .ok (.iload_n 1, 1) := by decide +kernel
theorem d_Ty_with_3 : decode b_Ty_with 3 = .ok (.imul, 1) := by decide +kernel
theorem d_Ty_with_4 : decode b_Ty_with 4 = .ok (.iadd, 1) := by decide +kernel
theorem d_Ty_with_5 : decode b_Ty_with 5 = .ok (.istore_n 3, 1) := by decide +kernel
theorem d_Ty_with_6 : decode b_Ty_with 6 = .ok (.iload_n 0, 1) := by decide +kernel
theorem d_Ty_with_7 : decode b_Ty_with 7 = .ok (.iconst 3, 1) := by decide +kernel
theorem d_Ty_with_8 : decode b_Ty_with 8 = .ok (.iload_n 3, 1) := by decide +kernel
theorem d_Ty_with_9 : decode b_Ty_with 9 = .ok (.ishl, 1) := by decide +kernel
theorem d_Ty_with_10 : decode b_Ty_with 10 = .ok (.iconst (-1), 1) := by decide +kernel
theorem d_Ty_with_11 : decode b_Ty_with 11 = .ok (.ixor, 1) := by decide +kernel
theorem d_Ty_with_12 : decode b_Ty_with 12 = .ok (.iand, 1) := by decide +kernel
theorem d_Ty_with_13 : decode b_Ty_with 13 = .ok (.iload_n 2, 1) := by decide +kernel
theorem d_Ty_with_14 : decode b_Ty_with 14 = .ok (.iload_n 3, 1) := by decide +kernel
theorem d_Ty_with_15 : decode b_Ty_with 15 = .ok (.ishl, 1) := by decide +kernel
theorem d_Ty_with_16 : decode b_Ty_with 16 = .ok (.ior, 1) := by decide +kernel
theorem d_Ty_with_17 : decode b_Ty_with 17 = .ok (.ireturn, 1) := by decide +kernel
def y_Ty_slotBelow : MethodName := ⟨"FrameVerifier$Types", "slotBelow", "(II)I"⟩
abbrev b_Ty_slotBelow : ByteArray := prog_9_method_5_code
def rm_Ty_slotBelow : Room := { frames := 0, cells := 0, slots := 0, locals := 0 }
abbrev w_Ty_slotBelow : List Cond := Cond.code y_Ty_slotBelow b_Ty_slotBelow 2 (some .int) :: wG
theorem m_Ty_slotBelow : Cond.code y_Ty_slotBelow b_Ty_slotBelow 2 (some .int) ∈ wG := wg_t 347 (by decide +kernel) (by decide +kernel)
theorem q_Ty_slotBelow : y_Ty_slotBelow.cls ≠ "java/lang/invoke/MethodHandle" ∧ y_Ty_slotBelow.cls ≠ "java/lang/invoke/VarHandle" ∧ (parseMethodDescriptor y_Ty_slotBelow.desc).map (fun d => d.parameters.length) = some 2 := by decide +kernel
theorem g_Ty_slotBelow : Cond.initialized y_Ty_slotBelow.cls ∈ wG := wg_t 11 (by decide +kernel) (by decide +kernel)
theorem s_Ty_slotBelow : Cond.static y_Ty_slotBelow ∈ wG := wg_t 346 (by decide +kernel) (by decide +kernel)
theorem d_Ty_slotBelow_0 : decode b_Ty_slotBelow 0 = .ok (.bipush (6), 2) := by decide +kernel
theorem d_Ty_slotBelow_2 : decode b_Ty_slotBelow 2 = .ok (.iload_n 0, 1) := by decide +kernel
theorem d_Ty_slotBelow_3 : decode b_Ty_slotBelow 3 = .ok (.bipush (7), 2) := by decide +kernel
theorem d_Ty_slotBelow_5 : decode b_Ty_slotBelow 5 = .ok (.iand, 1) := by decide +kernel
theorem d_Ty_slotBelow_6 : decode b_Ty_slotBelow 6 = .ok (.iadd, 1) := by decide +kernel
theorem d_Ty_slotBelow_7 : decode b_Ty_slotBelow 7 = .ok (.iconst 1, 1) := by decide +kernel
theorem d_Ty_slotBelow_8 : decode b_Ty_slotBelow 8 = .ok (.isub, 1) := by decide +kernel
theorem d_Ty_slotBelow_9 : decode b_Ty_slotBelow 9 = .ok (.iload_n 1, 1) := by decide +kernel
theorem d_Ty_slotBelow_10 : decode b_Ty_slotBelow 10 = .ok (.isub, 1) := by decide +kernel
theorem d_Ty_slotBelow_11 : decode b_Ty_slotBelow 11 = .ok (.ireturn, 1) := by decide +kernel
def y_Ty_below : MethodName := ⟨"FrameVerifier$Types", "below", "(II)I"⟩
abbrev b_Ty_below : ByteArray := prog_9_method_6_code
def rm_Ty_below : Room := { frames := 1, cells := 0, slots := 0, locals := 21 }
abbrev w_Ty_below : List Cond := Cond.code y_Ty_below b_Ty_below 2 (some .int) :: wG
theorem m_Ty_below : Cond.code y_Ty_below b_Ty_below 2 (some .int) ∈ wG := wg_t 344 (by decide +kernel) (by decide +kernel)
theorem q_Ty_below : y_Ty_below.cls ≠ "java/lang/invoke/MethodHandle" ∧ y_Ty_below.cls ≠ "java/lang/invoke/VarHandle" ∧ (parseMethodDescriptor y_Ty_below.desc).map (fun d => d.parameters.length) = some 2 := by decide +kernel
theorem g_Ty_below : Cond.initialized y_Ty_below.cls ∈ wG := wg_t 11 (by decide +kernel) (by decide +kernel)
theorem s_Ty_below : Cond.static y_Ty_below ∈ wG := wg_t 343 (by decide +kernel) (by decide +kernel)
theorem d_Ty_below_0 : decode b_Ty_below 0 = .ok (.iload_n 0, 1) := by decide +kernel
theorem d_Ty_below_1 : decode b_Ty_below 1 = .ok (.iload_n 0, 1) := by decide +kernel
theorem d_Ty_below_2 : decode b_Ty_below 2 = .ok (.iload_n 1, 1) := by decide +kernel
theorem d_Ty_below_3 : decode b_Ty_below 3 = .ok (.invokestatic 11, 3) := by decide +kernel
theorem d_Ty_below_6 : decode b_Ty_below 6 = .ok (.invokestatic 15, 3) := by decide +kernel
theorem d_Ty_below_9 : decode b_Ty_below 9 = .ok (.ireturn, 1) := by decide +kernel
def y_Ty_pushed : MethodName := ⟨"FrameVerifier$Types", "pushed", "(II)I"⟩
abbrev b_Ty_pushed : ByteArray := prog_9_method_7_code
def rm_Ty_pushed : Room := { frames := 1, cells := 0, slots := 0, locals := 23 }
abbrev w_Ty_pushed : List Cond := Cond.code y_Ty_pushed b_Ty_pushed 2 (some .int) :: wG
theorem m_Ty_pushed : Cond.code y_Ty_pushed b_Ty_pushed 2 (some .int) ∈ wG := wg_t 357 (by decide +kernel) (by decide +kernel)
theorem q_Ty_pushed : y_Ty_pushed.cls ≠ "java/lang/invoke/MethodHandle" ∧ y_Ty_pushed.cls ≠ "java/lang/invoke/VarHandle" ∧ (parseMethodDescriptor y_Ty_pushed.desc).map (fun d => d.parameters.length) = some 2 := by decide +kernel
theorem g_Ty_pushed : Cond.initialized y_Ty_pushed.cls ∈ wG := wg_t 11 (by decide +kernel) (by decide +kernel)
theorem s_Ty_pushed : Cond.static y_Ty_pushed ∈ wG := wg_t 356 (by decide +kernel) (by decide +kernel)
theorem d_Ty_pushed_0 : decode b_Ty_pushed 0 = .ok (.iload_n 0, 1) := by decide +kernel
theorem d_Ty_pushed_1 : decode b_Ty_pushed 1 = .ok (.bipush (6), 2) := by decide +kernel
theorem d_Ty_pushed_3 : decode b_Ty_pushed 3 = .ok (.iload_n 0, 1) := by decide +kernel
theorem d_Ty_pushed_4 : decode b_Ty_pushed 4 = .ok (.invokestatic 18, 3) := by decide +kernel
theorem d_Ty_pushed_7 : decode b_Ty_pushed 7 = .ok (.iadd, 1) := by decide +kernel
theorem d_Ty_pushed_8 : decode b_Ty_pushed 8 = .ok (.iload_n 1, 1) := by decide +kernel
theorem d_Ty_pushed_9 : decode b_Ty_pushed 9 = .ok (.invokestatic 22, 3) := by decide +kernel
theorem d_Ty_pushed_12 : decode b_Ty_pushed 12 = .ok (.iconst 1, 1) := by decide +kernel
theorem d_Ty_pushed_13 : decode b_Ty_pushed 13 = .ok (.iadd, 1) := by decide +kernel
theorem d_Ty_pushed_14 : decode b_Ty_pushed 14 = .ok (.ireturn, 1) := by decide +kernel
def y_Ty_dropped : MethodName := ⟨"FrameVerifier$Types", "dropped", "(II)I"⟩
abbrev b_Ty_dropped : ByteArray := prog_9_method_8_code
def rm_Ty_dropped : Room := { frames := 1, cells := 0, slots := 0, locals := 23 }
abbrev w_Ty_dropped : List Cond := Cond.code y_Ty_dropped b_Ty_dropped 4 (some .int) :: wG
theorem m_Ty_dropped : Cond.code y_Ty_dropped b_Ty_dropped 4 (some .int) ∈ wG := wg_t 354 (by decide +kernel) (by decide +kernel)
theorem q_Ty_dropped : y_Ty_dropped.cls ≠ "java/lang/invoke/MethodHandle" ∧ y_Ty_dropped.cls ≠ "java/lang/invoke/VarHandle" ∧ (parseMethodDescriptor y_Ty_dropped.desc).map (fun d => d.parameters.length) = some 2 := by decide +kernel
theorem g_Ty_dropped : Cond.initialized y_Ty_dropped.cls ∈ wG := wg_t 11 (by decide +kernel) (by decide +kernel)
theorem s_Ty_dropped : Cond.static y_Ty_dropped ∈ wG := wg_t 353 (by decide +kernel) (by decide +kernel)
theorem d_Ty_dropped_0 : decode b_Ty_dropped 0 = .ok (.iload_n 0, 1) := by decide +kernel
theorem d_Ty_dropped_1 : decode b_Ty_dropped 1 = .ok (.istore_n 2, 1) := by decide +kernel
theorem d_Ty_dropped_2 : decode b_Ty_dropped 2 = .ok (.iconst 0, 1) := by decide +kernel
theorem d_Ty_dropped_3 : decode b_Ty_dropped 3 = .ok (.istore_n 3, 1) := by decide +kernel
theorem d_Ty_dropped_4 : decode b_Ty_dropped 4 = .ok (.iload_n 3, 1) := by decide +kernel
theorem d_Ty_dropped_5 : decode b_Ty_dropped 5 = .ok (.iload_n 1, 1) := by decide +kernel
theorem d_Ty_dropped_6 : decode b_Ty_dropped 6 = .ok (.if_icmp .ge (22), 3) := by decide +kernel
theorem d_Ty_dropped_9 : decode b_Ty_dropped 9 = .ok (.iload_n 2, 1) := by decide +kernel
theorem d_Ty_dropped_10 : decode b_Ty_dropped 10 = .ok (.iload_n 2, 1) := by decide +kernel
theorem d_Ty_dropped_11 : decode b_Ty_dropped 11 = .ok (.iconst 0, 1) := by decide +kernel
theorem d_Ty_dropped_12 : decode b_Ty_dropped 12 = .ok (.invokestatic 11, 3) := by decide +kernel
theorem d_Ty_dropped_15 : decode b_Ty_dropped 15 = .ok (.iconst 0, 1) := by decide +kernel
theorem d_Ty_dropped_16 : decode b_Ty_dropped 16 = .ok (.invokestatic 22, 3) := by decide +kernel
theorem d_Ty_dropped_19 : decode b_Ty_dropped 19 = .ok (.iconst 1, 1) := by decide +kernel
theorem d_Ty_dropped_20 : decode b_Ty_dropped 20 = .ok (.isub, 1) := by decide +kernel
theorem d_Ty_dropped_21 : decode b_Ty_dropped 21 = .ok (.istore_n 2, 1) := by decide +kernel
theorem d_Ty_dropped_22 : decode b_Ty_dropped 22 = .ok (.iinc 3 (1), 3) := by decide +kernel
theorem d_Ty_dropped_25 : decode b_Ty_dropped 25 = .ok (.goto (-21), 3) := by decide +kernel
theorem d_Ty_dropped_28 : decode b_Ty_dropped 28 = .ok (.iload_n 2, 1) := by decide +kernel
theorem d_Ty_dropped_29 : decode b_Ty_dropped 29 = .ok (.ireturn, 1) := by decide +kernel
def y_Ty_met : MethodName := ⟨"FrameVerifier$Types", "met", "(II)I"⟩
abbrev b_Ty_met : ByteArray := prog_9_method_9_code
def rm_Ty_met : Room := { frames := 1, cells := 0, slots := 0, locals := 23 }
abbrev w_Ty_met : List Cond := Cond.code y_Ty_met b_Ty_met 4 (some .int) :: wG
theorem m_Ty_met : Cond.code y_Ty_met b_Ty_met 4 (some .int) ∈ wG := wg_t 213 (by decide +kernel) (by decide +kernel)
theorem q_Ty_met : y_Ty_met.cls ≠ "java/lang/invoke/MethodHandle" ∧ y_Ty_met.cls ≠ "java/lang/invoke/VarHandle" ∧ (parseMethodDescriptor y_Ty_met.desc).map (fun d => d.parameters.length) = some 2 := by decide +kernel
theorem g_Ty_met : Cond.initialized y_Ty_met.cls ∈ wG := wg_t 11 (by decide +kernel) (by decide +kernel)
theorem s_Ty_met : Cond.static y_Ty_met ∈ wG := wg_t 212 (by decide +kernel) (by decide +kernel)
theorem d_Ty_met_0 : decode b_Ty_met 0 = .ok (.iload_n 0, 1) := by decide +kernel
theorem d_Ty_met_1 : decode b_Ty_met 1 = .ok (.iconst (-1), 1) := by decide +kernel
theorem d_Ty_met_2 : decode b_Ty_met 2 = .ok (.if_icmp .ne (5), 3) := by decide +kernel
theorem d_Ty_met_5 : decode b_Ty_met 5 = .ok (.iload_n 1, 1) := by decide +kernel
theorem d_Ty_met_6 : decode b_Ty_met 6 = .ok (.ireturn, 1) := by decide +kernel
theorem d_Ty_met_7 : decode b_Ty_met 7 = .ok (.iload_n 0, 1) := by decide +kernel
theorem d_Ty_met_8 : decode b_Ty_met 8 = .ok (.bipush (-2), 2) := by decide +kernel
theorem d_Ty_met_10 : decode b_Ty_met 10 = .ok (.if_icmp .eq (14), 3) := by decide +kernel
theorem d_Ty_met_13 : decode b_Ty_met 13 = .ok (.iload_n 0, 1) := by decide +kernel
theorem d_Ty_met_14 : decode b_Ty_met 14 = .ok (.invokestatic 18, 3) := by decide +kernel
theorem d_Ty_met_17 : decode b_Ty_met 17 = .ok (.iload_n 1, 1) := by decide +kernel
theorem d_Ty_met_18 : decode b_Ty_met 18 = .ok (.invokestatic 18, 3) := by decide +kernel
theorem d_Ty_met_21 : decode b_Ty_met 21 = .ok (.if_icmp .eq (6), 3) := by decide +kernel
theorem d_Ty_met_24 : decode b_Ty_met 24 = .ok (.bipush (-2), 2) := by decide +kernel
theorem d_Ty_met_26 : decode b_Ty_met 26 = .ok (.ireturn, 1) := by decide +kernel
theorem d_Ty_met_27 : decode b_Ty_met 27 = .ok (.iload_n 0, 1) := by decide +kernel
theorem d_Ty_met_28 : decode b_Ty_met 28 = .ok (.istore_n 2, 1) := by decide +kernel
theorem d_Ty_met_29 : decode b_Ty_met 29 = .ok (.iconst 0, 1) := by decide +kernel
theorem d_Ty_met_30 : decode b_Ty_met 30 = .ok (.istore_n 3, 1) := by decide +kernel
theorem d_Ty_met_31 : decode b_Ty_met 31 = .ok (.iload_n 3, 1) := by decide +kernel
theorem d_Ty_met_32 : decode b_Ty_met 32 = .ok (.bipush (12), 2) := by decide +kernel
theorem d_Ty_met_34 : decode b_Ty_met 34 = .ok (.if_icmp .ge (29), 3) := by decide +kernel
theorem d_Ty_met_37 : decode b_Ty_met 37 = .ok (.iload_n 0, 1) := by decide +kernel
theorem d_Ty_met_38 : decode b_Ty_met 38 = .ok (.iload_n 3, 1) := by decide +kernel
theorem d_Ty_met_39 : decode b_Ty_met 39 = .ok (.invokestatic 15, 3) := by decide +kernel
theorem d_Ty_met_42 : decode b_Ty_met 42 = .ok (.iload_n 1, 1) := by decide +kernel
theorem d_Ty_met_43 : decode b_Ty_met 43 = .ok (.iload_n 3, 1) := by decide +kernel
theorem d_Ty_met_44 : decode b_Ty_met 44 = .ok (.invokestatic 15, 3) := by decide +kernel
theorem d_Ty_met_47 : decode b_Ty_met 47 = .ok (.if_icmp .eq (10), 3) := by decide +kernel
theorem d_Ty_met_50 : decode b_Ty_met 50 = .ok (.iload_n 2, 1) := by decide +kernel
theorem d_Ty_met_51 : decode b_Ty_met 51 = .ok (.iload_n 3, 1) := by decide +kernel
theorem d_Ty_met_52 : decode b_Ty_met 52 = .ok (.iconst 3, 1) := by decide +kernel
theorem d_Ty_met_53 : decode b_Ty_met 53 = .ok (.invokestatic 22, 3) := by decide +kernel
theorem d_Ty_met_56 : decode b_Ty_met 56 = .ok (.istore_n 2, 1) := by decide +kernel
theorem d_Ty_met_57 : decode b_Ty_met 57 = .ok (.iinc 3 (1), 3) := by decide +kernel
theorem d_Ty_met_60 : decode b_Ty_met 60 = .ok (.goto (-29), 3) := by decide +kernel
theorem d_Ty_met_63 : decode b_Ty_met 63 = .ok (.iload_n 2, 1) := by decide +kernel
theorem d_Ty_met_64 : decode b_Ty_met 64 = .ok (.ireturn, 1) := by decide +kernel
theorem k_Ty_11 {R : Room} {s : State} {args : Array Value} {Ts : List Cond} (hts : ∀ w ∈ Ts, w.before args s = true) (hsub : ∀ w ∈ wG, w ∈ Ts) (hR : rm_Ty_slotBelow.frames + 1 ≤ R.frames ∧ 8 + (2 + 11) + rm_Ty_slotBelow.locals ≤ R.locals) : CallB R s args "FrameVerifier$Types" 11 y_Ty_slotBelow b_Ty_slotBelow 2 (some .int) w_Ty_slotBelow rm_Ty_slotBelow 0 0 2 ∧ (Cond.static y_Ty_slotBelow).before args s = true := ⟨cb_G hts hsub m_Ty_slotBelow g_Ty_slotBelow (wg_t 345 (by decide +kernel) (by decide +kernel) : Cond.methodLink "FrameVerifier$Types" 11 y_Ty_slotBelow ∈ wG) q_Ty_slotBelow rfl rfl hR, hts _ (hsub _ s_Ty_slotBelow)⟩
theorem k_Ty_15 {R : Room} {s : State} {args : Array Value} {Ts : List Cond} (hts : ∀ w ∈ Ts, w.before args s = true) (hsub : ∀ w ∈ wG, w ∈ Ts) (hR : rm_Ty_at.frames + 1 ≤ R.frames ∧ 8 + (2 + 11) + rm_Ty_at.locals ≤ R.locals) : CallB R s args "FrameVerifier$Types" 15 y_Ty_at b_Ty_at 2 (some .int) w_Ty_at rm_Ty_at 0 0 2 ∧ (Cond.static y_Ty_at).before args s = true := ⟨cb_G hts hsub m_Ty_at g_Ty_at (wg_t 217 (by decide +kernel) (by decide +kernel) : Cond.methodLink "FrameVerifier$Types" 15 y_Ty_at ∈ wG) q_Ty_at rfl rfl hR, hts _ (hsub _ s_Ty_at)⟩
theorem k_Ty_18 {R : Room} {s : State} {args : Array Value} {Ts : List Cond} (hts : ∀ w ∈ Ts, w.before args s = true) (hsub : ∀ w ∈ wG, w ∈ Ts) (hR : rm_Ty_height.frames + 1 ≤ R.frames ∧ 8 + (1 + 11) + rm_Ty_height.locals ≤ R.locals) : CallB R s args "FrameVerifier$Types" 18 y_Ty_height b_Ty_height 1 (some .int) w_Ty_height rm_Ty_height 0 0 1 ∧ (Cond.static y_Ty_height).before args s = true := ⟨cb_G hts hsub m_Ty_height g_Ty_height (wg_t 214 (by decide +kernel) (by decide +kernel) : Cond.methodLink "FrameVerifier$Types" 18 y_Ty_height ∈ wG) q_Ty_height rfl rfl hR, hts _ (hsub _ s_Ty_height)⟩
theorem k_Ty_22 {R : Room} {s : State} {args : Array Value} {Ts : List Cond} (hts : ∀ w ∈ Ts, w.before args s = true) (hsub : ∀ w ∈ wG, w ∈ Ts) (hR : rm_Ty_with.frames + 1 ≤ R.frames ∧ 8 + (4 + 11) + rm_Ty_with.locals ≤ R.locals) : CallB R s args "FrameVerifier$Types" 22 y_Ty_with b_Ty_with 4 (some .int) w_Ty_with rm_Ty_with 0 0 3 ∧ (Cond.static y_Ty_with).before args s = true := ⟨cb_G hts hsub m_Ty_with g_Ty_with (wg_t 220 (by decide +kernel) (by decide +kernel) : Cond.methodLink "FrameVerifier$Types" 22 y_Ty_with ∈ wG) q_Ty_with rfl rfl hR, hts _ (hsub _ s_Ty_with)⟩
end
section
/-! contracts of 05.types; written by wip/whole/make.py -/
def fn_Ty_height (σ : mm_M) (a0 : Int32) : Option (Int32 × mm_M) :=
    (some ((a0 &&& (7 : Int32)), σ))
set_option maxRecDepth 100000 in
set_option maxHeartbeats 40000000 in
theorem c_Ty_height (l : Launch) (D : va_G) (ca : Nat → ClassId) (ax : Nat → Nat → Nat) (b : Nat) (σ : mm_M) (a0 : Int32)  {r : Int32} {σ' : mm_M} (hf : fn_Ty_height σ a0 = some (r, σ')) : Met l y_Ty_height w_Ty_height rm_Ty_height (pc_w D cls b N_C (ce_C ca b) (kC D ca ax b) [.int a0] σ) (qc_i D cls b N_C (ce_C ca b) r σ') 0 0 (mm_A b N_C) := by
  refine vv_go (cc := b_Ty_height) (maxL := 1) (ret := (some .int)) (fin := (r, σ')) (k := fn_Ty_height σ a0) (by decide) rfl (by simp [Value.category]) (Nat.le_of_ble_eq_true rfl) hf ?_
  intro p e s m below meth c hlocks hret S hKK
  unfold fn_Ty_height
  refine v_iload_n S d_Ty_height_0 rfl rfl ?_
  refine v_bipush S d_Ty_height_1 (v := (7 : Int32)) (by decide) ?_
  refine v_iand S d_Ty_height_3 ?_
  exact v_iret S hret hlocks d_Ty_height_4
def fn_Ty_at (σ : mm_M) (a0 : Int32) (a1 : Int32) : Option (Int32 × mm_M) :=
    (some (((a0 >>> (((3 : Int32) + ((2 : Int32) * a1)) &&& 31)) &&& (3 : Int32)), σ))
set_option maxRecDepth 100000 in
set_option maxHeartbeats 40000000 in
theorem c_Ty_at (l : Launch) (D : va_G) (ca : Nat → ClassId) (ax : Nat → Nat → Nat) (b : Nat) (σ : mm_M) (a0 : Int32) (a1 : Int32)  {r : Int32} {σ' : mm_M} (hf : fn_Ty_at σ a0 a1 = some (r, σ')) : Met l y_Ty_at w_Ty_at rm_Ty_at (pc_w D cls b N_C (ce_C ca b) (kC D ca ax b) [.int a0, .int a1] σ) (qc_i D cls b N_C (ce_C ca b) r σ') 0 0 (mm_A b N_C) := by
  refine vv_go (cc := b_Ty_at) (maxL := 2) (ret := (some .int)) (fin := (r, σ')) (k := fn_Ty_at σ a0 a1) (by decide) rfl (by simp [Value.category]) (Nat.le_of_ble_eq_true rfl) hf ?_
  intro p e s m below meth c hlocks hret S hKK
  unfold fn_Ty_at
  refine v_iload_n S d_Ty_at_0 rfl rfl ?_
  refine v_iconst S d_Ty_at_1 (v := (3 : Int32)) (by decide) ?_
  refine v_iconst S d_Ty_at_2 (v := (2 : Int32)) (by decide) ?_
  refine v_iload_n S d_Ty_at_3 rfl rfl ?_
  refine v_imul S d_Ty_at_4 ?_
  refine v_iadd S d_Ty_at_5 ?_
  refine v_ishr S d_Ty_at_6 ?_
  refine v_iconst S d_Ty_at_7 (v := (3 : Int32)) (by decide) ?_
  refine v_iand S d_Ty_at_8 ?_
  exact v_iret S hret hlocks d_Ty_at_9
def fn_Ty_with (σ : mm_M) (a0 : Int32) (a1 : Int32) (a2 : Int32) : Option (Int32 × mm_M) :=
    (nm ((3 : Int32) + ((2 : Int32) * a1)) (fun x1 =>
    (some (((a0 &&& (((3 : Int32) <<< (x1 &&& 31)) ^^^ (-1 : Int32))) ||| (a2 <<< (x1 &&& 31))), σ))))
set_option maxRecDepth 100000 in
set_option maxHeartbeats 40000000 in
theorem c_Ty_with (l : Launch) (D : va_G) (ca : Nat → ClassId) (ax : Nat → Nat → Nat) (b : Nat) (σ : mm_M) (a0 : Int32) (a1 : Int32) (a2 : Int32)  {r : Int32} {σ' : mm_M} (hf : fn_Ty_with σ a0 a1 a2 = some (r, σ')) : Met l y_Ty_with w_Ty_with rm_Ty_with (pc_w D cls b N_C (ce_C ca b) (kC D ca ax b) [.int a0, .int a1, .int a2] σ) (qc_i D cls b N_C (ce_C ca b) r σ') 0 0 (mm_A b N_C) := by
  refine vv_go (cc := b_Ty_with) (maxL := 4) (ret := (some .int)) (fin := (r, σ')) (k := fn_Ty_with σ a0 a1 a2) (by decide) rfl (by simp [Value.category]) (Nat.le_of_ble_eq_true rfl) hf ?_
  intro p e s m below meth c hlocks hret S hKK
  unfold fn_Ty_with
  refine v_iconst S d_Ty_with_0 (v := (3 : Int32)) (by decide) ?_
  refine v_iconst S d_Ty_with_1 (v := (2 : Int32)) (by decide) ?_
  refine v_iload_n S d_Ty_with_2 rfl rfl ?_
  refine v_imul S d_Ty_with_3 ?_
  refine v_iadd S d_Ty_with_4 ?_
  refine v_top (fun x1 ex1 => ?_)
  refine v_istore_nP S d_Ty_with_5 rfl (by decide) (L2 := [some (.int a0), some (.int a1), some (.int a2), some (.int x1)]) rfl ?_
  refine v_iload_n S d_Ty_with_6 rfl rfl ?_
  refine v_iconst S d_Ty_with_7 (v := (3 : Int32)) (by decide) ?_
  refine v_iload_n S d_Ty_with_8 rfl rfl ?_
  refine v_ishl S d_Ty_with_9 ?_
  refine v_iconst S d_Ty_with_10 (v := (-1 : Int32)) (by decide) ?_
  refine v_ixor S d_Ty_with_11 ?_
  refine v_iand S d_Ty_with_12 ?_
  refine v_iload_n S d_Ty_with_13 rfl rfl ?_
  refine v_iload_n S d_Ty_with_14 rfl rfl ?_
  refine v_ishl S d_Ty_with_15 ?_
  refine v_ior S d_Ty_with_16 ?_
  exact v_iret S hret hlocks d_Ty_with_17
def fn_Ty_slotBelow (σ : mm_M) (a0 : Int32) (a1 : Int32) : Option (Int32 × mm_M) :=
    (some (((((6 : Int32) + (a0 &&& (7 : Int32))) - (1 : Int32)) - a1), σ))
set_option maxRecDepth 100000 in
set_option maxHeartbeats 40000000 in
theorem c_Ty_slotBelow (l : Launch) (D : va_G) (ca : Nat → ClassId) (ax : Nat → Nat → Nat) (b : Nat) (σ : mm_M) (a0 : Int32) (a1 : Int32)  {r : Int32} {σ' : mm_M} (hf : fn_Ty_slotBelow σ a0 a1 = some (r, σ')) : Met l y_Ty_slotBelow w_Ty_slotBelow rm_Ty_slotBelow (pc_w D cls b N_C (ce_C ca b) (kC D ca ax b) [.int a0, .int a1] σ) (qc_i D cls b N_C (ce_C ca b) r σ') 0 0 (mm_A b N_C) := by
  refine vv_go (cc := b_Ty_slotBelow) (maxL := 2) (ret := (some .int)) (fin := (r, σ')) (k := fn_Ty_slotBelow σ a0 a1) (by decide) rfl (by simp [Value.category]) (Nat.le_of_ble_eq_true rfl) hf ?_
  intro p e s m below meth c hlocks hret S hKK
  unfold fn_Ty_slotBelow
  refine v_bipush S d_Ty_slotBelow_0 (v := (6 : Int32)) (by decide) ?_
  refine v_iload_n S d_Ty_slotBelow_2 rfl rfl ?_
  refine v_bipush S d_Ty_slotBelow_3 (v := (7 : Int32)) (by decide) ?_
  refine v_iand S d_Ty_slotBelow_5 ?_
  refine v_iadd S d_Ty_slotBelow_6 ?_
  refine v_iconst S d_Ty_slotBelow_7 (v := (1 : Int32)) (by decide) ?_
  refine v_isub S d_Ty_slotBelow_8 ?_
  refine v_iload_n S d_Ty_slotBelow_9 rfl rfl ?_
  refine v_isub S d_Ty_slotBelow_10 ?_
  exact v_iret S hret hlocks d_Ty_slotBelow_11
def fn_Ty_below (σ : mm_M) (a0 : Int32) (a1 : Int32) : Option (Int32 × mm_M) :=
    (bd (fn_Ty_slotBelow σ a0 a1) (fun r2 σ1 =>
    (bd (fn_Ty_at σ1 a0 r2) (fun r4 σ3 =>
    (some (r4, σ3))))))
set_option maxRecDepth 100000 in
set_option maxHeartbeats 40000000 in
theorem c_Ty_below (l : Launch) (D : va_G) (ca : Nat → ClassId) (ax : Nat → Nat → Nat) (b : Nat) (σ : mm_M) (a0 : Int32) (a1 : Int32)  {r : Int32} {σ' : mm_M} (hf : fn_Ty_below σ a0 a1 = some (r, σ')) : Met l y_Ty_below w_Ty_below rm_Ty_below (pc_w D cls b N_C (ce_C ca b) (kC D ca ax b) [.int a0, .int a1] σ) (qc_i D cls b N_C (ce_C ca b) r σ') 0 0 (mm_A b N_C) := by
  refine vv_go (cc := b_Ty_below) (maxL := 2) (ret := (some .int)) (fin := (r, σ')) (k := fn_Ty_below σ a0 a1) (by decide) rfl (by simp [Value.category]) (Nat.le_of_ble_eq_true rfl) hf ?_
  intro p e s m below meth c hlocks hret S hKK
  unfold fn_Ty_below
  refine v_iload_n S d_Ty_below_0 rfl rfl ?_
  refine v_iload_n S d_Ty_below_1 rfl rfl ?_
  refine v_iload_n S d_Ty_below_2 rfl rfl ?_
  refine v_ci (rest := [.int a0]) (fun _ _ hg H locs ls hsz hP hS => run_S (As := [.int a0, .int a1]) (rest := [.int a0]) S kC_ok hKK (c_Ty_slotBelow l D ca ax b σ a0 a1 hg) (k_Ty_11 S.2.2.2.2 (fun _ => List.mem_cons_of_mem _) ⟨Nat.le_of_ble_eq_true rfl, Nat.le_of_ble_eq_true rfl⟩) rfl rfl (by simp [Value.category]) d_Ty_below_3 hsz hP hS) (fun r2 σ1 _ => ?_)
  refine v_ci (rest := []) (fun _ _ hg H locs ls hsz hP hS => run_S (As := [.int a0, .int r2]) (rest := []) S kC_ok hKK (c_Ty_at l D ca ax b σ1 a0 r2 hg) (k_Ty_15 S.2.2.2.2 (fun _ => List.mem_cons_of_mem _) ⟨Nat.le_of_ble_eq_true rfl, Nat.le_of_ble_eq_true rfl⟩) rfl rfl (Nat.zero_le _) d_Ty_below_6 hsz hP hS) (fun r4 σ3 _ => ?_)
  exact v_iret S hret hlocks d_Ty_below_9
def fn_Ty_pushed (σ : mm_M) (a0 : Int32) (a1 : Int32) : Option (Int32 × mm_M) :=
    (bd (fn_Ty_height σ a0) (fun r2 σ1 =>
    (bd (fn_Ty_with σ1 a0 ((6 : Int32) + r2) a1) (fun r4 σ3 =>
    (some ((r4 + (1 : Int32)), σ3))))))
set_option maxRecDepth 100000 in
set_option maxHeartbeats 40000000 in
theorem c_Ty_pushed (l : Launch) (D : va_G) (ca : Nat → ClassId) (ax : Nat → Nat → Nat) (b : Nat) (σ : mm_M) (a0 : Int32) (a1 : Int32)  {r : Int32} {σ' : mm_M} (hf : fn_Ty_pushed σ a0 a1 = some (r, σ')) : Met l y_Ty_pushed w_Ty_pushed rm_Ty_pushed (pc_w D cls b N_C (ce_C ca b) (kC D ca ax b) [.int a0, .int a1] σ) (qc_i D cls b N_C (ce_C ca b) r σ') 0 0 (mm_A b N_C) := by
  refine vv_go (cc := b_Ty_pushed) (maxL := 2) (ret := (some .int)) (fin := (r, σ')) (k := fn_Ty_pushed σ a0 a1) (by decide) rfl (by simp [Value.category]) (Nat.le_of_ble_eq_true rfl) hf ?_
  intro p e s m below meth c hlocks hret S hKK
  unfold fn_Ty_pushed
  refine v_iload_n S d_Ty_pushed_0 rfl rfl ?_
  refine v_bipush S d_Ty_pushed_1 (v := (6 : Int32)) (by decide) ?_
  refine v_iload_n S d_Ty_pushed_3 rfl rfl ?_
  refine v_ci (rest := [.int (6 : Int32), .int a0]) (fun _ _ hg H locs ls hsz hP hS => run_S (As := [.int a0]) (rest := [.int (6 : Int32), .int a0]) S kC_ok hKK (c_Ty_height l D ca ax b σ a0 hg) (k_Ty_18 S.2.2.2.2 (fun _ => List.mem_cons_of_mem _) ⟨Nat.le_of_ble_eq_true rfl, Nat.le_of_ble_eq_true rfl⟩) rfl rfl (by simp [Value.category]) d_Ty_pushed_4 hsz hP hS) (fun r2 σ1 _ => ?_)
  refine v_iadd S d_Ty_pushed_7 ?_
  refine v_iload_n S d_Ty_pushed_8 rfl rfl ?_
  refine v_ci (rest := []) (fun _ _ hg H locs ls hsz hP hS => run_S (As := [.int a0, .int ((6 : Int32) + r2), .int a1]) (rest := []) S kC_ok hKK (c_Ty_with l D ca ax b σ1 a0 ((6 : Int32) + r2) a1 hg) (k_Ty_22 S.2.2.2.2 (fun _ => List.mem_cons_of_mem _) ⟨Nat.le_of_ble_eq_true rfl, Nat.le_of_ble_eq_true rfl⟩) rfl rfl (Nat.zero_le _) d_Ty_pushed_9 hsz hP hS) (fun r4 σ3 _ => ?_)
  refine v_iconst S d_Ty_pushed_12 (v := (1 : Int32)) (by decide) ?_
  refine v_iadd S d_Ty_pushed_13 ?_
  exact v_iret S hret hlocks d_Ty_pushed_14
def fn_Ty_dropped_4 (a0 : Int32) (a1 : Int32) : Nat → mm_M → Int32 → Int32 → Option (Int32 × mm_M)
  | 0, _, _, _ => none
  | n + 1, σ, l2, l3 =>
    (if a1 ≤ l3 then
    (some (l2, σ))
    else
    (bd (fn_Ty_slotBelow σ l2 (0 : Int32)) (fun r3 σ2 =>
    (bd (fn_Ty_with σ2 l2 r3 (0 : Int32)) (fun r5 σ4 =>
    (nm (r5 - (1 : Int32)) (fun x6 =>
    (fn_Ty_dropped_4 a0 a1 n σ4 x6 (l3 + (1 : Int32))))))))))
def fn_Ty_dropped (σ : mm_M) (a0 : Int32) (a1 : Int32) : Option (Int32 × mm_M) :=
    (fn_Ty_dropped_4 a0 a1 fuel0 σ a0 (0 : Int32))
set_option maxRecDepth 100000 in
set_option maxHeartbeats 40000000 in
theorem c_Ty_dropped (l : Launch) (D : va_G) (ca : Nat → ClassId) (ax : Nat → Nat → Nat) (b : Nat) (σ : mm_M) (a0 : Int32) (a1 : Int32)  {r : Int32} {σ' : mm_M} (hf : fn_Ty_dropped σ a0 a1 = some (r, σ')) : Met l y_Ty_dropped w_Ty_dropped rm_Ty_dropped (pc_w D cls b N_C (ce_C ca b) (kC D ca ax b) [.int a0, .int a1] σ) (qc_i D cls b N_C (ce_C ca b) r σ') 0 0 (mm_A b N_C) := by
  refine vv_go (cc := b_Ty_dropped) (maxL := 4) (ret := (some .int)) (fin := (r, σ')) (k := fn_Ty_dropped σ a0 a1) (by decide) rfl (by simp [Value.category]) (Nat.le_of_ble_eq_true rfl) hf ?_
  intro p e s m below meth c hlocks hret S hKK
  have C4 : ∀ (n : Nat) (σ : mm_M) (l2 : Int32) (l3 : Int32), vv p l e (headSpec w_Ty_dropped rm_Ty_dropped).room s m [.int a0, .int a1].toArray below meth c D cls b N_C (ce_C ca b) 4 (MQ below (qc_i D cls b N_C (ce_C ca b) r σ') [.int a0, .int a1].toArray s 0 0 (mm_A b N_C)) (r, σ') (fn_Ty_dropped_4 a0 a1 n σ l2 l3) σ 4 [none, some (.int a1), some (.int l2), some (.int l3)] [] := by
    intro n
    induction n with
    | zero => intro σ l2 l3  h; cases h
    | succ n ih =>
      intro σ l2 l3
      show vv p l e (headSpec w_Ty_dropped rm_Ty_dropped).room s m [.int a0, .int a1].toArray below meth c D cls b N_C (ce_C ca b) 4 (MQ below (qc_i D cls b N_C (ce_C ca b) r σ') [.int a0, .int a1].toArray s 0 0 (mm_A b N_C)) (r, σ') (        (if a1 ≤ l3 then
        (some (l2, σ))
        else
        (bd (fn_Ty_slotBelow σ l2 (0 : Int32)) (fun r3 σ2 =>
        (bd (fn_Ty_with σ2 l2 r3 (0 : Int32)) (fun r5 σ4 =>
        (nm (r5 - (1 : Int32)) (fun x6 =>
        (fn_Ty_dropped_4 a0 a1 n σ4 x6 (l3 + (1 : Int32))))))))))) σ 4 [none, some (.int a1), some (.int l2), some (.int l3)] []
      refine v_iload_n S d_Ty_dropped_4 rfl rfl ?_
      refine v_iload_n S d_Ty_dropped_5 rfl rfl ?_
      refine v_icmp_ge S d_Ty_dropped_6 (tgt := 28) (by decide) (fun h1 => ?_) (fun h1 => ?_)
      · refine v_iload_n S d_Ty_dropped_28 rfl rfl ?_
        exact v_iret S hret hlocks d_Ty_dropped_29
      · refine v_iload_n S d_Ty_dropped_9 rfl rfl ?_
        refine v_iload_n S d_Ty_dropped_10 rfl rfl ?_
        refine v_iconst S d_Ty_dropped_11 (v := (0 : Int32)) (by decide) ?_
        refine v_ci (rest := [.int l2]) (fun _ _ hg H locs ls hsz hP hS => run_S (As := [.int l2, .int (0 : Int32)]) (rest := [.int l2]) S kC_ok hKK (c_Ty_slotBelow l D ca ax b σ l2 (0 : Int32) hg) (k_Ty_11 S.2.2.2.2 (fun _ => List.mem_cons_of_mem _) ⟨Nat.le_of_ble_eq_true rfl, Nat.le_of_ble_eq_true rfl⟩) rfl rfl (by simp [Value.category]) d_Ty_dropped_12 hsz hP hS) (fun r3 σ2 _ => ?_)
        refine v_iconst S d_Ty_dropped_15 (v := (0 : Int32)) (by decide) ?_
        refine v_ci (rest := []) (fun _ _ hg H locs ls hsz hP hS => run_S (As := [.int l2, .int r3, .int (0 : Int32)]) (rest := []) S kC_ok hKK (c_Ty_with l D ca ax b σ2 l2 r3 (0 : Int32) hg) (k_Ty_22 S.2.2.2.2 (fun _ => List.mem_cons_of_mem _) ⟨Nat.le_of_ble_eq_true rfl, Nat.le_of_ble_eq_true rfl⟩) rfl rfl (Nat.zero_le _) d_Ty_dropped_16 hsz hP hS) (fun r5 σ4 _ => ?_)
        refine v_iconst S d_Ty_dropped_19 (v := (1 : Int32)) (by decide) ?_
        refine v_isub S d_Ty_dropped_20 ?_
        refine v_top (fun x6 ex6 => ?_)
        refine v_istore_nP S d_Ty_dropped_21 rfl (by decide) (L2 := [none, some (.int a1), some (.int x6), some (.int l3)]) rfl ?_
        refine v_iinc S d_Ty_dropped_22 rfl (v := (l3 + (1 : Int32))) (by first | rfl | decide) (by decide) (L2 := [none, some (.int a1), some (.int x6), some (.int (l3 + (1 : Int32)))]) rfl ?_
        refine v_goto S d_Ty_dropped_25 (tgt := 4) (by decide) ?_
        refine v_sub (L2 := [none, some (.int a1), some (.int x6), some (.int (l3 + (1 : Int32)))]) (And.intro rfl (And.intro rfl (And.intro rfl True.intro))) ?_
        exact ih σ4 x6 (l3 + (1 : Int32))
  unfold fn_Ty_dropped
  refine v_iload_n S d_Ty_dropped_0 rfl rfl ?_
  refine v_istore_nP S d_Ty_dropped_1 rfl (by decide) (L2 := [some (.int a0), some (.int a1), some (.int a0)]) rfl ?_
  refine v_iconst S d_Ty_dropped_2 (v := (0 : Int32)) (by decide) ?_
  refine v_istore_nP S d_Ty_dropped_3 rfl (by decide) (L2 := [some (.int a0), some (.int a1), some (.int a0), some (.int (0 : Int32))]) rfl ?_
  refine v_sub (L2 := [none, some (.int a1), some (.int a0), some (.int (0 : Int32))]) (And.intro rfl (And.intro rfl (And.intro rfl True.intro))) ?_
  exact C4 fuel0 σ a0 (0 : Int32)
def fn_Ty_met_31 (a0 : Int32) (a1 : Int32) : Nat → mm_M → Int32 → Int32 → Option (Int32 × mm_M)
  | 0, _, _, _ => none
  | n + 1, σ, l2, l3 =>
    (if (12 : Int32) ≤ l3 then
    (some (l2, σ))
    else
    (bd (fn_Ty_at σ a0 l3) (fun r10 σ9 =>
    (bd (fn_Ty_at σ9 a1 l3) (fun r12 σ11 =>
    (if r10 = r12 then
    (fn_Ty_met_31 a0 a1 n σ11 l2 (l3 + (1 : Int32)))
    else
    (bd (fn_Ty_with σ11 l2 l3 (3 : Int32)) (fun r16 σ15 =>
    (fn_Ty_met_31 a0 a1 n σ15 r16 (l3 + (1 : Int32)))))))))))
def fn_Ty_met (σ : mm_M) (a0 : Int32) (a1 : Int32) : Option (Int32 × mm_M) :=
    (if a0 = (-1 : Int32) then
    (some (a1, σ))
    else
    (if a0 = (-2 : Int32) then
    (some ((-2 : Int32), σ))
    else
    (bd (fn_Ty_height σ a0) (fun r4 σ3 =>
    (bd (fn_Ty_height σ3 a1) (fun r6 σ5 =>
    (if r4 = r6 then
    (fn_Ty_met_31 a0 a1 fuel0 σ5 a0 (0 : Int32))
    else
    (some ((-2 : Int32), σ5)))))))))
set_option maxRecDepth 100000 in
set_option maxHeartbeats 40000000 in
theorem c_Ty_met (l : Launch) (D : va_G) (ca : Nat → ClassId) (ax : Nat → Nat → Nat) (b : Nat) (σ : mm_M) (a0 : Int32) (a1 : Int32)  {r : Int32} {σ' : mm_M} (hf : fn_Ty_met σ a0 a1 = some (r, σ')) : Met l y_Ty_met w_Ty_met rm_Ty_met (pc_w D cls b N_C (ce_C ca b) (kC D ca ax b) [.int a0, .int a1] σ) (qc_i D cls b N_C (ce_C ca b) r σ') 0 0 (mm_A b N_C) := by
  refine vv_go (cc := b_Ty_met) (maxL := 4) (ret := (some .int)) (fin := (r, σ')) (k := fn_Ty_met σ a0 a1) (by decide) rfl (by simp [Value.category]) (Nat.le_of_ble_eq_true rfl) hf ?_
  intro p e s m below meth c hlocks hret S hKK
  have C31 : ∀ (n : Nat) (σ : mm_M) (l2 : Int32) (l3 : Int32), vv p l e (headSpec w_Ty_met rm_Ty_met).room s m [.int a0, .int a1].toArray below meth c D cls b N_C (ce_C ca b) 4 (MQ below (qc_i D cls b N_C (ce_C ca b) r σ') [.int a0, .int a1].toArray s 0 0 (mm_A b N_C)) (r, σ') (fn_Ty_met_31 a0 a1 n σ l2 l3) σ 31 [some (.int a0), some (.int a1), some (.int l2), some (.int l3)] [] := by
    intro n
    induction n with
    | zero => intro σ l2 l3  h; cases h
    | succ n ih =>
      intro σ l2 l3
      show vv p l e (headSpec w_Ty_met rm_Ty_met).room s m [.int a0, .int a1].toArray below meth c D cls b N_C (ce_C ca b) 4 (MQ below (qc_i D cls b N_C (ce_C ca b) r σ') [.int a0, .int a1].toArray s 0 0 (mm_A b N_C)) (r, σ') (        (if (12 : Int32) ≤ l3 then
        (some (l2, σ))
        else
        (bd (fn_Ty_at σ a0 l3) (fun r10 σ9 =>
        (bd (fn_Ty_at σ9 a1 l3) (fun r12 σ11 =>
        (if r10 = r12 then
        (fn_Ty_met_31 a0 a1 n σ11 l2 (l3 + (1 : Int32)))
        else
        (bd (fn_Ty_with σ11 l2 l3 (3 : Int32)) (fun r16 σ15 =>
        (fn_Ty_met_31 a0 a1 n σ15 r16 (l3 + (1 : Int32)))))))))))) σ 31 [some (.int a0), some (.int a1), some (.int l2), some (.int l3)] []
      refine v_iload_n S d_Ty_met_31 rfl rfl ?_
      refine v_bipush S d_Ty_met_32 (v := (12 : Int32)) (by decide) ?_
      refine v_icmp_ge S d_Ty_met_34 (tgt := 63) (by decide) (fun h8 => ?_) (fun h8 => ?_)
      · refine v_iload_n S d_Ty_met_63 rfl rfl ?_
        exact v_iret S hret hlocks d_Ty_met_64
      · refine v_iload_n S d_Ty_met_37 rfl rfl ?_
        refine v_iload_n S d_Ty_met_38 rfl rfl ?_
        refine v_ci (rest := []) (fun _ _ hg H locs ls hsz hP hS => run_S (As := [.int a0, .int l3]) (rest := []) S kC_ok hKK (c_Ty_at l D ca ax b σ a0 l3 hg) (k_Ty_15 S.2.2.2.2 (fun _ => List.mem_cons_of_mem _) ⟨Nat.le_of_ble_eq_true rfl, Nat.le_of_ble_eq_true rfl⟩) rfl rfl (Nat.zero_le _) d_Ty_met_39 hsz hP hS) (fun r10 σ9 _ => ?_)
        refine v_iload_n S d_Ty_met_42 rfl rfl ?_
        refine v_iload_n S d_Ty_met_43 rfl rfl ?_
        refine v_ci (rest := [.int r10]) (fun _ _ hg H locs ls hsz hP hS => run_S (As := [.int a1, .int l3]) (rest := [.int r10]) S kC_ok hKK (c_Ty_at l D ca ax b σ9 a1 l3 hg) (k_Ty_15 S.2.2.2.2 (fun _ => List.mem_cons_of_mem _) ⟨Nat.le_of_ble_eq_true rfl, Nat.le_of_ble_eq_true rfl⟩) rfl rfl (by simp [Value.category]) d_Ty_met_44 hsz hP hS) (fun r12 σ11 _ => ?_)
        refine v_icmp_eq S d_Ty_met_47 (tgt := 57) (by decide) (fun h13 => ?_) (fun h13 => ?_)
        · refine v_iinc S d_Ty_met_57 rfl (v := (l3 + (1 : Int32))) (by first | rfl | decide) (by decide) (L2 := [some (.int a0), some (.int a1), some (.int l2), some (.int (l3 + (1 : Int32)))]) rfl ?_
          refine v_goto S d_Ty_met_60 (tgt := 31) (by decide) ?_
          refine v_sub (L2 := [some (.int a0), some (.int a1), some (.int l2), some (.int (l3 + (1 : Int32)))]) (And.intro rfl (And.intro rfl (And.intro rfl (And.intro rfl True.intro)))) ?_
          exact ih σ11 l2 (l3 + (1 : Int32))
        · refine v_iload_n S d_Ty_met_50 rfl rfl ?_
          refine v_iload_n S d_Ty_met_51 rfl rfl ?_
          refine v_iconst S d_Ty_met_52 (v := (3 : Int32)) (by decide) ?_
          refine v_ci (rest := []) (fun _ _ hg H locs ls hsz hP hS => run_S (As := [.int l2, .int l3, .int (3 : Int32)]) (rest := []) S kC_ok hKK (c_Ty_with l D ca ax b σ11 l2 l3 (3 : Int32) hg) (k_Ty_22 S.2.2.2.2 (fun _ => List.mem_cons_of_mem _) ⟨Nat.le_of_ble_eq_true rfl, Nat.le_of_ble_eq_true rfl⟩) rfl rfl (Nat.zero_le _) d_Ty_met_53 hsz hP hS) (fun r16 σ15 _ => ?_)
          refine v_istore_nP S d_Ty_met_56 rfl (by decide) (L2 := [some (.int a0), some (.int a1), some (.int r16), some (.int l3)]) rfl ?_
          refine v_iinc S d_Ty_met_57 rfl (v := (l3 + (1 : Int32))) (by first | rfl | decide) (by decide) (L2 := [some (.int a0), some (.int a1), some (.int r16), some (.int (l3 + (1 : Int32)))]) rfl ?_
          refine v_goto S d_Ty_met_60 (tgt := 31) (by decide) ?_
          refine v_sub (L2 := [some (.int a0), some (.int a1), some (.int r16), some (.int (l3 + (1 : Int32)))]) (And.intro rfl (And.intro rfl (And.intro rfl (And.intro rfl True.intro)))) ?_
          exact ih σ15 r16 (l3 + (1 : Int32))
  unfold fn_Ty_met
  refine v_iload_n S d_Ty_met_0 rfl rfl ?_
  refine v_iconst S d_Ty_met_1 (v := (-1 : Int32)) (by decide) ?_
  refine v_icmp_ne S d_Ty_met_2 (tgt := 7) (by decide) (fun h1 => ?_) (fun h1 => ?_)
  · refine v_iload_n S d_Ty_met_7 rfl rfl ?_
    refine v_bipush S d_Ty_met_8 (v := (-2 : Int32)) (by decide) ?_
    refine v_icmp_eq S d_Ty_met_10 (tgt := 24) (by decide) (fun h2 => ?_) (fun h2 => ?_)
    · refine v_bipush S d_Ty_met_24 (v := (-2 : Int32)) (by decide) ?_
      exact v_iret S hret hlocks d_Ty_met_26
    · refine v_iload_n S d_Ty_met_13 rfl rfl ?_
      refine v_ci (rest := []) (fun _ _ hg H locs ls hsz hP hS => run_S (As := [.int a0]) (rest := []) S kC_ok hKK (c_Ty_height l D ca ax b σ a0 hg) (k_Ty_18 S.2.2.2.2 (fun _ => List.mem_cons_of_mem _) ⟨Nat.le_of_ble_eq_true rfl, Nat.le_of_ble_eq_true rfl⟩) rfl rfl (Nat.zero_le _) d_Ty_met_14 hsz hP hS) (fun r4 σ3 _ => ?_)
      refine v_iload_n S d_Ty_met_17 rfl rfl ?_
      refine v_ci (rest := [.int r4]) (fun _ _ hg H locs ls hsz hP hS => run_S (As := [.int a1]) (rest := [.int r4]) S kC_ok hKK (c_Ty_height l D ca ax b σ3 a1 hg) (k_Ty_18 S.2.2.2.2 (fun _ => List.mem_cons_of_mem _) ⟨Nat.le_of_ble_eq_true rfl, Nat.le_of_ble_eq_true rfl⟩) rfl rfl (by simp [Value.category]) d_Ty_met_18 hsz hP hS) (fun r6 σ5 _ => ?_)
      refine v_icmp_eq S d_Ty_met_21 (tgt := 27) (by decide) (fun h7 => ?_) (fun h7 => ?_)
      · refine v_iload_n S d_Ty_met_27 rfl rfl ?_
        refine v_istore_nP S d_Ty_met_28 rfl (by decide) (L2 := [some (.int a0), some (.int a1), some (.int a0)]) rfl ?_
        refine v_iconst S d_Ty_met_29 (v := (0 : Int32)) (by decide) ?_
        refine v_istore_nP S d_Ty_met_30 rfl (by decide) (L2 := [some (.int a0), some (.int a1), some (.int a0), some (.int (0 : Int32))]) rfl ?_
        refine v_sub (L2 := [some (.int a0), some (.int a1), some (.int a0), some (.int (0 : Int32))]) (And.intro rfl (And.intro rfl (And.intro rfl (And.intro rfl True.intro)))) ?_
        exact C31 fuel0 σ5 a0 (0 : Int32)
      · refine v_bipush S d_Ty_met_24 (v := (-2 : Int32)) (by decide) ?_
        exact v_iret S hret hlocks d_Ty_met_26
  · refine v_iload_n S d_Ty_met_5 rfl rfl ?_
    exact v_iret S hret hlocks d_Ty_met_6
end
section
/-! names of 06.frames -/
def y_Fr_open : MethodName := ⟨"FrameVerifier$Frame", "open", "(III)V"⟩
abbrev b_Fr_open : ByteArray := prog_5_method_2_code
def rm_Fr_open : Room := { frames := 0, cells := 0, slots := 0, locals := 0 }
abbrev w_Fr_open : List Cond := Cond.code y_Fr_open b_Fr_open 4 none :: wG
theorem m_Fr_open : Cond.code y_Fr_open b_Fr_open 4 none ∈ wG := wg_t 401 (by decide +kernel) (by decide +kernel)
theorem q_Fr_open : y_Fr_open.cls ≠ "java/lang/invoke/MethodHandle" ∧ y_Fr_open.cls ≠ "java/lang/invoke/VarHandle" ∧ (parseMethodDescriptor y_Fr_open.desc).map (fun d => d.parameters.length) = some 3 := by decide +kernel
theorem g_Fr_open : Cond.initialized y_Fr_open.cls ∈ wG := wg_t 5 (by decide +kernel) (by decide +kernel)
theorem s_Fr_open : Cond.instanceMethod y_Fr_open ∈ wG := wg_t 399 (by decide +kernel) (by decide +kernel)
theorem e_Fr_open : Cond.selects "FrameVerifier$Frame" y_Fr_open y_Fr_open ∈ wG := wg_t 400 (by decide +kernel) (by decide +kernel)
theorem d_Fr_open_0 : decode b_Fr_open 0 = .ok (.aload_n 0, 1) := by decide +kernel
theorem d_Fr_open_1 : decode b_Fr_open 1 = .ok (.iload_n 1, 1) := by decide +kernel
theorem d_Fr_open_2 : decode b_Fr_open 2 = .ok (.putfield 9, 3) := by decide +kernel
theorem d_Fr_open_5 : decode b_Fr_open 5 = .ok (.aload_n 0, 1) := by decide +kernel
theorem d_Fr_open_6 : decode b_Fr_open 6 = .ok (.iload_n 2, 1) := by decide +kernel
theorem d_Fr_open_7 : decode b_Fr_open 7 = .ok (.putfield 15, 3) := by decide +kernel
theorem d_Fr_open_10 : decode b_Fr_open 10 = .ok (.aload_n 0, 1) := by decide +kernel
theorem d_Fr_open_11 : decode b_Fr_open 11 = .ok (.iload_n 3, 1) := by decide +kernel
theorem d_Fr_open_12 : decode b_Fr_open 12 = .ok (.putfield 20, 3) := by decide +kernel
theorem d_Fr_open_15 : decode b_Fr_open 15 = .ok (.return_, 1) := by decide +kernel
def y_Fr_setParameter : MethodName := ⟨"FrameVerifier$Frame", "setParameter", "(II)V"⟩
abbrev b_Fr_setParameter : ByteArray := prog_5_method_3_code
def rm_Fr_setParameter : Room := { frames := 0, cells := 0, slots := 0, locals := 0 }
abbrev w_Fr_setParameter : List Cond := Cond.code y_Fr_setParameter b_Fr_setParameter 3 none :: wG
theorem m_Fr_setParameter : Cond.code y_Fr_setParameter b_Fr_setParameter 3 none ∈ wG := wg_t 409 (by decide +kernel) (by decide +kernel)
theorem q_Fr_setParameter : y_Fr_setParameter.cls ≠ "java/lang/invoke/MethodHandle" ∧ y_Fr_setParameter.cls ≠ "java/lang/invoke/VarHandle" ∧ (parseMethodDescriptor y_Fr_setParameter.desc).map (fun d => d.parameters.length) = some 2 := by decide +kernel
theorem g_Fr_setParameter : Cond.initialized y_Fr_setParameter.cls ∈ wG := wg_t 5 (by decide +kernel) (by decide +kernel)
theorem s_Fr_setParameter : Cond.instanceMethod y_Fr_setParameter ∈ wG := wg_t 407 (by decide +kernel) (by decide +kernel)
theorem e_Fr_setParameter : Cond.selects "FrameVerifier$Frame" y_Fr_setParameter y_Fr_setParameter ∈ wG := wg_t 408 (by decide +kernel) (by decide +kernel)
theorem d_Fr_setParameter_0 : decode b_Fr_setParameter 0 = .ok (.aload_n 0, 1) := by decide +kernel
theorem d_Fr_setParameter_1 : decode b_Fr_setParameter 1 = .ok (.getfield 23, 3) := by decide +kernel
theorem d_Fr_setParameter_4 : decode b_Fr_setParameter 4 = .ok (.iload_n 1, 1) := by decide +kernel
theorem d_Fr_setParameter_5 : decode b_Fr_setParameter 5 = .ok (.iload_n 2, 1) := by decide +kernel
theorem d_Fr_setParameter_6 : decode b_Fr_setParameter 6 = .ok (.iastore, 1) := by decide +kernel
theorem d_Fr_setParameter_7 : decode b_Fr_setParameter 7 = .ok (.return_, 1) := by decide +kernel
def y_Fr_typeBelow : MethodName := ⟨"FrameVerifier$Frame", "typeBelow", "(I)I"⟩
abbrev b_Fr_typeBelow : ByteArray := prog_5_method_4_code
def rm_Fr_typeBelow : Room := { frames := 2, cells := 0, slots := 0, locals := 42 }
abbrev w_Fr_typeBelow : List Cond := Cond.code y_Fr_typeBelow b_Fr_typeBelow 2 (some .int) :: wG
theorem m_Fr_typeBelow : Cond.code y_Fr_typeBelow b_Fr_typeBelow 2 (some .int) ∈ wG := wg_t 691 (by decide +kernel) (by decide +kernel)
theorem q_Fr_typeBelow : y_Fr_typeBelow.cls ≠ "java/lang/invoke/MethodHandle" ∧ y_Fr_typeBelow.cls ≠ "java/lang/invoke/VarHandle" ∧ (parseMethodDescriptor y_Fr_typeBelow.desc).map (fun d => d.parameters.length) = some 1 := by decide +kernel
theorem g_Fr_typeBelow : Cond.initialized y_Fr_typeBelow.cls ∈ wG := wg_t 5 (by decide +kernel) (by decide +kernel)
theorem s_Fr_typeBelow : Cond.instanceMethod y_Fr_typeBelow ∈ wG := wg_t 689 (by decide +kernel) (by decide +kernel)
theorem e_Fr_typeBelow : Cond.selects "FrameVerifier$Frame" y_Fr_typeBelow y_Fr_typeBelow ∈ wG := wg_t 690 (by decide +kernel) (by decide +kernel)
theorem d_Fr_typeBelow_0 : decode b_Fr_typeBelow 0 = .ok (.aload_n 0, 1) := by decide +kernel
theorem d_Fr_typeBelow_1 : decode b_Fr_typeBelow 1 = .ok (.getfield 20, 3) := by decide +kernel
theorem d_Fr_typeBelow_4 : decode b_Fr_typeBelow 4 = .ok (.iload_n 1, 1) := by decide +kernel
theorem d_Fr_typeBelow_5 : decode b_Fr_typeBelow 5 = .ok (.invokestatic 27, 3) := by decide +kernel
theorem d_Fr_typeBelow_8 : decode b_Fr_typeBelow 8 = .ok (.ireturn, 1) := by decide +kernel
def y_Fr_below : MethodName := ⟨"FrameVerifier$Frame", "below", "(I)I"⟩
abbrev b_Fr_below : ByteArray := prog_5_method_5_code
def rm_Fr_below : Room := { frames := 1, cells := 0, slots := 0, locals := 21 }
abbrev w_Fr_below : List Cond := Cond.code y_Fr_below b_Fr_below 2 (some .int) :: wG
theorem m_Fr_below : Cond.code y_Fr_below b_Fr_below 2 (some .int) ∈ wG := wg_t 544 (by decide +kernel) (by decide +kernel)
theorem q_Fr_below : y_Fr_below.cls ≠ "java/lang/invoke/MethodHandle" ∧ y_Fr_below.cls ≠ "java/lang/invoke/VarHandle" ∧ (parseMethodDescriptor y_Fr_below.desc).map (fun d => d.parameters.length) = some 1 := by decide +kernel
theorem g_Fr_below : Cond.initialized y_Fr_below.cls ∈ wG := wg_t 5 (by decide +kernel) (by decide +kernel)
theorem s_Fr_below : Cond.instanceMethod y_Fr_below ∈ wG := wg_t 542 (by decide +kernel) (by decide +kernel)
theorem e_Fr_below : Cond.selects "FrameVerifier$Frame" y_Fr_below y_Fr_below ∈ wG := wg_t 543 (by decide +kernel) (by decide +kernel)
theorem d_Fr_below_0 : decode b_Fr_below 0 = .ok (.aload_n 0, 1) := by decide +kernel
theorem d_Fr_below_1 : decode b_Fr_below 1 = .ok (.getfield 23, 3) := by decide +kernel
theorem d_Fr_below_4 : decode b_Fr_below 4 = .ok (.aload_n 0, 1) := by decide +kernel
theorem d_Fr_below_5 : decode b_Fr_below 5 = .ok (.getfield 20, 3) := by decide +kernel
theorem d_Fr_below_8 : decode b_Fr_below 8 = .ok (.iload_n 1, 1) := by decide +kernel
theorem d_Fr_below_9 : decode b_Fr_below 9 = .ok (.invokestatic 31, 3) := by decide +kernel
theorem d_Fr_below_12 : decode b_Fr_below 12 = .ok (.iaload, 1) := by decide +kernel
theorem d_Fr_below_13 : decode b_Fr_below 13 = .ok (.ireturn, 1) := by decide +kernel
def y_Fr_push : MethodName := ⟨"FrameVerifier$Frame", "push", "(II)V"⟩
abbrev b_Fr_push : ByteArray := prog_5_method_6_code
def rm_Fr_push : Room := { frames := 2, cells := 0, slots := 0, locals := 44 }
abbrev w_Fr_push : List Cond := Cond.code y_Fr_push b_Fr_push 3 none :: wG
theorem m_Fr_push : Cond.code y_Fr_push b_Fr_push 3 none ∈ wG := wg_t 661 (by decide +kernel) (by decide +kernel)
theorem q_Fr_push : y_Fr_push.cls ≠ "java/lang/invoke/MethodHandle" ∧ y_Fr_push.cls ≠ "java/lang/invoke/VarHandle" ∧ (parseMethodDescriptor y_Fr_push.desc).map (fun d => d.parameters.length) = some 2 := by decide +kernel
theorem g_Fr_push : Cond.initialized y_Fr_push.cls ∈ wG := wg_t 5 (by decide +kernel) (by decide +kernel)
theorem s_Fr_push : Cond.instanceMethod y_Fr_push ∈ wG := wg_t 659 (by decide +kernel) (by decide +kernel)
theorem e_Fr_push : Cond.selects "FrameVerifier$Frame" y_Fr_push y_Fr_push ∈ wG := wg_t 660 (by decide +kernel) (by decide +kernel)
theorem d_Fr_push_0 : decode b_Fr_push 0 = .ok (.aload_n 0, 1) := by decide +kernel
theorem d_Fr_push_1 : decode b_Fr_push 1 = .ok (.aload_n 0, 1) := by decide +kernel
theorem d_Fr_push_2 : decode b_Fr_push 2 = .ok (.getfield 20, 3) := by decide +kernel
theorem d_Fr_push_5 : decode b_Fr_push 5 = .ok (.iload_n 1, 1) := by decide +kernel
theorem d_Fr_push_6 : decode b_Fr_push 6 = .ok (.invokestatic 34, 3) := by decide +kernel
theorem d_Fr_push_9 : decode b_Fr_push 9 = .ok (.putfield 20, 3) := by decide +kernel
theorem d_Fr_push_12 : decode b_Fr_push 12 = .ok (.aload_n 0, 1) := by decide +kernel
theorem d_Fr_push_13 : decode b_Fr_push 13 = .ok (.getfield 23, 3) := by decide +kernel
theorem d_Fr_push_16 : decode b_Fr_push 16 = .ok (.aload_n 0, 1) := by decide +kernel
theorem d_Fr_push_17 : decode b_Fr_push 17 = .ok (.getfield 20, 3) := by decide +kernel
theorem d_Fr_push_20 : decode b_Fr_push 20 = .ok (.iconst 0, 1) := by decide +kernel
theorem d_Fr_push_21 : decode b_Fr_push 21 = .ok (.invokestatic 31, 3) := by decide +kernel
theorem d_Fr_push_24 : decode b_Fr_push 24 = .ok (.iload_n 2, 1) := by decide +kernel
theorem d_Fr_push_25 : decode b_Fr_push 25 = .ok (.iastore, 1) := by decide +kernel
theorem d_Fr_push_26 : decode b_Fr_push 26 = .ok (.return_, 1) := by decide +kernel
def y_Fr_pop : MethodName := ⟨"FrameVerifier$Frame", "pop", "()I"⟩
abbrev b_Fr_pop : ByteArray := prog_5_method_7_code
def rm_Fr_pop : Room := { frames := 2, cells := 0, slots := 0, locals := 46 }
abbrev w_Fr_pop : List Cond := Cond.code y_Fr_pop b_Fr_pop 2 (some .int) :: wG
theorem m_Fr_pop : Cond.code y_Fr_pop b_Fr_pop 2 (some .int) ∈ wG := wg_t 645 (by decide +kernel) (by decide +kernel)
theorem q_Fr_pop : y_Fr_pop.cls ≠ "java/lang/invoke/MethodHandle" ∧ y_Fr_pop.cls ≠ "java/lang/invoke/VarHandle" ∧ (parseMethodDescriptor y_Fr_pop.desc).map (fun d => d.parameters.length) = some 0 := by decide +kernel
theorem g_Fr_pop : Cond.initialized y_Fr_pop.cls ∈ wG := wg_t 5 (by decide +kernel) (by decide +kernel)
theorem s_Fr_pop : Cond.instanceMethod y_Fr_pop ∈ wG := wg_t 643 (by decide +kernel) (by decide +kernel)
theorem e_Fr_pop : Cond.selects "FrameVerifier$Frame" y_Fr_pop y_Fr_pop ∈ wG := wg_t 644 (by decide +kernel) (by decide +kernel)
theorem d_Fr_pop_0 : decode b_Fr_pop 0 = .ok (.aload_n 0, 1) := by decide +kernel
theorem d_Fr_pop_1 : decode b_Fr_pop 1 = .ok (.iconst 0, 1) := by decide +kernel
theorem d_Fr_pop_2 : decode b_Fr_pop 2 = .ok (.invokevirtual 37, 3) := by decide +kernel
theorem d_Fr_pop_5 : decode b_Fr_pop 5 = .ok (.istore_n 1, 1) := by decide +kernel
theorem d_Fr_pop_6 : decode b_Fr_pop 6 = .ok (.aload_n 0, 1) := by decide +kernel
theorem d_Fr_pop_7 : decode b_Fr_pop 7 = .ok (.aload_n 0, 1) := by decide +kernel
theorem d_Fr_pop_8 : decode b_Fr_pop 8 = .ok (.getfield 20, 3) := by decide +kernel
theorem d_Fr_pop_11 : decode b_Fr_pop 11 = .ok (.iconst 1, 1) := by decide +kernel
theorem d_Fr_pop_12 : decode b_Fr_pop 12 = .ok (.invokestatic 40, 3) := by decide +kernel
theorem d_Fr_pop_15 : decode b_Fr_pop 15 = .ok (.putfield 20, 3) := by decide +kernel
theorem d_Fr_pop_18 : decode b_Fr_pop 18 = .ok (.iload_n 1, 1) := by decide +kernel
theorem d_Fr_pop_19 : decode b_Fr_pop 19 = .ok (.ireturn, 1) := by decide +kernel
def y_Fr_load : MethodName := ⟨"FrameVerifier$Frame", "load", "(I)V"⟩
abbrev b_Fr_load : ByteArray := prog_5_method_8_code
def rm_Fr_load : Room := { frames := 3, cells := 0, slots := 0, locals := 66 }
abbrev w_Fr_load : List Cond := Cond.code y_Fr_load b_Fr_load 2 none :: wG
theorem m_Fr_load : Cond.code y_Fr_load b_Fr_load 2 none ∈ wG := wg_t 699 (by decide +kernel) (by decide +kernel)
theorem q_Fr_load : y_Fr_load.cls ≠ "java/lang/invoke/MethodHandle" ∧ y_Fr_load.cls ≠ "java/lang/invoke/VarHandle" ∧ (parseMethodDescriptor y_Fr_load.desc).map (fun d => d.parameters.length) = some 1 := by decide +kernel
theorem g_Fr_load : Cond.initialized y_Fr_load.cls ∈ wG := wg_t 5 (by decide +kernel) (by decide +kernel)
theorem s_Fr_load : Cond.instanceMethod y_Fr_load ∈ wG := wg_t 697 (by decide +kernel) (by decide +kernel)
theorem e_Fr_load : Cond.selects "FrameVerifier$Frame" y_Fr_load y_Fr_load ∈ wG := wg_t 698 (by decide +kernel) (by decide +kernel)
theorem d_Fr_load_0 : decode b_Fr_load 0 = .ok (.aload_n 0, 1) := by decide +kernel
theorem d_Fr_load_1 : decode b_Fr_load 1 = .ok (.aload_n 0, 1) := by decide +kernel
theorem d_Fr_load_2 : decode b_Fr_load 2 = .ok (.getfield 20, 3) := by decide +kernel
theorem d_Fr_load_5 : decode b_Fr_load 5 = .ok (.iload_n 1, 1) := by decide +kernel
theorem d_Fr_load_6 : decode b_Fr_load 6 = .ok (.invokestatic 43, 3) := by decide +kernel
theorem d_Fr_load_9 : decode b_Fr_load 9 = .ok (.aload_n 0, 1) := by decide +kernel
theorem d_Fr_load_10 : decode b_Fr_load 10 = .ok (.getfield 23, 3) := by decide +kernel
theorem d_Fr_load_13 : decode b_Fr_load 13 = .ok (.iload_n 1, 1) := by decide +kernel
theorem d_Fr_load_14 : decode b_Fr_load 14 = .ok (.iaload, 1) := by decide +kernel
theorem d_Fr_load_15 : decode b_Fr_load 15 = .ok (.invokevirtual 46, 3) := by decide +kernel
theorem d_Fr_load_18 : decode b_Fr_load 18 = .ok (.return_, 1) := by decide +kernel
def y_Fr_store : MethodName := ⟨"FrameVerifier$Frame", "store", "(I)V"⟩
abbrev b_Fr_store : ByteArray := prog_5_method_9_code
def rm_Fr_store : Room := { frames := 3, cells := 0, slots := 0, locals := 67 }
abbrev w_Fr_store : List Cond := Cond.code y_Fr_store b_Fr_store 3 none :: wG
theorem m_Fr_store : Cond.code y_Fr_store b_Fr_store 3 none ∈ wG := wg_t 704 (by decide +kernel) (by decide +kernel)
theorem q_Fr_store : y_Fr_store.cls ≠ "java/lang/invoke/MethodHandle" ∧ y_Fr_store.cls ≠ "java/lang/invoke/VarHandle" ∧ (parseMethodDescriptor y_Fr_store.desc).map (fun d => d.parameters.length) = some 1 := by decide +kernel
theorem g_Fr_store : Cond.initialized y_Fr_store.cls ∈ wG := wg_t 5 (by decide +kernel) (by decide +kernel)
theorem s_Fr_store : Cond.instanceMethod y_Fr_store ∈ wG := wg_t 702 (by decide +kernel) (by decide +kernel)
theorem e_Fr_store : Cond.selects "FrameVerifier$Frame" y_Fr_store y_Fr_store ∈ wG := wg_t 703 (by decide +kernel) (by decide +kernel)
theorem d_Fr_store_0 : decode b_Fr_store 0 = .ok (.aload_n 0, 1) := by decide +kernel
theorem d_Fr_store_1 : decode b_Fr_store 1 = .ok (.iconst 0, 1) := by decide +kernel
theorem d_Fr_store_2 : decode b_Fr_store 2 = .ok (.invokevirtual 50, 3) := by decide +kernel
theorem d_Fr_store_5 : decode b_Fr_store 5 = .ok (.istore_n 2, 1) := by decide +kernel
theorem d_Fr_store_6 : decode b_Fr_store 6 = .ok (.aload_n 0, 1) := by decide +kernel
theorem d_Fr_store_7 : decode b_Fr_store 7 = .ok (.getfield 23, 3) := by decide +kernel
theorem d_Fr_store_10 : decode b_Fr_store 10 = .ok (.iload_n 1, 1) := by decide +kernel
theorem d_Fr_store_11 : decode b_Fr_store 11 = .ok (.aload_n 0, 1) := by decide +kernel
theorem d_Fr_store_12 : decode b_Fr_store 12 = .ok (.invokevirtual 53, 3) := by decide +kernel
theorem d_Fr_store_15 : decode b_Fr_store 15 = .ok (.iastore, 1) := by decide +kernel
theorem d_Fr_store_16 : decode b_Fr_store 16 = .ok (.aload_n 0, 1) := by decide +kernel
theorem d_Fr_store_17 : decode b_Fr_store 17 = .ok (.aload_n 0, 1) := by decide +kernel
theorem d_Fr_store_18 : decode b_Fr_store 18 = .ok (.getfield 20, 3) := by decide +kernel
theorem d_Fr_store_21 : decode b_Fr_store 21 = .ok (.iload_n 1, 1) := by decide +kernel
theorem d_Fr_store_22 : decode b_Fr_store 22 = .ok (.iload_n 2, 1) := by decide +kernel
theorem d_Fr_store_23 : decode b_Fr_store 23 = .ok (.invokestatic 57, 3) := by decide +kernel
theorem d_Fr_store_26 : decode b_Fr_store 26 = .ok (.putfield 20, 3) := by decide +kernel
theorem d_Fr_store_29 : decode b_Fr_store 29 = .ok (.return_, 1) := by decide +kernel
def y_Fr_exchange : MethodName := ⟨"FrameVerifier$Frame", "exchange", "()V"⟩
abbrev b_Fr_exchange : ByteArray := prog_5_method_10_code
def rm_Fr_exchange : Room := { frames := 3, cells := 0, slots := 0, locals := 67 }
abbrev w_Fr_exchange : List Cond := Cond.code y_Fr_exchange b_Fr_exchange 5 none :: wG
theorem m_Fr_exchange : Cond.code y_Fr_exchange b_Fr_exchange 5 none ∈ wG := wg_t 711 (by decide +kernel) (by decide +kernel)
theorem q_Fr_exchange : y_Fr_exchange.cls ≠ "java/lang/invoke/MethodHandle" ∧ y_Fr_exchange.cls ≠ "java/lang/invoke/VarHandle" ∧ (parseMethodDescriptor y_Fr_exchange.desc).map (fun d => d.parameters.length) = some 0 := by decide +kernel
theorem g_Fr_exchange : Cond.initialized y_Fr_exchange.cls ∈ wG := wg_t 5 (by decide +kernel) (by decide +kernel)
theorem s_Fr_exchange : Cond.instanceMethod y_Fr_exchange ∈ wG := wg_t 709 (by decide +kernel) (by decide +kernel)
theorem e_Fr_exchange : Cond.selects "FrameVerifier$Frame" y_Fr_exchange y_Fr_exchange ∈ wG := wg_t 710 (by decide +kernel) (by decide +kernel)
theorem d_Fr_exchange_0 : decode b_Fr_exchange 0 = .ok (.aload_n 0, 1) := by decide +kernel
theorem d_Fr_exchange_1 : decode b_Fr_exchange 1 = .ok (.iconst 0, 1) := by decide +kernel
theorem d_Fr_exchange_2 : decode b_Fr_exchange 2 = .ok (.invokevirtual 50, 3) := by decide +kernel
theorem d_Fr_exchange_5 : decode b_Fr_exchange 5 = .ok (.istore_n 1, 1) := by decide +kernel
theorem d_Fr_exchange_6 : decode b_Fr_exchange 6 = .ok (.aload_n 0, 1) := by decide +kernel
theorem d_Fr_exchange_7 : decode b_Fr_exchange 7 = .ok (.invokevirtual 53, 3) := by decide +kernel
theorem d_Fr_exchange_10 : decode b_Fr_exchange 10 = .ok (.istore_n 2, 1) := by decide +kernel
theorem d_Fr_exchange_11 : decode b_Fr_exchange 11 = .ok (.aload_n 0, 1) := by decide +kernel
theorem d_Fr_exchange_12 : decode b_Fr_exchange 12 = .ok (.iconst 0, 1) := by decide +kernel
theorem d_Fr_exchange_13 : decode b_Fr_exchange 13 = .ok (.invokevirtual 50, 3) := by decide +kernel
theorem d_Fr_exchange_16 : decode b_Fr_exchange 16 = .ok (.istore_n 3, 1) := by decide +kernel
theorem d_Fr_exchange_17 : decode b_Fr_exchange 17 = .ok (.aload_n 0, 1) := by decide +kernel
theorem d_Fr_exchange_18 : decode b_Fr_exchange 18 = .ok (.invokevirtual 53, 3) := by decide +kernel
theorem d_Fr_exchange_21 : decode b_Fr_exchange 21 = .ok (.istore 4, 2) := by decide +kernel
theorem d_Fr_exchange_23 : decode b_Fr_exchange 23 = .ok (.aload_n 0, 1) := by decide +kernel
theorem d_Fr_exchange_24 : decode b_Fr_exchange 24 = .ok (.iload_n 1, 1) := by decide +kernel
theorem d_Fr_exchange_25 : decode b_Fr_exchange 25 = .ok (.iload_n 2, 1) := by decide +kernel
theorem d_Fr_exchange_26 : decode b_Fr_exchange 26 = .ok (.invokevirtual 46, 3) := by decide +kernel
theorem d_Fr_exchange_29 : decode b_Fr_exchange 29 = .ok (.aload_n 0, 1) := by decide +kernel
theorem d_Fr_exchange_30 : decode b_Fr_exchange 30 = .ok (.iload_n 3, 1) := by decide +kernel
theorem d_Fr_exchange_31 : decode b_Fr_exchange 31 = .ok (.iload 4, 2) := by decide +kernel
theorem d_Fr_exchange_33 : decode b_Fr_exchange 33 = .ok (.invokevirtual 46, 3) := by decide +kernel
theorem d_Fr_exchange_36 : decode b_Fr_exchange 36 = .ok (.return_, 1) := by decide +kernel
def y_Fr_shown : MethodName := ⟨"FrameVerifier$Frame", "shown", "(I)I"⟩
abbrev b_Fr_shown : ByteArray := prog_5_method_11_code
def rm_Fr_shown : Room := { frames := 1, cells := 0, slots := 0, locals := 21 }
abbrev w_Fr_shown : List Cond := Cond.code y_Fr_shown b_Fr_shown 3 (some .int) :: wG
theorem m_Fr_shown : Cond.code y_Fr_shown b_Fr_shown 3 (some .int) ∈ wG := wg_t 430 (by decide +kernel) (by decide +kernel)
theorem q_Fr_shown : y_Fr_shown.cls ≠ "java/lang/invoke/MethodHandle" ∧ y_Fr_shown.cls ≠ "java/lang/invoke/VarHandle" ∧ (parseMethodDescriptor y_Fr_shown.desc).map (fun d => d.parameters.length) = some 1 := by decide +kernel
theorem g_Fr_shown : Cond.initialized y_Fr_shown.cls ∈ wG := wg_t 5 (by decide +kernel) (by decide +kernel)
theorem s_Fr_shown : Cond.instanceMethod y_Fr_shown ∈ wG := wg_t 428 (by decide +kernel) (by decide +kernel)
theorem e_Fr_shown : Cond.selects "FrameVerifier$Frame" y_Fr_shown y_Fr_shown ∈ wG := wg_t 429 (by decide +kernel) (by decide +kernel)
theorem d_Fr_shown_0 : decode b_Fr_shown 0 = .ok (.aload_n 0, 1) := by decide +kernel
theorem d_Fr_shown_1 : decode b_Fr_shown 1 = .ok (.getfield 20, 3) := by decide +kernel
theorem d_Fr_shown_4 : decode b_Fr_shown 4 = .ok (.iload_n 1, 1) := by decide +kernel
theorem d_Fr_shown_5 : decode b_Fr_shown 5 = .ok (.invokestatic 43, 3) := by decide +kernel
theorem d_Fr_shown_8 : decode b_Fr_shown 8 = .ok (.istore_n 2, 1) := by decide +kernel
theorem d_Fr_shown_9 : decode b_Fr_shown 9 = .ok (.iload_n 2, 1) := by decide +kernel
theorem d_Fr_shown_10 : decode b_Fr_shown 10 = .ok (.ifCond .ne (5), 3) := by decide +kernel
theorem d_Fr_shown_13 : decode b_Fr_shown 13 = .ok (.iconst (-1), 1) := by decide +kernel
theorem d_Fr_shown_14 : decode b_Fr_shown 14 = .ok (.ireturn, 1) := by decide +kernel
theorem d_Fr_shown_15 : decode b_Fr_shown 15 = .ok (.iload_n 2, 1) := by decide +kernel
theorem d_Fr_shown_16 : decode b_Fr_shown 16 = .ok (.iconst 2, 1) := by decide +kernel
theorem d_Fr_shown_17 : decode b_Fr_shown 17 = .ok (.if_icmp .ne (16), 3) := by decide +kernel
theorem d_Fr_shown_20 : decode b_Fr_shown 20 = .ok (.aload_n 0, 1) := by decide +kernel
theorem d_Fr_shown_21 : decode b_Fr_shown 21 = .ok (.getfield 23, 3) := by decide +kernel
theorem d_Fr_shown_24 : decode b_Fr_shown 24 = .ok (.iload_n 1, 1) := by decide +kernel
theorem d_Fr_shown_25 : decode b_Fr_shown 25 = .ok (.iaload, 1) := by decide +kernel
theorem d_Fr_shown_26 : decode b_Fr_shown 26 = .ok (.ifCond .eq (7), 3) := by decide +kernel
theorem d_Fr_shown_29 : decode b_Fr_shown 29 = .ok (.iconst 1, 1) := by decide +kernel
theorem d_Fr_shown_30 : decode b_Fr_shown 30 = .ok (.goto (9), 3) := by decide +kernel
theorem d_Fr_shown_33 : decode b_Fr_shown 33 = .ok (.aload_n 0, 1) := by decide +kernel
theorem d_Fr_shown_34 : decode b_Fr_shown 34 = .ok (.getfield 23, 3) := by decide +kernel
theorem d_Fr_shown_37 : decode b_Fr_shown 37 = .ok (.iload_n 1, 1) := by decide +kernel
theorem d_Fr_shown_38 : decode b_Fr_shown 38 = .ok (.iaload, 1) := by decide +kernel
theorem d_Fr_shown_39 : decode b_Fr_shown 39 = .ok (.ireturn, 1) := by decide +kernel
theorem wd_103 : (Jvm.Cond.fieldLink "FrameVerifier$Frame" (9 : Nat) "FrameVerifier$Frame" "owner" "I") ∈ wG := wg_t 103 (by decide +kernel) (by decide +kernel)
theorem wd_105 : (Jvm.Cond.fieldLink "FrameVerifier$Frame" (15 : Nat) "FrameVerifier$Frame" "address" "I") ∈ wG := wg_t 105 (by decide +kernel) (by decide +kernel)
theorem wd_108 : (Jvm.Cond.fieldLink "FrameVerifier$Frame" (20 : Nat) "FrameVerifier$Frame" "types" "I") ∈ wG := wg_t 108 (by decide +kernel) (by decide +kernel)
theorem wd_111 : (Jvm.Cond.fieldLink "FrameVerifier$Frame" (23 : Nat) "FrameVerifier$Frame" "values" "[I") ∈ wG := wg_t 111 (by decide +kernel) (by decide +kernel)
theorem k_Fr_27 {R : Room} {s : State} {args : Array Value} {Ts : List Cond} (hts : ∀ w ∈ Ts, w.before args s = true) (hsub : ∀ w ∈ wG, w ∈ Ts) (hR : rm_Ty_below.frames + 1 ≤ R.frames ∧ 8 + (2 + 11) + rm_Ty_below.locals ≤ R.locals) : CallB R s args "FrameVerifier$Frame" 27 y_Ty_below b_Ty_below 2 (some .int) w_Ty_below rm_Ty_below 0 0 2 ∧ (Cond.static y_Ty_below).before args s = true := ⟨cb_G hts hsub m_Ty_below g_Ty_below (wg_t 692 (by decide +kernel) (by decide +kernel) : Cond.methodLink "FrameVerifier$Frame" 27 y_Ty_below ∈ wG) q_Ty_below rfl rfl hR, hts _ (hsub _ s_Ty_below)⟩
theorem k_Fr_31 {R : Room} {s : State} {args : Array Value} {Ts : List Cond} (hts : ∀ w ∈ Ts, w.before args s = true) (hsub : ∀ w ∈ wG, w ∈ Ts) (hR : rm_Ty_slotBelow.frames + 1 ≤ R.frames ∧ 8 + (2 + 11) + rm_Ty_slotBelow.locals ≤ R.locals) : CallB R s args "FrameVerifier$Frame" 31 y_Ty_slotBelow b_Ty_slotBelow 2 (some .int) w_Ty_slotBelow rm_Ty_slotBelow 0 0 2 ∧ (Cond.static y_Ty_slotBelow).before args s = true := ⟨cb_G hts hsub m_Ty_slotBelow g_Ty_slotBelow (wg_t 545 (by decide +kernel) (by decide +kernel) : Cond.methodLink "FrameVerifier$Frame" 31 y_Ty_slotBelow ∈ wG) q_Ty_slotBelow rfl rfl hR, hts _ (hsub _ s_Ty_slotBelow)⟩
theorem k_Fr_34 {R : Room} {s : State} {args : Array Value} {Ts : List Cond} (hts : ∀ w ∈ Ts, w.before args s = true) (hsub : ∀ w ∈ wG, w ∈ Ts) (hR : rm_Ty_pushed.frames + 1 ≤ R.frames ∧ 8 + (2 + 11) + rm_Ty_pushed.locals ≤ R.locals) : CallB R s args "FrameVerifier$Frame" 34 y_Ty_pushed b_Ty_pushed 2 (some .int) w_Ty_pushed rm_Ty_pushed 0 0 2 ∧ (Cond.static y_Ty_pushed).before args s = true := ⟨cb_G hts hsub m_Ty_pushed g_Ty_pushed (wg_t 662 (by decide +kernel) (by decide +kernel) : Cond.methodLink "FrameVerifier$Frame" 34 y_Ty_pushed ∈ wG) q_Ty_pushed rfl rfl hR, hts _ (hsub _ s_Ty_pushed)⟩
theorem k_Fr_37 {R : Room} {s : State} {args : Array Value} {Ts : List Cond} (hts : ∀ w ∈ Ts, w.before args s = true) (hsub : ∀ w ∈ wG, w ∈ Ts) (hR : rm_Fr_below.frames + 1 ≤ R.frames ∧ 8 + (2 + 11) + rm_Fr_below.locals ≤ R.locals) : CallW R s args "FrameVerifier$Frame" "FrameVerifier$Frame" 37 y_Fr_below b_Fr_below 2 (some .int) w_Fr_below rm_Fr_below 0 0 1 := ⟨cb_G hts hsub m_Fr_below g_Fr_below (wg_t 646 (by decide +kernel) (by decide +kernel) : Cond.methodLink "FrameVerifier$Frame" 37 y_Fr_below ∈ wG) q_Fr_below rfl rfl hR, hts _ (hsub _ s_Fr_below), hts _ (hsub _ e_Fr_below)⟩
theorem k_Fr_40 {R : Room} {s : State} {args : Array Value} {Ts : List Cond} (hts : ∀ w ∈ Ts, w.before args s = true) (hsub : ∀ w ∈ wG, w ∈ Ts) (hR : rm_Ty_dropped.frames + 1 ≤ R.frames ∧ 8 + (4 + 11) + rm_Ty_dropped.locals ≤ R.locals) : CallB R s args "FrameVerifier$Frame" 40 y_Ty_dropped b_Ty_dropped 4 (some .int) w_Ty_dropped rm_Ty_dropped 0 0 2 ∧ (Cond.static y_Ty_dropped).before args s = true := ⟨cb_G hts hsub m_Ty_dropped g_Ty_dropped (wg_t 647 (by decide +kernel) (by decide +kernel) : Cond.methodLink "FrameVerifier$Frame" 40 y_Ty_dropped ∈ wG) q_Ty_dropped rfl rfl hR, hts _ (hsub _ s_Ty_dropped)⟩
theorem k_Fr_43 {R : Room} {s : State} {args : Array Value} {Ts : List Cond} (hts : ∀ w ∈ Ts, w.before args s = true) (hsub : ∀ w ∈ wG, w ∈ Ts) (hR : rm_Ty_at.frames + 1 ≤ R.frames ∧ 8 + (2 + 11) + rm_Ty_at.locals ≤ R.locals) : CallB R s args "FrameVerifier$Frame" 43 y_Ty_at b_Ty_at 2 (some .int) w_Ty_at rm_Ty_at 0 0 2 ∧ (Cond.static y_Ty_at).before args s = true := ⟨cb_G hts hsub m_Ty_at g_Ty_at (wg_t 431 (by decide +kernel) (by decide +kernel) : Cond.methodLink "FrameVerifier$Frame" 43 y_Ty_at ∈ wG) q_Ty_at rfl rfl hR, hts _ (hsub _ s_Ty_at)⟩
theorem k_Fr_46 {R : Room} {s : State} {args : Array Value} {Ts : List Cond} (hts : ∀ w ∈ Ts, w.before args s = true) (hsub : ∀ w ∈ wG, w ∈ Ts) (hR : rm_Fr_push.frames + 1 ≤ R.frames ∧ 8 + (3 + 11) + rm_Fr_push.locals ≤ R.locals) : CallW R s args "FrameVerifier$Frame" "FrameVerifier$Frame" 46 y_Fr_push b_Fr_push 3 none w_Fr_push rm_Fr_push 0 0 2 := ⟨cb_G hts hsub m_Fr_push g_Fr_push (wg_t 700 (by decide +kernel) (by decide +kernel) : Cond.methodLink "FrameVerifier$Frame" 46 y_Fr_push ∈ wG) q_Fr_push rfl rfl hR, hts _ (hsub _ s_Fr_push), hts _ (hsub _ e_Fr_push)⟩
theorem k_Fr_50 {R : Room} {s : State} {args : Array Value} {Ts : List Cond} (hts : ∀ w ∈ Ts, w.before args s = true) (hsub : ∀ w ∈ wG, w ∈ Ts) (hR : rm_Fr_typeBelow.frames + 1 ≤ R.frames ∧ 8 + (2 + 11) + rm_Fr_typeBelow.locals ≤ R.locals) : CallW R s args "FrameVerifier$Frame" "FrameVerifier$Frame" 50 y_Fr_typeBelow b_Fr_typeBelow 2 (some .int) w_Fr_typeBelow rm_Fr_typeBelow 0 0 1 := ⟨cb_G hts hsub m_Fr_typeBelow g_Fr_typeBelow (wg_t 705 (by decide +kernel) (by decide +kernel) : Cond.methodLink "FrameVerifier$Frame" 50 y_Fr_typeBelow ∈ wG) q_Fr_typeBelow rfl rfl hR, hts _ (hsub _ s_Fr_typeBelow), hts _ (hsub _ e_Fr_typeBelow)⟩
theorem k_Fr_53 {R : Room} {s : State} {args : Array Value} {Ts : List Cond} (hts : ∀ w ∈ Ts, w.before args s = true) (hsub : ∀ w ∈ wG, w ∈ Ts) (hR : rm_Fr_pop.frames + 1 ≤ R.frames ∧ 8 + (2 + 11) + rm_Fr_pop.locals ≤ R.locals) : CallW R s args "FrameVerifier$Frame" "FrameVerifier$Frame" 53 y_Fr_pop b_Fr_pop 2 (some .int) w_Fr_pop rm_Fr_pop 0 0 0 := ⟨cb_G hts hsub m_Fr_pop g_Fr_pop (wg_t 706 (by decide +kernel) (by decide +kernel) : Cond.methodLink "FrameVerifier$Frame" 53 y_Fr_pop ∈ wG) q_Fr_pop rfl rfl hR, hts _ (hsub _ s_Fr_pop), hts _ (hsub _ e_Fr_pop)⟩
theorem k_Fr_57 {R : Room} {s : State} {args : Array Value} {Ts : List Cond} (hts : ∀ w ∈ Ts, w.before args s = true) (hsub : ∀ w ∈ wG, w ∈ Ts) (hR : rm_Ty_with.frames + 1 ≤ R.frames ∧ 8 + (4 + 11) + rm_Ty_with.locals ≤ R.locals) : CallB R s args "FrameVerifier$Frame" 57 y_Ty_with b_Ty_with 4 (some .int) w_Ty_with rm_Ty_with 0 0 3 ∧ (Cond.static y_Ty_with).before args s = true := ⟨cb_G hts hsub m_Ty_with g_Ty_with (wg_t 707 (by decide +kernel) (by decide +kernel) : Cond.methodLink "FrameVerifier$Frame" 57 y_Ty_with ∈ wG) q_Ty_with rfl rfl hR, hts _ (hsub _ s_Ty_with)⟩
end
section
/-! contracts of 06.frames; written by wip/whole/make.py -/
def fn_Fr_open (σ : mm_M) (i : Nat) (a0 : Int32) (a1 : Int32) (a2 : Int32) : Option (mm_M) :=
    (nm (mw σ (19 + 2 * i) 0 a0) (fun σ1 =>
    (nm (mw σ1 (19 + 2 * i) 1 a1) (fun σ2 =>
    (nm (mw σ2 (19 + 2 * i) 2 a2) (fun σ3 =>
    (some σ3)))))))
set_option maxRecDepth 100000 in
set_option maxHeartbeats 40000000 in
theorem c_Fr_open (l : Launch) (D : va_G) (ca : Nat → ClassId) (ax : Nat → Nat → Nat) (b : Nat) (σ : mm_M) (i : Nat) (a0 : Int32) (a1 : Int32) (a2 : Int32) (hi : i < 8) {σ' : mm_M} (hf : fn_Fr_open σ i a0 a1 a2 = some σ') : Met l y_Fr_open w_Fr_open rm_Fr_open (pc_w D cls b N_C (ce_C ca b) (kC D ca ax b) [.ref (b + (19 + 2 * i)), .int a0, .int a1, .int a2] σ) (qc_v D cls b N_C (ce_C ca b) σ') 0 0 (mm_A b N_C) := by
  refine vv_go (cc := b_Fr_open) (maxL := 4) (ret := none) (fin := σ') (k := fn_Fr_open σ i a0 a1 a2) (by decide) rfl (by simp [Value.category]) (Nat.le_of_ble_eq_true rfl) hf ?_
  intro p e s m below meth c hlocks hret S hKK
  unfold fn_Fr_open
  refine v_aload_n S d_Fr_open_0 rfl rfl ?_
  refine v_iload_n S d_Fr_open_1 rfl rfl ?_
  refine v_puti S (fun w h => List.mem_cons_of_mem _ (i_Fr w h)) hKK.1 (19 + 2 * i) (fr_lt hi) (ce_fr hi) rfl 0 (by decide) (S.2.2.2.2 _ (List.mem_cons_of_mem _ (wd_103))) (fun _ h => h) t_Fr t_Fr_ok n_Fr rfl (ty := .int) rfl rfl rfl (Nat.le_of_ble_eq_true rfl) (ce_frP hi 0 (by decide)) d_Fr_open_2 ?_
  refine v_sg (fun σ1 eσ1 => ?_)
  refine v_aload_n S d_Fr_open_5 rfl rfl ?_
  refine v_iload_n S d_Fr_open_6 rfl rfl ?_
  refine v_puti S (fun w h => List.mem_cons_of_mem _ (i_Fr w h)) hKK.1 (19 + 2 * i) (fr_lt hi) (ce_fr hi) rfl 1 (by decide) (S.2.2.2.2 _ (List.mem_cons_of_mem _ (wd_105))) (fun _ h => h) t_Fr t_Fr_ok n_Fr rfl (ty := .int) rfl rfl rfl (Nat.le_of_ble_eq_true rfl) (ce_frP hi 1 (by decide)) d_Fr_open_7 ?_
  refine v_sg (fun σ2 eσ2 => ?_)
  refine v_aload_n S d_Fr_open_10 rfl rfl ?_
  refine v_iload_n S d_Fr_open_11 rfl rfl ?_
  refine v_puti S (fun w h => List.mem_cons_of_mem _ (i_Fr w h)) hKK.1 (19 + 2 * i) (fr_lt hi) (ce_fr hi) rfl 2 (by decide) (S.2.2.2.2 _ (List.mem_cons_of_mem _ (wd_108))) (fun _ h => h) t_Fr t_Fr_ok n_Fr rfl (ty := .int) rfl rfl rfl (Nat.le_of_ble_eq_true rfl) (ce_frP hi 2 (by decide)) d_Fr_open_12 ?_
  refine v_sg (fun σ3 eσ3 => ?_)
  exact v_vret S hret hlocks d_Fr_open_15
def fn_Fr_setParameter (σ : mm_M) (i : Nat) (a0 : Int32) (a1 : Int32) : Option (mm_M) :=
    (if (a0 < 0 ∨ 12 ≤ a0.toNatClampNeg) then none else (nm (mw σ (20 + 2 * i) a0.toNatClampNeg a1) (fun σ2 =>
    (some σ2))))
set_option maxRecDepth 100000 in
set_option maxHeartbeats 40000000 in
theorem c_Fr_setParameter (l : Launch) (D : va_G) (ca : Nat → ClassId) (ax : Nat → Nat → Nat) (b : Nat) (σ : mm_M) (i : Nat) (a0 : Int32) (a1 : Int32) (hi : i < 8) {σ' : mm_M} (hf : fn_Fr_setParameter σ i a0 a1 = some σ') : Met l y_Fr_setParameter w_Fr_setParameter rm_Fr_setParameter (pc_w D cls b N_C (ce_C ca b) (kC D ca ax b) [.ref (b + (19 + 2 * i)), .int a0, .int a1] σ) (qc_v D cls b N_C (ce_C ca b) σ') 0 0 (mm_A b N_C) := by
  refine vv_go (cc := b_Fr_setParameter) (maxL := 3) (ret := none) (fin := σ') (k := fn_Fr_setParameter σ i a0 a1) (by decide) rfl (by simp [Value.category]) (Nat.le_of_ble_eq_true rfl) hf ?_
  intro p e s m below meth c hlocks hret S hKK
  unfold fn_Fr_setParameter
  refine v_aload_n S d_Fr_setParameter_0 rfl rfl ?_
  refine v_get S (fun w h => List.mem_cons_of_mem _ (i_Fr w h)) hKK.1 (19 + 2 * i) (fr_lt hi) (ce_fr hi) rfl 3 (by decide) (S.2.2.2.2 _ (List.mem_cons_of_mem _ (wd_111))) (fun _ h => h) rfl d_Fr_setParameter_1 ?_
  refine v_iload_n S d_Fr_setParameter_4 rfl rfl ?_
  refine v_iload_n S d_Fr_setParameter_5 rfl rfl ?_
  refine v_iast1 S hKK.1 (20 + 2 * i) 0 (vl_lt hi) (ce_vlA hi) rfl d_Fr_setParameter_6 (fun h1 => ?_)
  refine v_sg (fun σ2 eσ2 => ?_)
  exact v_vret S hret hlocks d_Fr_setParameter_7
def fn_Fr_typeBelow (σ : mm_M) (i : Nat) (a0 : Int32) : Option (Int32 × mm_M) :=
    (bd (fn_Ty_below σ (σ (19 + 2 * i) 2) a0) (fun r2 σ1 =>
    (some (r2, σ1))))
set_option maxRecDepth 100000 in
set_option maxHeartbeats 40000000 in
theorem c_Fr_typeBelow (l : Launch) (D : va_G) (ca : Nat → ClassId) (ax : Nat → Nat → Nat) (b : Nat) (σ : mm_M) (i : Nat) (a0 : Int32) (hi : i < 8) {r : Int32} {σ' : mm_M} (hf : fn_Fr_typeBelow σ i a0 = some (r, σ')) : Met l y_Fr_typeBelow w_Fr_typeBelow rm_Fr_typeBelow (pc_w D cls b N_C (ce_C ca b) (kC D ca ax b) [.ref (b + (19 + 2 * i)), .int a0] σ) (qc_i D cls b N_C (ce_C ca b) r σ') 0 0 (mm_A b N_C) := by
  refine vv_go (cc := b_Fr_typeBelow) (maxL := 2) (ret := (some .int)) (fin := (r, σ')) (k := fn_Fr_typeBelow σ i a0) (by decide) rfl (by simp [Value.category]) (Nat.le_of_ble_eq_true rfl) hf ?_
  intro p e s m below meth c hlocks hret S hKK
  unfold fn_Fr_typeBelow
  refine v_aload_n S d_Fr_typeBelow_0 rfl rfl ?_
  refine v_get S (fun w h => List.mem_cons_of_mem _ (i_Fr w h)) hKK.1 (19 + 2 * i) (fr_lt hi) (ce_fr hi) rfl 2 (by decide) (S.2.2.2.2 _ (List.mem_cons_of_mem _ (wd_108))) (fun _ h => h) rfl d_Fr_typeBelow_1 ?_
  refine v_iload_n S d_Fr_typeBelow_4 rfl rfl ?_
  refine v_ci (rest := []) (fun _ _ hg H locs ls hsz hP hS => run_S (As := [.int (σ (19 + 2 * i) 2), .int a0]) (rest := []) S kC_ok hKK (c_Ty_below l D ca ax b σ (σ (19 + 2 * i) 2) a0 hg) (k_Fr_27 S.2.2.2.2 (fun _ => List.mem_cons_of_mem _) ⟨Nat.le_of_ble_eq_true rfl, Nat.le_of_ble_eq_true rfl⟩) rfl rfl (Nat.zero_le _) d_Fr_typeBelow_5 hsz hP hS) (fun r2 σ1 _ => ?_)
  exact v_iret S hret hlocks d_Fr_typeBelow_8
def fn_Fr_below (σ : mm_M) (i : Nat) (a0 : Int32) : Option (Int32 × mm_M) :=
    (bd (fn_Ty_slotBelow σ (σ (19 + 2 * i) 2) a0) (fun r2 σ1 =>
    (if (r2 < 0 ∨ 12 ≤ r2.toNatClampNeg) then none else
    (some ((σ1 (20 + 2 * i) r2.toNatClampNeg), σ1)))))
set_option maxRecDepth 100000 in
set_option maxHeartbeats 40000000 in
theorem c_Fr_below (l : Launch) (D : va_G) (ca : Nat → ClassId) (ax : Nat → Nat → Nat) (b : Nat) (σ : mm_M) (i : Nat) (a0 : Int32) (hi : i < 8) {r : Int32} {σ' : mm_M} (hf : fn_Fr_below σ i a0 = some (r, σ')) : Met l y_Fr_below w_Fr_below rm_Fr_below (pc_w D cls b N_C (ce_C ca b) (kC D ca ax b) [.ref (b + (19 + 2 * i)), .int a0] σ) (qc_i D cls b N_C (ce_C ca b) r σ') 0 0 (mm_A b N_C) := by
  refine vv_go (cc := b_Fr_below) (maxL := 2) (ret := (some .int)) (fin := (r, σ')) (k := fn_Fr_below σ i a0) (by decide) rfl (by simp [Value.category]) (Nat.le_of_ble_eq_true rfl) hf ?_
  intro p e s m below meth c hlocks hret S hKK
  unfold fn_Fr_below
  refine v_aload_n S d_Fr_below_0 rfl rfl ?_
  refine v_get S (fun w h => List.mem_cons_of_mem _ (i_Fr w h)) hKK.1 (19 + 2 * i) (fr_lt hi) (ce_fr hi) rfl 3 (by decide) (S.2.2.2.2 _ (List.mem_cons_of_mem _ (wd_111))) (fun _ h => h) rfl d_Fr_below_1 ?_
  refine v_aload_n S d_Fr_below_4 rfl rfl ?_
  refine v_get S (fun w h => List.mem_cons_of_mem _ (i_Fr w h)) hKK.1 (19 + 2 * i) (fr_lt hi) (ce_fr hi) rfl 2 (by decide) (S.2.2.2.2 _ (List.mem_cons_of_mem _ (wd_108))) (fun _ h => h) rfl d_Fr_below_5 ?_
  refine v_iload_n S d_Fr_below_8 rfl rfl ?_
  refine v_ci (rest := [.ref (b + (20 + 2 * i))]) (fun _ _ hg H locs ls hsz hP hS => run_S (As := [.int (σ (19 + 2 * i) 2), .int a0]) (rest := [.ref (b + (20 + 2 * i))]) S kC_ok hKK (c_Ty_slotBelow l D ca ax b σ (σ (19 + 2 * i) 2) a0 hg) (k_Fr_31 S.2.2.2.2 (fun _ => List.mem_cons_of_mem _) ⟨Nat.le_of_ble_eq_true rfl, Nat.le_of_ble_eq_true rfl⟩) rfl rfl (by simp [Value.category]) d_Fr_below_9 hsz hP hS) (fun r2 σ1 _ => ?_)
  refine v_iald S hKK.1 (20 + 2 * i) 0 (vl_lt hi) (ce_vl hi) rfl d_Fr_below_12 (fun h3 => ?_)
  exact v_iret S hret hlocks d_Fr_below_13
def fn_Fr_push (σ : mm_M) (i : Nat) (a0 : Int32) (a1 : Int32) : Option (mm_M) :=
    (bd (fn_Ty_pushed σ (σ (19 + 2 * i) 2) a0) (fun r2 σ1 =>
    (nm (mw σ1 (19 + 2 * i) 2 r2) (fun σ3 =>
    (bd (fn_Ty_slotBelow σ3 (σ3 (19 + 2 * i) 2) (0 : Int32)) (fun r5 σ4 =>
    (if (r5 < 0 ∨ 12 ≤ r5.toNatClampNeg) then none else (nm (mw σ4 (20 + 2 * i) r5.toNatClampNeg a1) (fun σ7 =>
    (some σ7))))))))))
set_option maxRecDepth 100000 in
set_option maxHeartbeats 40000000 in
theorem c_Fr_push (l : Launch) (D : va_G) (ca : Nat → ClassId) (ax : Nat → Nat → Nat) (b : Nat) (σ : mm_M) (i : Nat) (a0 : Int32) (a1 : Int32) (hi : i < 8) {σ' : mm_M} (hf : fn_Fr_push σ i a0 a1 = some σ') : Met l y_Fr_push w_Fr_push rm_Fr_push (pc_w D cls b N_C (ce_C ca b) (kC D ca ax b) [.ref (b + (19 + 2 * i)), .int a0, .int a1] σ) (qc_v D cls b N_C (ce_C ca b) σ') 0 0 (mm_A b N_C) := by
  refine vv_go (cc := b_Fr_push) (maxL := 3) (ret := none) (fin := σ') (k := fn_Fr_push σ i a0 a1) (by decide) rfl (by simp [Value.category]) (Nat.le_of_ble_eq_true rfl) hf ?_
  intro p e s m below meth c hlocks hret S hKK
  unfold fn_Fr_push
  refine v_aload_n S d_Fr_push_0 rfl rfl ?_
  refine v_aload_n S d_Fr_push_1 rfl rfl ?_
  refine v_get S (fun w h => List.mem_cons_of_mem _ (i_Fr w h)) hKK.1 (19 + 2 * i) (fr_lt hi) (ce_fr hi) rfl 2 (by decide) (S.2.2.2.2 _ (List.mem_cons_of_mem _ (wd_108))) (fun _ h => h) rfl d_Fr_push_2 ?_
  refine v_iload_n S d_Fr_push_5 rfl rfl ?_
  refine v_ci (rest := [.ref (b + (19 + 2 * i))]) (fun _ _ hg H locs ls hsz hP hS => run_S (As := [.int (σ (19 + 2 * i) 2), .int a0]) (rest := [.ref (b + (19 + 2 * i))]) S kC_ok hKK (c_Ty_pushed l D ca ax b σ (σ (19 + 2 * i) 2) a0 hg) (k_Fr_34 S.2.2.2.2 (fun _ => List.mem_cons_of_mem _) ⟨Nat.le_of_ble_eq_true rfl, Nat.le_of_ble_eq_true rfl⟩) rfl rfl (by simp [Value.category]) d_Fr_push_6 hsz hP hS) (fun r2 σ1 _ => ?_)
  refine v_puti S (fun w h => List.mem_cons_of_mem _ (i_Fr w h)) hKK.1 (19 + 2 * i) (fr_lt hi) (ce_fr hi) rfl 2 (by decide) (S.2.2.2.2 _ (List.mem_cons_of_mem _ (wd_108))) (fun _ h => h) t_Fr t_Fr_ok n_Fr rfl (ty := .int) rfl rfl rfl (Nat.le_of_ble_eq_true rfl) (ce_frP hi 2 (by decide)) d_Fr_push_9 ?_
  refine v_sg (fun σ3 eσ3 => ?_)
  refine v_aload_n S d_Fr_push_12 rfl rfl ?_
  refine v_get S (fun w h => List.mem_cons_of_mem _ (i_Fr w h)) hKK.1 (19 + 2 * i) (fr_lt hi) (ce_fr hi) rfl 3 (by decide) (S.2.2.2.2 _ (List.mem_cons_of_mem _ (wd_111))) (fun _ h => h) rfl d_Fr_push_13 ?_
  refine v_aload_n S d_Fr_push_16 rfl rfl ?_
  refine v_get S (fun w h => List.mem_cons_of_mem _ (i_Fr w h)) hKK.1 (19 + 2 * i) (fr_lt hi) (ce_fr hi) rfl 2 (by decide) (S.2.2.2.2 _ (List.mem_cons_of_mem _ (wd_108))) (fun _ h => h) rfl d_Fr_push_17 ?_
  refine v_iconst S d_Fr_push_20 (v := (0 : Int32)) (by decide) ?_
  refine v_ci (rest := [.ref (b + (20 + 2 * i))]) (fun _ _ hg H locs ls hsz hP hS => run_S (As := [.int (σ3 (19 + 2 * i) 2), .int (0 : Int32)]) (rest := [.ref (b + (20 + 2 * i))]) S kC_ok hKK (c_Ty_slotBelow l D ca ax b σ3 (σ3 (19 + 2 * i) 2) (0 : Int32) hg) (k_Fr_31 S.2.2.2.2 (fun _ => List.mem_cons_of_mem _) ⟨Nat.le_of_ble_eq_true rfl, Nat.le_of_ble_eq_true rfl⟩) rfl rfl (by simp [Value.category]) d_Fr_push_21 hsz hP hS) (fun r5 σ4 _ => ?_)
  refine v_iload_n S d_Fr_push_24 rfl rfl ?_
  refine v_iast1 S hKK.1 (20 + 2 * i) 0 (vl_lt hi) (ce_vlA hi) rfl d_Fr_push_25 (fun h6 => ?_)
  refine v_sg (fun σ7 eσ7 => ?_)
  exact v_vret S hret hlocks d_Fr_push_26
def fn_Fr_pop (σ : mm_M) (i : Nat) : Option (Int32 × mm_M) :=
    (bd (fn_Fr_below σ i (0 : Int32)) (fun r2 σ1 =>
    (bd (fn_Ty_dropped σ1 (σ1 (19 + 2 * i) 2) (1 : Int32)) (fun r4 σ3 =>
    (nm (mw σ3 (19 + 2 * i) 2 r4) (fun σ5 =>
    (some (r2, σ5))))))))
set_option maxRecDepth 100000 in
set_option maxHeartbeats 40000000 in
theorem c_Fr_pop (l : Launch) (D : va_G) (ca : Nat → ClassId) (ax : Nat → Nat → Nat) (b : Nat) (σ : mm_M) (i : Nat) (hi : i < 8) {r : Int32} {σ' : mm_M} (hf : fn_Fr_pop σ i = some (r, σ')) : Met l y_Fr_pop w_Fr_pop rm_Fr_pop (pc_w D cls b N_C (ce_C ca b) (kC D ca ax b) [.ref (b + (19 + 2 * i))] σ) (qc_i D cls b N_C (ce_C ca b) r σ') 0 0 (mm_A b N_C) := by
  refine vv_go (cc := b_Fr_pop) (maxL := 2) (ret := (some .int)) (fin := (r, σ')) (k := fn_Fr_pop σ i) (by decide) rfl (by simp [Value.category]) (Nat.le_of_ble_eq_true rfl) hf ?_
  intro p e s m below meth c hlocks hret S hKK
  unfold fn_Fr_pop
  refine v_aload_n S d_Fr_pop_0 rfl rfl ?_
  refine v_iconst S d_Fr_pop_1 (v := (0 : Int32)) (by decide) ?_
  refine v_ci (rest := []) (fun _ _ hg H locs ls hsz hP hS => run_V (As := [.int (0 : Int32)]) (rest := []) S kC_ok hKK (c_Fr_below l D ca ax b σ i (0 : Int32) hi hg) (k_Fr_37 S.2.2.2.2 (fun _ => List.mem_cons_of_mem _) ⟨Nat.le_of_ble_eq_true rfl, Nat.le_of_ble_eq_true rfl⟩) (rc_w hKK.1 hP (19 + 2 * i) (fr_lt hi) (ce_fr hi) rfl) rfl rfl (Nat.zero_le _) d_Fr_pop_2 hsz hP hS) (fun r2 σ1 _ => ?_)
  refine v_istore_nP S d_Fr_pop_5 rfl (by decide) (L2 := [some (.ref (b + (19 + 2 * i))), some (.int r2)]) rfl ?_
  refine v_aload_n S d_Fr_pop_6 rfl rfl ?_
  refine v_aload_n S d_Fr_pop_7 rfl rfl ?_
  refine v_get S (fun w h => List.mem_cons_of_mem _ (i_Fr w h)) hKK.1 (19 + 2 * i) (fr_lt hi) (ce_fr hi) rfl 2 (by decide) (S.2.2.2.2 _ (List.mem_cons_of_mem _ (wd_108))) (fun _ h => h) rfl d_Fr_pop_8 ?_
  refine v_iconst S d_Fr_pop_11 (v := (1 : Int32)) (by decide) ?_
  refine v_ci (rest := [.ref (b + (19 + 2 * i))]) (fun _ _ hg H locs ls hsz hP hS => run_S (As := [.int (σ1 (19 + 2 * i) 2), .int (1 : Int32)]) (rest := [.ref (b + (19 + 2 * i))]) S kC_ok hKK (c_Ty_dropped l D ca ax b σ1 (σ1 (19 + 2 * i) 2) (1 : Int32) hg) (k_Fr_40 S.2.2.2.2 (fun _ => List.mem_cons_of_mem _) ⟨Nat.le_of_ble_eq_true rfl, Nat.le_of_ble_eq_true rfl⟩) rfl rfl (by simp [Value.category]) d_Fr_pop_12 hsz hP hS) (fun r4 σ3 _ => ?_)
  refine v_puti S (fun w h => List.mem_cons_of_mem _ (i_Fr w h)) hKK.1 (19 + 2 * i) (fr_lt hi) (ce_fr hi) rfl 2 (by decide) (S.2.2.2.2 _ (List.mem_cons_of_mem _ (wd_108))) (fun _ h => h) t_Fr t_Fr_ok n_Fr rfl (ty := .int) rfl rfl rfl (Nat.le_of_ble_eq_true rfl) (ce_frP hi 2 (by decide)) d_Fr_pop_15 ?_
  refine v_sg (fun σ5 eσ5 => ?_)
  refine v_iload_n S d_Fr_pop_18 rfl rfl ?_
  exact v_iret S hret hlocks d_Fr_pop_19
def fn_Fr_load (σ : mm_M) (i : Nat) (a0 : Int32) : Option (mm_M) :=
    (bd (fn_Ty_at σ (σ (19 + 2 * i) 2) a0) (fun r2 σ1 =>
    (if (a0 < 0 ∨ 12 ≤ a0.toNatClampNeg) then none else
    (bv (fn_Fr_push σ1 i r2 (σ1 (20 + 2 * i) a0.toNatClampNeg)) (fun σ4 =>
    (some σ4))))))
set_option maxRecDepth 100000 in
set_option maxHeartbeats 40000000 in
theorem c_Fr_load (l : Launch) (D : va_G) (ca : Nat → ClassId) (ax : Nat → Nat → Nat) (b : Nat) (σ : mm_M) (i : Nat) (a0 : Int32) (hi : i < 8) {σ' : mm_M} (hf : fn_Fr_load σ i a0 = some σ') : Met l y_Fr_load w_Fr_load rm_Fr_load (pc_w D cls b N_C (ce_C ca b) (kC D ca ax b) [.ref (b + (19 + 2 * i)), .int a0] σ) (qc_v D cls b N_C (ce_C ca b) σ') 0 0 (mm_A b N_C) := by
  refine vv_go (cc := b_Fr_load) (maxL := 2) (ret := none) (fin := σ') (k := fn_Fr_load σ i a0) (by decide) rfl (by simp [Value.category]) (Nat.le_of_ble_eq_true rfl) hf ?_
  intro p e s m below meth c hlocks hret S hKK
  unfold fn_Fr_load
  refine v_aload_n S d_Fr_load_0 rfl rfl ?_
  refine v_aload_n S d_Fr_load_1 rfl rfl ?_
  refine v_get S (fun w h => List.mem_cons_of_mem _ (i_Fr w h)) hKK.1 (19 + 2 * i) (fr_lt hi) (ce_fr hi) rfl 2 (by decide) (S.2.2.2.2 _ (List.mem_cons_of_mem _ (wd_108))) (fun _ h => h) rfl d_Fr_load_2 ?_
  refine v_iload_n S d_Fr_load_5 rfl rfl ?_
  refine v_ci (rest := [.ref (b + (19 + 2 * i))]) (fun _ _ hg H locs ls hsz hP hS => run_S (As := [.int (σ (19 + 2 * i) 2), .int a0]) (rest := [.ref (b + (19 + 2 * i))]) S kC_ok hKK (c_Ty_at l D ca ax b σ (σ (19 + 2 * i) 2) a0 hg) (k_Fr_43 S.2.2.2.2 (fun _ => List.mem_cons_of_mem _) ⟨Nat.le_of_ble_eq_true rfl, Nat.le_of_ble_eq_true rfl⟩) rfl rfl (by simp [Value.category]) d_Fr_load_6 hsz hP hS) (fun r2 σ1 _ => ?_)
  refine v_aload_n S d_Fr_load_9 rfl rfl ?_
  refine v_get S (fun w h => List.mem_cons_of_mem _ (i_Fr w h)) hKK.1 (19 + 2 * i) (fr_lt hi) (ce_fr hi) rfl 3 (by decide) (S.2.2.2.2 _ (List.mem_cons_of_mem _ (wd_111))) (fun _ h => h) rfl d_Fr_load_10 ?_
  refine v_iload_n S d_Fr_load_13 rfl rfl ?_
  refine v_iald S hKK.1 (20 + 2 * i) 0 (vl_lt hi) (ce_vl hi) rfl d_Fr_load_14 (fun h3 => ?_)
  refine v_cv (rest := []) (fun _ hg H locs ls hsz hP hS => run_V (As := [.int r2, .int (σ1 (20 + 2 * i) a0.toNatClampNeg)]) (rest := []) S kC_ok hKK (c_Fr_push l D ca ax b σ1 i r2 (σ1 (20 + 2 * i) a0.toNatClampNeg) hi hg) (k_Fr_46 S.2.2.2.2 (fun _ => List.mem_cons_of_mem _) ⟨Nat.le_of_ble_eq_true rfl, Nat.le_of_ble_eq_true rfl⟩) (rc_w hKK.1 hP (19 + 2 * i) (fr_lt hi) (ce_fr hi) rfl) rfl rfl (Nat.zero_le _) d_Fr_load_15 hsz hP hS) (fun σ4 _ => ?_)
  exact v_vret S hret hlocks d_Fr_load_18
def fn_Fr_store (σ : mm_M) (i : Nat) (a0 : Int32) : Option (mm_M) :=
    (bd (fn_Fr_typeBelow σ i (0 : Int32)) (fun r2 σ1 =>
    (bd (fn_Fr_pop σ1 i) (fun r4 σ3 =>
    (if (a0 < 0 ∨ 12 ≤ a0.toNatClampNeg) then none else (nm (mw σ3 (20 + 2 * i) a0.toNatClampNeg r4) (fun σ6 =>
    (bd (fn_Ty_with σ6 (σ6 (19 + 2 * i) 2) a0 r2) (fun r8 σ7 =>
    (nm (mw σ7 (19 + 2 * i) 2 r8) (fun σ9 =>
    (some σ9))))))))))))
set_option maxRecDepth 100000 in
set_option maxHeartbeats 40000000 in
theorem c_Fr_store (l : Launch) (D : va_G) (ca : Nat → ClassId) (ax : Nat → Nat → Nat) (b : Nat) (σ : mm_M) (i : Nat) (a0 : Int32) (hi : i < 8) {σ' : mm_M} (hf : fn_Fr_store σ i a0 = some σ') : Met l y_Fr_store w_Fr_store rm_Fr_store (pc_w D cls b N_C (ce_C ca b) (kC D ca ax b) [.ref (b + (19 + 2 * i)), .int a0] σ) (qc_v D cls b N_C (ce_C ca b) σ') 0 0 (mm_A b N_C) := by
  refine vv_go (cc := b_Fr_store) (maxL := 3) (ret := none) (fin := σ') (k := fn_Fr_store σ i a0) (by decide) rfl (by simp [Value.category]) (Nat.le_of_ble_eq_true rfl) hf ?_
  intro p e s m below meth c hlocks hret S hKK
  unfold fn_Fr_store
  refine v_aload_n S d_Fr_store_0 rfl rfl ?_
  refine v_iconst S d_Fr_store_1 (v := (0 : Int32)) (by decide) ?_
  refine v_ci (rest := []) (fun _ _ hg H locs ls hsz hP hS => run_V (As := [.int (0 : Int32)]) (rest := []) S kC_ok hKK (c_Fr_typeBelow l D ca ax b σ i (0 : Int32) hi hg) (k_Fr_50 S.2.2.2.2 (fun _ => List.mem_cons_of_mem _) ⟨Nat.le_of_ble_eq_true rfl, Nat.le_of_ble_eq_true rfl⟩) (rc_w hKK.1 hP (19 + 2 * i) (fr_lt hi) (ce_fr hi) rfl) rfl rfl (Nat.zero_le _) d_Fr_store_2 hsz hP hS) (fun r2 σ1 _ => ?_)
  refine v_istore_nP S d_Fr_store_5 rfl (by decide) (L2 := [some (.ref (b + (19 + 2 * i))), some (.int a0), some (.int r2)]) rfl ?_
  refine v_aload_n S d_Fr_store_6 rfl rfl ?_
  refine v_get S (fun w h => List.mem_cons_of_mem _ (i_Fr w h)) hKK.1 (19 + 2 * i) (fr_lt hi) (ce_fr hi) rfl 3 (by decide) (S.2.2.2.2 _ (List.mem_cons_of_mem _ (wd_111))) (fun _ h => h) rfl d_Fr_store_7 ?_
  refine v_iload_n S d_Fr_store_10 rfl rfl ?_
  refine v_aload_n S d_Fr_store_11 rfl rfl ?_
  refine v_ci (rest := [.int a0, .ref (b + (20 + 2 * i))]) (fun _ _ hg H locs ls hsz hP hS => run_V (As := []) (rest := [.int a0, .ref (b + (20 + 2 * i))]) S kC_ok hKK (c_Fr_pop l D ca ax b σ1 i hi hg) (k_Fr_53 S.2.2.2.2 (fun _ => List.mem_cons_of_mem _) ⟨Nat.le_of_ble_eq_true rfl, Nat.le_of_ble_eq_true rfl⟩) (rc_w hKK.1 hP (19 + 2 * i) (fr_lt hi) (ce_fr hi) rfl) rfl rfl (by simp [Value.category]) d_Fr_store_12 hsz hP hS) (fun r4 σ3 _ => ?_)
  refine v_iast1 S hKK.1 (20 + 2 * i) 0 (vl_lt hi) (ce_vlA hi) rfl d_Fr_store_15 (fun h5 => ?_)
  refine v_sg (fun σ6 eσ6 => ?_)
  refine v_aload_n S d_Fr_store_16 rfl rfl ?_
  refine v_aload_n S d_Fr_store_17 rfl rfl ?_
  refine v_get S (fun w h => List.mem_cons_of_mem _ (i_Fr w h)) hKK.1 (19 + 2 * i) (fr_lt hi) (ce_fr hi) rfl 2 (by decide) (S.2.2.2.2 _ (List.mem_cons_of_mem _ (wd_108))) (fun _ h => h) rfl d_Fr_store_18 ?_
  refine v_iload_n S d_Fr_store_21 rfl rfl ?_
  refine v_iload_n S d_Fr_store_22 rfl rfl ?_
  refine v_ci (rest := [.ref (b + (19 + 2 * i))]) (fun _ _ hg H locs ls hsz hP hS => run_S (As := [.int (σ6 (19 + 2 * i) 2), .int a0, .int r2]) (rest := [.ref (b + (19 + 2 * i))]) S kC_ok hKK (c_Ty_with l D ca ax b σ6 (σ6 (19 + 2 * i) 2) a0 r2 hg) (k_Fr_57 S.2.2.2.2 (fun _ => List.mem_cons_of_mem _) ⟨Nat.le_of_ble_eq_true rfl, Nat.le_of_ble_eq_true rfl⟩) rfl rfl (by simp [Value.category]) d_Fr_store_23 hsz hP hS) (fun r8 σ7 _ => ?_)
  refine v_puti S (fun w h => List.mem_cons_of_mem _ (i_Fr w h)) hKK.1 (19 + 2 * i) (fr_lt hi) (ce_fr hi) rfl 2 (by decide) (S.2.2.2.2 _ (List.mem_cons_of_mem _ (wd_108))) (fun _ h => h) t_Fr t_Fr_ok n_Fr rfl (ty := .int) rfl rfl rfl (Nat.le_of_ble_eq_true rfl) (ce_frP hi 2 (by decide)) d_Fr_store_26 ?_
  refine v_sg (fun σ9 eσ9 => ?_)
  exact v_vret S hret hlocks d_Fr_store_29
def fn_Fr_exchange (σ : mm_M) (i : Nat) : Option (mm_M) :=
    (bd (fn_Fr_typeBelow σ i (0 : Int32)) (fun r2 σ1 =>
    (bd (fn_Fr_pop σ1 i) (fun r4 σ3 =>
    (bd (fn_Fr_typeBelow σ3 i (0 : Int32)) (fun r6 σ5 =>
    (bd (fn_Fr_pop σ5 i) (fun r8 σ7 =>
    (bv (fn_Fr_push σ7 i r2 r4) (fun σ9 =>
    (bv (fn_Fr_push σ9 i r6 r8) (fun σ10 =>
    (some σ10)))))))))))))
set_option maxRecDepth 100000 in
set_option maxHeartbeats 40000000 in
theorem c_Fr_exchange (l : Launch) (D : va_G) (ca : Nat → ClassId) (ax : Nat → Nat → Nat) (b : Nat) (σ : mm_M) (i : Nat) (hi : i < 8) {σ' : mm_M} (hf : fn_Fr_exchange σ i = some σ') : Met l y_Fr_exchange w_Fr_exchange rm_Fr_exchange (pc_w D cls b N_C (ce_C ca b) (kC D ca ax b) [.ref (b + (19 + 2 * i))] σ) (qc_v D cls b N_C (ce_C ca b) σ') 0 0 (mm_A b N_C) := by
  refine vv_go (cc := b_Fr_exchange) (maxL := 5) (ret := none) (fin := σ') (k := fn_Fr_exchange σ i) (by decide) rfl (by simp [Value.category]) (Nat.le_of_ble_eq_true rfl) hf ?_
  intro p e s m below meth c hlocks hret S hKK
  unfold fn_Fr_exchange
  refine v_aload_n S d_Fr_exchange_0 rfl rfl ?_
  refine v_iconst S d_Fr_exchange_1 (v := (0 : Int32)) (by decide) ?_
  refine v_ci (rest := []) (fun _ _ hg H locs ls hsz hP hS => run_V (As := [.int (0 : Int32)]) (rest := []) S kC_ok hKK (c_Fr_typeBelow l D ca ax b σ i (0 : Int32) hi hg) (k_Fr_50 S.2.2.2.2 (fun _ => List.mem_cons_of_mem _) ⟨Nat.le_of_ble_eq_true rfl, Nat.le_of_ble_eq_true rfl⟩) (rc_w hKK.1 hP (19 + 2 * i) (fr_lt hi) (ce_fr hi) rfl) rfl rfl (Nat.zero_le _) d_Fr_exchange_2 hsz hP hS) (fun r2 σ1 _ => ?_)
  refine v_istore_nP S d_Fr_exchange_5 rfl (by decide) (L2 := [some (.ref (b + (19 + 2 * i))), some (.int r2)]) rfl ?_
  refine v_aload_n S d_Fr_exchange_6 rfl rfl ?_
  refine v_ci (rest := []) (fun _ _ hg H locs ls hsz hP hS => run_V (As := []) (rest := []) S kC_ok hKK (c_Fr_pop l D ca ax b σ1 i hi hg) (k_Fr_53 S.2.2.2.2 (fun _ => List.mem_cons_of_mem _) ⟨Nat.le_of_ble_eq_true rfl, Nat.le_of_ble_eq_true rfl⟩) (rc_w hKK.1 hP (19 + 2 * i) (fr_lt hi) (ce_fr hi) rfl) rfl rfl (Nat.zero_le _) d_Fr_exchange_7 hsz hP hS) (fun r4 σ3 _ => ?_)
  refine v_istore_nP S d_Fr_exchange_10 rfl (by decide) (L2 := [some (.ref (b + (19 + 2 * i))), some (.int r2), some (.int r4)]) rfl ?_
  refine v_aload_n S d_Fr_exchange_11 rfl rfl ?_
  refine v_iconst S d_Fr_exchange_12 (v := (0 : Int32)) (by decide) ?_
  refine v_ci (rest := []) (fun _ _ hg H locs ls hsz hP hS => run_V (As := [.int (0 : Int32)]) (rest := []) S kC_ok hKK (c_Fr_typeBelow l D ca ax b σ3 i (0 : Int32) hi hg) (k_Fr_50 S.2.2.2.2 (fun _ => List.mem_cons_of_mem _) ⟨Nat.le_of_ble_eq_true rfl, Nat.le_of_ble_eq_true rfl⟩) (rc_w hKK.1 hP (19 + 2 * i) (fr_lt hi) (ce_fr hi) rfl) rfl rfl (Nat.zero_le _) d_Fr_exchange_13 hsz hP hS) (fun r6 σ5 _ => ?_)
  refine v_istore_nP S d_Fr_exchange_16 rfl (by decide) (L2 := [some (.ref (b + (19 + 2 * i))), some (.int r2), some (.int r4), some (.int r6)]) rfl ?_
  refine v_aload_n S d_Fr_exchange_17 rfl rfl ?_
  refine v_ci (rest := []) (fun _ _ hg H locs ls hsz hP hS => run_V (As := []) (rest := []) S kC_ok hKK (c_Fr_pop l D ca ax b σ5 i hi hg) (k_Fr_53 S.2.2.2.2 (fun _ => List.mem_cons_of_mem _) ⟨Nat.le_of_ble_eq_true rfl, Nat.le_of_ble_eq_true rfl⟩) (rc_w hKK.1 hP (19 + 2 * i) (fr_lt hi) (ce_fr hi) rfl) rfl rfl (Nat.zero_le _) d_Fr_exchange_18 hsz hP hS) (fun r8 σ7 _ => ?_)
  refine v_istoreP S d_Fr_exchange_21 (by decide) (L2 := [some (.ref (b + (19 + 2 * i))), some (.int r2), some (.int r4), some (.int r6), some (.int r8)]) rfl ?_
  refine v_aload_n S d_Fr_exchange_23 rfl rfl ?_
  refine v_iload_n S d_Fr_exchange_24 rfl rfl ?_
  refine v_iload_n S d_Fr_exchange_25 rfl rfl ?_
  refine v_cv (rest := []) (fun _ hg H locs ls hsz hP hS => run_V (As := [.int r2, .int r4]) (rest := []) S kC_ok hKK (c_Fr_push l D ca ax b σ7 i r2 r4 hi hg) (k_Fr_46 S.2.2.2.2 (fun _ => List.mem_cons_of_mem _) ⟨Nat.le_of_ble_eq_true rfl, Nat.le_of_ble_eq_true rfl⟩) (rc_w hKK.1 hP (19 + 2 * i) (fr_lt hi) (ce_fr hi) rfl) rfl rfl (Nat.zero_le _) d_Fr_exchange_26 hsz hP hS) (fun σ9 _ => ?_)
  refine v_aload_n S d_Fr_exchange_29 rfl rfl ?_
  refine v_iload_n S d_Fr_exchange_30 rfl rfl ?_
  refine v_iload S d_Fr_exchange_31 rfl ?_
  refine v_cv (rest := []) (fun _ hg H locs ls hsz hP hS => run_V (As := [.int r6, .int r8]) (rest := []) S kC_ok hKK (c_Fr_push l D ca ax b σ9 i r6 r8 hi hg) (k_Fr_46 S.2.2.2.2 (fun _ => List.mem_cons_of_mem _) ⟨Nat.le_of_ble_eq_true rfl, Nat.le_of_ble_eq_true rfl⟩) (rc_w hKK.1 hP (19 + 2 * i) (fr_lt hi) (ce_fr hi) rfl) rfl rfl (Nat.zero_le _) d_Fr_exchange_33 hsz hP hS) (fun σ10 _ => ?_)
  exact v_vret S hret hlocks d_Fr_exchange_36
def fn_Fr_shown (σ : mm_M) (i : Nat) (a0 : Int32) : Option (Int32 × mm_M) :=
    (bd (fn_Ty_at σ (σ (19 + 2 * i) 2) a0) (fun r2 σ1 =>
    (if r2 = 0 then
    (some ((-1 : Int32), σ1))
    else
    (if r2 = (2 : Int32) then
    (if (a0 < 0 ∨ 12 ≤ a0.toNatClampNeg) then none else
    (if (σ1 (20 + 2 * i) a0.toNatClampNeg) = 0 then
    (if (a0 < 0 ∨ 12 ≤ a0.toNatClampNeg) then none else
    (some ((σ1 (20 + 2 * i) a0.toNatClampNeg), σ1)))
    else
    (some ((1 : Int32), σ1))))
    else
    (if (a0 < 0 ∨ 12 ≤ a0.toNatClampNeg) then none else
    (some ((σ1 (20 + 2 * i) a0.toNatClampNeg), σ1)))))))
set_option maxRecDepth 100000 in
set_option maxHeartbeats 40000000 in
theorem c_Fr_shown (l : Launch) (D : va_G) (ca : Nat → ClassId) (ax : Nat → Nat → Nat) (b : Nat) (σ : mm_M) (i : Nat) (a0 : Int32) (hi : i < 8) {r : Int32} {σ' : mm_M} (hf : fn_Fr_shown σ i a0 = some (r, σ')) : Met l y_Fr_shown w_Fr_shown rm_Fr_shown (pc_w D cls b N_C (ce_C ca b) (kC D ca ax b) [.ref (b + (19 + 2 * i)), .int a0] σ) (qc_i D cls b N_C (ce_C ca b) r σ') 0 0 (mm_A b N_C) := by
  refine vv_go (cc := b_Fr_shown) (maxL := 3) (ret := (some .int)) (fin := (r, σ')) (k := fn_Fr_shown σ i a0) (by decide) rfl (by simp [Value.category]) (Nat.le_of_ble_eq_true rfl) hf ?_
  intro p e s m below meth c hlocks hret S hKK
  unfold fn_Fr_shown
  refine v_aload_n S d_Fr_shown_0 rfl rfl ?_
  refine v_get S (fun w h => List.mem_cons_of_mem _ (i_Fr w h)) hKK.1 (19 + 2 * i) (fr_lt hi) (ce_fr hi) rfl 2 (by decide) (S.2.2.2.2 _ (List.mem_cons_of_mem _ (wd_108))) (fun _ h => h) rfl d_Fr_shown_1 ?_
  refine v_iload_n S d_Fr_shown_4 rfl rfl ?_
  refine v_ci (rest := []) (fun _ _ hg H locs ls hsz hP hS => run_S (As := [.int (σ (19 + 2 * i) 2), .int a0]) (rest := []) S kC_ok hKK (c_Ty_at l D ca ax b σ (σ (19 + 2 * i) 2) a0 hg) (k_Fr_43 S.2.2.2.2 (fun _ => List.mem_cons_of_mem _) ⟨Nat.le_of_ble_eq_true rfl, Nat.le_of_ble_eq_true rfl⟩) rfl rfl (Nat.zero_le _) d_Fr_shown_5 hsz hP hS) (fun r2 σ1 _ => ?_)
  refine v_istore_nP S d_Fr_shown_8 rfl (by decide) (L2 := [some (.ref (b + (19 + 2 * i))), some (.int a0), some (.int r2)]) rfl ?_
  refine v_iload_n S d_Fr_shown_9 rfl rfl ?_
  refine v_if_ne S d_Fr_shown_10 (tgt := 15) (by decide) (fun h3 => ?_) (fun h3 => ?_)
  · refine v_iload_n S d_Fr_shown_15 rfl rfl ?_
    refine v_iconst S d_Fr_shown_16 (v := (2 : Int32)) (by decide) ?_
    refine v_icmp_ne S d_Fr_shown_17 (tgt := 33) (by decide) (fun h4 => ?_) (fun h4 => ?_)
    · refine v_aload_n S d_Fr_shown_33 rfl rfl ?_
      refine v_get S (fun w h => List.mem_cons_of_mem _ (i_Fr w h)) hKK.1 (19 + 2 * i) (fr_lt hi) (ce_fr hi) rfl 3 (by decide) (S.2.2.2.2 _ (List.mem_cons_of_mem _ (wd_111))) (fun _ h => h) rfl d_Fr_shown_34 ?_
      refine v_iload_n S d_Fr_shown_37 rfl rfl ?_
      refine v_iald S hKK.1 (20 + 2 * i) 0 (vl_lt hi) (ce_vl hi) rfl d_Fr_shown_38 (fun h5 => ?_)
      exact v_iret S hret hlocks d_Fr_shown_39
    · refine v_aload_n S d_Fr_shown_20 rfl rfl ?_
      refine v_get S (fun w h => List.mem_cons_of_mem _ (i_Fr w h)) hKK.1 (19 + 2 * i) (fr_lt hi) (ce_fr hi) rfl 3 (by decide) (S.2.2.2.2 _ (List.mem_cons_of_mem _ (wd_111))) (fun _ h => h) rfl d_Fr_shown_21 ?_
      refine v_iload_n S d_Fr_shown_24 rfl rfl ?_
      refine v_iald S hKK.1 (20 + 2 * i) 0 (vl_lt hi) (ce_vl hi) rfl d_Fr_shown_25 (fun h6 => ?_)
      refine v_if_eq S d_Fr_shown_26 (tgt := 33) (by decide) (fun h7 => ?_) (fun h7 => ?_)
      · refine v_aload_n S d_Fr_shown_33 rfl rfl ?_
        refine v_get S (fun w h => List.mem_cons_of_mem _ (i_Fr w h)) hKK.1 (19 + 2 * i) (fr_lt hi) (ce_fr hi) rfl 3 (by decide) (S.2.2.2.2 _ (List.mem_cons_of_mem _ (wd_111))) (fun _ h => h) rfl d_Fr_shown_34 ?_
        refine v_iload_n S d_Fr_shown_37 rfl rfl ?_
        refine v_iald S hKK.1 (20 + 2 * i) 0 (vl_lt hi) (ce_vl hi) rfl d_Fr_shown_38 (fun h8 => ?_)
        exact v_iret S hret hlocks d_Fr_shown_39
      · refine v_iconst S d_Fr_shown_29 (v := (1 : Int32)) (by decide) ?_
        refine v_goto S d_Fr_shown_30 (tgt := 39) (by decide) ?_
        exact v_iret S hret hlocks d_Fr_shown_39
  · refine v_iconst S d_Fr_shown_13 (v := (-1 : Int32)) (by decide) ?_
    exact v_iret S hret hlocks d_Fr_shown_14
end
section
def y_En_ordinal : MethodName := ⟨"java/lang/Enum", "ordinal", "()I"⟩
abbrev b_En_ordinal : ByteArray := prog_13_method_2_code
def rm_En_ordinal : Room := { frames := 0, cells := 0, slots := 0, locals := 0 }
abbrev w_En_ordinal : List Cond := Cond.code y_En_ordinal b_En_ordinal 1 (some .int) :: wG
theorem m_En_ordinal : Cond.code y_En_ordinal b_En_ordinal 1 (some .int) ∈ wG := wg_t 258 (by decide +kernel) (by decide +kernel)
theorem q_En_ordinal : y_En_ordinal.cls ≠ "java/lang/invoke/MethodHandle" ∧ y_En_ordinal.cls ≠ "java/lang/invoke/VarHandle" ∧ (parseMethodDescriptor y_En_ordinal.desc).map (fun d => d.parameters.length) = some 0 := by decide +kernel
theorem g_En_ordinal : Cond.initialized y_En_ordinal.cls ∈ wG := wg_t 14 (by decide +kernel) (by decide +kernel)
theorem s_En_ordinal : Cond.instanceMethod y_En_ordinal ∈ wG := wg_t 257 (by decide +kernel) (by decide +kernel)
theorem d_En_ordinal_0 : decode b_En_ordinal 0 = .ok (.aload_n 0, 1) := by decide +kernel
theorem d_En_ordinal_1 : decode b_En_ordinal 1 = .ok (.getfield 7, 3) := by decide +kernel
theorem d_En_ordinal_4 : decode b_En_ordinal 4 = .ok (.ireturn, 1) := by decide +kernel
def y_Pc_checkIndex : MethodName := ⟨"jdk/internal/util/Preconditions", "checkIndex", "(IILjava/util/function/BiFunction;)I"⟩
abbrev b_Pc_checkIndex : ByteArray := prog_26_method_11_code
def rm_Pc_checkIndex : Room := { frames := 0, cells := 0, slots := 0, locals := 0 }
abbrev w_Pc_checkIndex : List Cond := Cond.code y_Pc_checkIndex b_Pc_checkIndex 3 (some .int) :: wG
theorem m_Pc_checkIndex : Cond.code y_Pc_checkIndex b_Pc_checkIndex 3 (some .int) ∈ wG := wg_t 322 (by decide +kernel) (by decide +kernel)
theorem q_Pc_checkIndex : y_Pc_checkIndex.cls ≠ "java/lang/invoke/MethodHandle" ∧ y_Pc_checkIndex.cls ≠ "java/lang/invoke/VarHandle" ∧ (parseMethodDescriptor y_Pc_checkIndex.desc).map (fun d => d.parameters.length) = some 3 := by decide +kernel
theorem g_Pc_checkIndex : Cond.initialized y_Pc_checkIndex.cls ∈ wG := wg_t 18 (by decide +kernel) (by decide +kernel)
theorem s_Pc_checkIndex : Cond.static y_Pc_checkIndex ∈ wG := wg_t 321 (by decide +kernel) (by decide +kernel)
theorem d_Pc_checkIndex_0 : decode b_Pc_checkIndex 0 = .ok (.iload_n 0, 1) := by decide +kernel
theorem d_Pc_checkIndex_1 : decode b_Pc_checkIndex 1 = .ok (.ifCond .lt (8), 3) := by decide +kernel
theorem d_Pc_checkIndex_4 : decode b_Pc_checkIndex 4 = .ok (.iload_n 0, 1) := by decide +kernel
theorem d_Pc_checkIndex_5 : decode b_Pc_checkIndex 5 = .ok (.iload_n 1, 1) := by decide +kernel
theorem d_Pc_checkIndex_6 : decode b_Pc_checkIndex 6 = .ok (.if_icmp .lt (10), 3) := by decide +kernel
theorem d_Pc_checkIndex_9 : decode b_Pc_checkIndex 9 = .ok (.aload_n 2, 1) := by decide +kernel
theorem d_Pc_checkIndex_10 : decode b_Pc_checkIndex 10 = .ok (.iload_n 0, 1) := by decide +kernel
theorem d_Pc_checkIndex_11 : decode b_Pc_checkIndex 11 = .ok (.iload_n 1, 1) := by decide +kernel
theorem d_Pc_checkIndex_12 : decode b_Pc_checkIndex 12 = .ok (.invokestatic 95, 3) := by decide +kernel
theorem d_Pc_checkIndex_15 : decode b_Pc_checkIndex 15 = .ok (.athrow, 1) := by decide +kernel
theorem d_Pc_checkIndex_16 : decode b_Pc_checkIndex 16 = .ok (.iload_n 0, 1) := by decide +kernel
theorem d_Pc_checkIndex_17 : decode b_Pc_checkIndex 17 = .ok (.ireturn, 1) := by decide +kernel
def y_St_checkIndex : MethodName := ⟨"java/lang/String", "checkIndex", "(II)V"⟩
abbrev b_St_checkIndex : ByteArray := prog_20_method_155_code
def rm_St_checkIndex : Room := { frames := 1, cells := 0, slots := 0, locals := 22 }
abbrev w_St_checkIndex : List Cond := Cond.code y_St_checkIndex b_St_checkIndex 2 none :: wG
theorem m_St_checkIndex : Cond.code y_St_checkIndex b_St_checkIndex 2 none ∈ wG := wg_t 317 (by decide +kernel) (by decide +kernel)
theorem q_St_checkIndex : y_St_checkIndex.cls ≠ "java/lang/invoke/MethodHandle" ∧ y_St_checkIndex.cls ≠ "java/lang/invoke/VarHandle" ∧ (parseMethodDescriptor y_St_checkIndex.desc).map (fun d => d.parameters.length) = some 2 := by decide +kernel
theorem g_St_checkIndex : Cond.initialized y_St_checkIndex.cls ∈ wG := wg_t 16 (by decide +kernel) (by decide +kernel)
theorem s_St_checkIndex : Cond.static y_St_checkIndex ∈ wG := wg_t 316 (by decide +kernel) (by decide +kernel)
theorem d_St_checkIndex_0 : decode b_St_checkIndex 0 = .ok (.iload_n 0, 1) := by decide +kernel
theorem d_St_checkIndex_1 : decode b_St_checkIndex 1 = .ok (.iload_n 1, 1) := by decide +kernel
theorem d_St_checkIndex_2 : decode b_St_checkIndex 2 = .ok (.getstatic 1053, 3) := by decide +kernel
theorem d_St_checkIndex_5 : decode b_St_checkIndex 5 = .ok (.invokestatic 1059, 3) := by decide +kernel
theorem d_St_checkIndex_8 : decode b_St_checkIndex 8 = .ok (.pop, 1) := by decide +kernel
theorem d_St_checkIndex_9 : decode b_St_checkIndex 9 = .ok (.return_, 1) := by decide +kernel
def y_SL_charAt : MethodName := ⟨"java/lang/StringLatin1", "charAt", "([BI)C"⟩
abbrev b_SL_charAt : ByteArray := prog_21_method_2_code
def rm_SL_charAt : Room := { frames := 2, cells := 0, slots := 0, locals := 43 }
abbrev w_SL_charAt : List Cond := Cond.code y_SL_charAt b_SL_charAt 2 (some .char) :: wG
theorem m_SL_charAt : Cond.code y_SL_charAt b_SL_charAt 2 (some .char) ∈ wG := wg_t 314 (by decide +kernel) (by decide +kernel)
theorem q_SL_charAt : y_SL_charAt.cls ≠ "java/lang/invoke/MethodHandle" ∧ y_SL_charAt.cls ≠ "java/lang/invoke/VarHandle" ∧ (parseMethodDescriptor y_SL_charAt.desc).map (fun d => d.parameters.length) = some 2 := by decide +kernel
theorem g_SL_charAt : Cond.initialized y_SL_charAt.cls ∈ wG := wg_t 17 (by decide +kernel) (by decide +kernel)
theorem s_SL_charAt : Cond.static y_SL_charAt ∈ wG := wg_t 313 (by decide +kernel) (by decide +kernel)
theorem d_SL_charAt_0 : decode b_SL_charAt 0 = .ok (.iload_n 1, 1) := by decide +kernel
theorem d_SL_charAt_1 : decode b_SL_charAt 1 = .ok (.aload_n 0, 1) := by decide +kernel
theorem d_SL_charAt_2 : decode b_SL_charAt 2 = .ok (.arraylength, 1) := by decide +kernel
theorem d_SL_charAt_3 : decode b_SL_charAt 3 = .ok (.invokestatic 9, 3) := by decide +kernel
theorem d_SL_charAt_6 : decode b_SL_charAt 6 = .ok (.aload_n 0, 1) := by decide +kernel
theorem d_SL_charAt_7 : decode b_SL_charAt 7 = .ok (.iload_n 1, 1) := by decide +kernel
theorem d_SL_charAt_8 : decode b_SL_charAt 8 = .ok (.baload, 1) := by decide +kernel
theorem d_SL_charAt_9 : decode b_SL_charAt 9 = .ok (.sipush (255), 3) := by decide +kernel
theorem d_SL_charAt_12 : decode b_SL_charAt 12 = .ok (.iand, 1) := by decide +kernel
theorem d_SL_charAt_13 : decode b_SL_charAt 13 = .ok (.i2c, 1) := by decide +kernel
theorem d_SL_charAt_14 : decode b_SL_charAt 14 = .ok (.ireturn, 1) := by decide +kernel
def y_St_coder : MethodName := ⟨"java/lang/String", "coder", "()B"⟩
abbrev b_St_coder : ByteArray := prog_20_method_152_code
def rm_St_coder : Room := { frames := 0, cells := 0, slots := 0, locals := 0 }
abbrev w_St_coder : List Cond := Cond.code y_St_coder b_St_coder 1 (some .byte) :: wG
theorem m_St_coder : Cond.code y_St_coder b_St_coder 1 (some .byte) ∈ wG := wg_t 291 (by decide +kernel) (by decide +kernel)
theorem q_St_coder : y_St_coder.cls ≠ "java/lang/invoke/MethodHandle" ∧ y_St_coder.cls ≠ "java/lang/invoke/VarHandle" ∧ (parseMethodDescriptor y_St_coder.desc).map (fun d => d.parameters.length) = some 0 := by decide +kernel
theorem g_St_coder : Cond.initialized y_St_coder.cls ∈ wG := wg_t 16 (by decide +kernel) (by decide +kernel)
theorem s_St_coder : Cond.instanceMethod y_St_coder ∈ wG := wg_t 289 (by decide +kernel) (by decide +kernel)
theorem e_St_coder : Cond.selects "java/lang/String" y_St_coder y_St_coder ∈ wG := wg_t 290 (by decide +kernel) (by decide +kernel)
theorem d_St_coder_0 : decode b_St_coder 0 = .ok (.getstatic 38, 3) := by decide +kernel
theorem d_St_coder_3 : decode b_St_coder 3 = .ok (.ifCond .eq (10), 3) := by decide +kernel
theorem d_St_coder_6 : decode b_St_coder 6 = .ok (.aload_n 0, 1) := by decide +kernel
theorem d_St_coder_7 : decode b_St_coder 7 = .ok (.getfield 15, 3) := by decide +kernel
theorem d_St_coder_10 : decode b_St_coder 10 = .ok (.goto (4), 3) := by decide +kernel
theorem d_St_coder_13 : decode b_St_coder 13 = .ok (.iconst 1, 1) := by decide +kernel
theorem d_St_coder_14 : decode b_St_coder 14 = .ok (.ireturn, 1) := by decide +kernel
def y_St_isLatin1 : MethodName := ⟨"java/lang/String", "isLatin1", "()Z"⟩
abbrev b_St_isLatin1 : ByteArray := prog_20_method_154_code
def rm_St_isLatin1 : Room := { frames := 0, cells := 0, slots := 0, locals := 0 }
abbrev w_St_isLatin1 : List Cond := Cond.code y_St_isLatin1 b_St_isLatin1 1 (some .boolean) :: wG
theorem m_St_isLatin1 : Cond.code y_St_isLatin1 b_St_isLatin1 1 (some .boolean) ∈ wG := wg_t 311 (by decide +kernel) (by decide +kernel)
theorem q_St_isLatin1 : y_St_isLatin1.cls ≠ "java/lang/invoke/MethodHandle" ∧ y_St_isLatin1.cls ≠ "java/lang/invoke/VarHandle" ∧ (parseMethodDescriptor y_St_isLatin1.desc).map (fun d => d.parameters.length) = some 0 := by decide +kernel
theorem g_St_isLatin1 : Cond.initialized y_St_isLatin1.cls ∈ wG := wg_t 16 (by decide +kernel) (by decide +kernel)
theorem s_St_isLatin1 : Cond.instanceMethod y_St_isLatin1 ∈ wG := wg_t 309 (by decide +kernel) (by decide +kernel)
theorem e_St_isLatin1 : Cond.selects "java/lang/String" y_St_isLatin1 y_St_isLatin1 ∈ wG := wg_t 310 (by decide +kernel) (by decide +kernel)
theorem d_St_isLatin1_0 : decode b_St_isLatin1 0 = .ok (.getstatic 38, 3) := by decide +kernel
theorem d_St_isLatin1_3 : decode b_St_isLatin1 3 = .ok (.ifCond .eq (14), 3) := by decide +kernel
theorem d_St_isLatin1_6 : decode b_St_isLatin1 6 = .ok (.aload_n 0, 1) := by decide +kernel
theorem d_St_isLatin1_7 : decode b_St_isLatin1 7 = .ok (.getfield 15, 3) := by decide +kernel
theorem d_St_isLatin1_10 : decode b_St_isLatin1 10 = .ok (.ifCond .ne (7), 3) := by decide +kernel
theorem d_St_isLatin1_13 : decode b_St_isLatin1 13 = .ok (.iconst 1, 1) := by decide +kernel
theorem d_St_isLatin1_14 : decode b_St_isLatin1 14 = .ok (.goto (4), 3) := by decide +kernel
theorem d_St_isLatin1_17 : decode b_St_isLatin1 17 = .ok (.iconst 0, 1) := by decide +kernel
theorem d_St_isLatin1_18 : decode b_St_isLatin1 18 = .ok (.ireturn, 1) := by decide +kernel
def y_St_length : MethodName := ⟨"java/lang/String", "length", "()I"⟩
abbrev b_St_length : ByteArray := prog_20_method_54_code
def rm_St_length : Room := { frames := 1, cells := 0, slots := 0, locals := 20 }
abbrev w_St_length : List Cond := Cond.code y_St_length b_St_length 1 (some .int) :: wG
theorem m_St_length : Cond.code y_St_length b_St_length 1 (some .int) ∈ wG := wg_t 287 (by decide +kernel) (by decide +kernel)
theorem q_St_length : y_St_length.cls ≠ "java/lang/invoke/MethodHandle" ∧ y_St_length.cls ≠ "java/lang/invoke/VarHandle" ∧ (parseMethodDescriptor y_St_length.desc).map (fun d => d.parameters.length) = some 0 := by decide +kernel
theorem g_St_length : Cond.initialized y_St_length.cls ∈ wG := wg_t 16 (by decide +kernel) (by decide +kernel)
theorem s_St_length : Cond.instanceMethod y_St_length ∈ wG := wg_t 285 (by decide +kernel) (by decide +kernel)
theorem e_St_length : Cond.selects "java/lang/String" y_St_length y_St_length ∈ wG := wg_t 286 (by decide +kernel) (by decide +kernel)
theorem d_St_length_0 : decode b_St_length 0 = .ok (.aload_n 0, 1) := by decide +kernel
theorem d_St_length_1 : decode b_St_length 1 = .ok (.getfield 9, 3) := by decide +kernel
theorem d_St_length_4 : decode b_St_length 4 = .ok (.arraylength, 1) := by decide +kernel
theorem d_St_length_5 : decode b_St_length 5 = .ok (.aload_n 0, 1) := by decide +kernel
theorem d_St_length_6 : decode b_St_length 6 = .ok (.invokevirtual 335, 3) := by decide +kernel
theorem d_St_length_9 : decode b_St_length 9 = .ok (.ishr, 1) := by decide +kernel
theorem d_St_length_10 : decode b_St_length 10 = .ok (.ireturn, 1) := by decide +kernel
def y_St_charAt : MethodName := ⟨"java/lang/String", "charAt", "(I)C"⟩
abbrev b_St_charAt : ByteArray := prog_20_method_56_code
def rm_St_charAt : Room := { frames := 3, cells := 0, slots := 0, locals := 64 }
abbrev w_St_charAt : List Cond := Cond.code y_St_charAt b_St_charAt 2 (some .char) :: wG
theorem m_St_charAt : Cond.code y_St_charAt b_St_charAt 2 (some .char) ∈ wG := wg_t 307 (by decide +kernel) (by decide +kernel)
theorem q_St_charAt : y_St_charAt.cls ≠ "java/lang/invoke/MethodHandle" ∧ y_St_charAt.cls ≠ "java/lang/invoke/VarHandle" ∧ (parseMethodDescriptor y_St_charAt.desc).map (fun d => d.parameters.length) = some 1 := by decide +kernel
theorem g_St_charAt : Cond.initialized y_St_charAt.cls ∈ wG := wg_t 16 (by decide +kernel) (by decide +kernel)
theorem s_St_charAt : Cond.instanceMethod y_St_charAt ∈ wG := wg_t 305 (by decide +kernel) (by decide +kernel)
theorem e_St_charAt : Cond.selects "java/lang/String" y_St_charAt y_St_charAt ∈ wG := wg_t 306 (by decide +kernel) (by decide +kernel)
theorem d_St_charAt_0 : decode b_St_charAt 0 = .ok (.aload_n 0, 1) := by decide +kernel
theorem d_St_charAt_1 : decode b_St_charAt 1 = .ok (.invokevirtual 492, 3) := by decide +kernel
theorem d_St_charAt_4 : decode b_St_charAt 4 = .ok (.ifCond .eq (12), 3) := by decide +kernel
theorem d_St_charAt_7 : decode b_St_charAt 7 = .ok (.aload_n 0, 1) := by decide +kernel
theorem d_St_charAt_8 : decode b_St_charAt 8 = .ok (.getfield 9, 3) := by decide +kernel
theorem d_St_charAt_11 : decode b_St_charAt 11 = .ok (.iload_n 1, 1) := by decide +kernel
theorem d_St_charAt_12 : decode b_St_charAt 12 = .ok (.invokestatic 495, 3) := by decide +kernel
theorem d_St_charAt_15 : decode b_St_charAt 15 = .ok (.ireturn, 1) := by decide +kernel
theorem d_St_charAt_16 : decode b_St_charAt 16 = .ok (.aload_n 0, 1) := by decide +kernel
theorem d_St_charAt_17 : decode b_St_charAt 17 = .ok (.getfield 9, 3) := by decide +kernel
theorem d_St_charAt_20 : decode b_St_charAt 20 = .ok (.iload_n 1, 1) := by decide +kernel
theorem d_St_charAt_21 : decode b_St_charAt 21 = .ok (.invokestatic 498, 3) := by decide +kernel
theorem d_St_charAt_24 : decode b_St_charAt 24 = .ok (.ireturn, 1) := by decide +kernel
theorem wd_987 : (Jvm.Cond.fieldLink "java/lang/Enum" (7 : Nat) "java/lang/Enum" "ordinal" "I") ∈ wG := wg_t 987 (by decide +kernel) (by decide +kernel)
theorem wd_989 : (Jvm.Cond.fieldLink "java/lang/String" (9 : Nat) "java/lang/String" "value" "[B") ∈ wG := wg_t 989 (by decide +kernel) (by decide +kernel)
theorem wd_990 : (Jvm.Cond.fieldLink "java/lang/String" (15 : Nat) "java/lang/String" "coder" "B") ∈ wG := wg_t 990 (by decide +kernel) (by decide +kernel)
theorem wd_292 : (Jvm.Cond.fieldLink "java/lang/String" (38 : Nat) "java/lang/String" "COMPACT_STRINGS" "Z") ∈ wG := wg_t 292 (by decide +kernel) (by decide +kernel)
theorem wd_318 : (Jvm.Cond.fieldLink "java/lang/String" (1053 : Nat) "jdk/internal/util/Preconditions" "SIOOBE_FORMATTER" "Ljava/util/function/BiFunction;") ∈ wG := wg_t 318 (by decide +kernel) (by decide +kernel)
theorem k_St_335 {R : Room} {s : State} {args : Array Value} {Ts : List Cond} (hts : ∀ w ∈ Ts, w.before args s = true) (hsub : ∀ w ∈ wG, w ∈ Ts) (hR : rm_St_coder.frames + 1 ≤ R.frames ∧ 8 + (1 + 11) + rm_St_coder.locals ≤ R.locals) : CallW R s args "java/lang/String" "java/lang/String" 335 y_St_coder b_St_coder 1 (some .byte) w_St_coder rm_St_coder 0 0 0 := ⟨cb_G hts hsub m_St_coder g_St_coder (wg_t 288 (by decide +kernel) (by decide +kernel) : Cond.methodLink "java/lang/String" 335 y_St_coder ∈ wG) q_St_coder rfl rfl hR, hts _ (hsub _ s_St_coder), hts _ (hsub _ e_St_coder)⟩
theorem k_St_492 {R : Room} {s : State} {args : Array Value} {Ts : List Cond} (hts : ∀ w ∈ Ts, w.before args s = true) (hsub : ∀ w ∈ wG, w ∈ Ts) (hR : rm_St_isLatin1.frames + 1 ≤ R.frames ∧ 8 + (1 + 11) + rm_St_isLatin1.locals ≤ R.locals) : CallW R s args "java/lang/String" "java/lang/String" 492 y_St_isLatin1 b_St_isLatin1 1 (some .boolean) w_St_isLatin1 rm_St_isLatin1 0 0 0 := ⟨cb_G hts hsub m_St_isLatin1 g_St_isLatin1 (wg_t 308 (by decide +kernel) (by decide +kernel) : Cond.methodLink "java/lang/String" 492 y_St_isLatin1 ∈ wG) q_St_isLatin1 rfl rfl hR, hts _ (hsub _ s_St_isLatin1), hts _ (hsub _ e_St_isLatin1)⟩
theorem k_St_495 {R : Room} {s : State} {args : Array Value} {Ts : List Cond} (hts : ∀ w ∈ Ts, w.before args s = true) (hsub : ∀ w ∈ wG, w ∈ Ts) (hR : rm_SL_charAt.frames + 1 ≤ R.frames ∧ 8 + (2 + 11) + rm_SL_charAt.locals ≤ R.locals) : CallB R s args "java/lang/String" 495 y_SL_charAt b_SL_charAt 2 (some .char) w_SL_charAt rm_SL_charAt 0 0 2 ∧ (Cond.static y_SL_charAt).before args s = true := ⟨cb_G hts hsub m_SL_charAt g_SL_charAt (wg_t 312 (by decide +kernel) (by decide +kernel) : Cond.methodLink "java/lang/String" 495 y_SL_charAt ∈ wG) q_SL_charAt rfl rfl hR, hts _ (hsub _ s_SL_charAt)⟩
theorem k_SL_9 {R : Room} {s : State} {args : Array Value} {Ts : List Cond} (hts : ∀ w ∈ Ts, w.before args s = true) (hsub : ∀ w ∈ wG, w ∈ Ts) (hR : rm_St_checkIndex.frames + 1 ≤ R.frames ∧ 8 + (2 + 11) + rm_St_checkIndex.locals ≤ R.locals) : CallB R s args "java/lang/StringLatin1" 9 y_St_checkIndex b_St_checkIndex 2 none w_St_checkIndex rm_St_checkIndex 0 0 2 ∧ (Cond.static y_St_checkIndex).before args s = true := ⟨cb_G hts hsub m_St_checkIndex g_St_checkIndex (wg_t 315 (by decide +kernel) (by decide +kernel) : Cond.methodLink "java/lang/StringLatin1" 9 y_St_checkIndex ∈ wG) q_St_checkIndex rfl rfl hR, hts _ (hsub _ s_St_checkIndex)⟩
theorem k_St_1059 {R : Room} {s : State} {args : Array Value} {Ts : List Cond} (hts : ∀ w ∈ Ts, w.before args s = true) (hsub : ∀ w ∈ wG, w ∈ Ts) (hR : rm_Pc_checkIndex.frames + 1 ≤ R.frames ∧ 8 + (3 + 11) + rm_Pc_checkIndex.locals ≤ R.locals) : CallB R s args "java/lang/String" 1059 y_Pc_checkIndex b_Pc_checkIndex 3 (some .int) w_Pc_checkIndex rm_Pc_checkIndex 0 0 3 ∧ (Cond.static y_Pc_checkIndex).before args s = true := ⟨cb_G hts hsub m_Pc_checkIndex g_Pc_checkIndex (wg_t 320 (by decide +kernel) (by decide +kernel) : Cond.methodLink "java/lang/String" 1059 y_Pc_checkIndex ∈ wG) q_Pc_checkIndex rfl rfl hR, hts _ (hsub _ s_Pc_checkIndex)⟩
end
section
theorem ix_lt {i : Int32} {n : Nat} (hn : n < 2 ^ 31) (hi : ¬ (i < 0 ∨ n ≤ i.toNatClampNeg)) : i < nI n := by
  obtain ⟨j, hj, rfl⟩ := vp_in_of (x := i) (n := n) hi hn
  exact nI_lt hj hn
set_option maxRecDepth 100000 in
set_option maxHeartbeats 4000000 in
theorem c_En_ordO (l : Launch) (D : va_G) (ca : Nat → ClassId) (ax : Nat → Nat → Nat) (b : Nat) (σ : mm_M) {o : Nat} (ho : o < 20) : Met l y_En_ordinal w_En_ordinal rm_En_ordinal (pc_w D cls b N_C (ce_C ca b) (kC D ca ax b) [.ref (ax 0 o)] σ) (qc_i D cls b N_C (ce_C ca b) (nI o) σ) 0 0 (mm_A b N_C) := by
  refine vv_go (cc := b_En_ordinal) (maxL := 1) (ret := (some .int)) (fin := ((nI o), σ)) (k := some ((nI o), σ)) (by decide) rfl (by simp [Value.category]) (Nat.le_of_ble_eq_true rfl) rfl ?_
  intro p e s m below meth c hlocks hret S hKK
  refine v_aload_n S d_En_ordinal_0 rfl rfl ?_
  refine v_of S (hKK.2.1.1 o ho).2.2.1 (S.2.2.2.2 _ (List.mem_cons_of_mem _ wd_987)) (fun _ h => h) d_En_ordinal_1 ?_
  exact v_iret S hret hlocks d_En_ordinal_4
set_option maxRecDepth 100000 in
set_option maxHeartbeats 4000000 in
theorem c_En_ordT (l : Launch) (D : va_G) (ca : Nat → ClassId) (ax : Nat → Nat → Nat) (b : Nat) (σ : mm_M) {o : Nat} (ho : o < 6) : Met l y_En_ordinal w_En_ordinal rm_En_ordinal (pc_w D cls b N_C (ce_C ca b) (kC D ca ax b) [.ref (ax 1 o)] σ) (qc_i D cls b N_C (ce_C ca b) (nI o) σ) 0 0 (mm_A b N_C) := by
  refine vv_go (cc := b_En_ordinal) (maxL := 1) (ret := (some .int)) (fin := ((nI o), σ)) (k := some ((nI o), σ)) (by decide) rfl (by simp [Value.category]) (Nat.le_of_ble_eq_true rfl) rfl ?_
  intro p e s m below meth c hlocks hret S hKK
  refine v_aload_n S d_En_ordinal_0 rfl rfl ?_
  refine v_of S (hKK.2.1.2.1 o ho).2.2 (S.2.2.2.2 _ (List.mem_cons_of_mem _ wd_987)) (fun _ h => h) d_En_ordinal_1 ?_
  exact v_iret S hret hlocks d_En_ordinal_4
set_option maxRecDepth 100000 in
set_option maxHeartbeats 4000000 in
theorem c_Pc_checkIndex (l : Launch) (D : va_G) (ca : Nat → ClassId) (ax : Nat → Nat → Nat) (b : Nat) (σ : mm_M) {i : Int32} {n : Nat} (v : Value) (hv : v.category = 1) (hn : n < 2 ^ 31) (hi : ¬ (i < 0 ∨ n ≤ i.toNatClampNeg)) : Met l y_Pc_checkIndex w_Pc_checkIndex rm_Pc_checkIndex (pc_w D cls b N_C (ce_C ca b) (kC D ca ax b) [.int i, .int (nI n), v] σ) (qc_i D cls b N_C (ce_C ca b) (i) σ) 0 0 (mm_A b N_C) := by
  refine vv_go (cc := b_Pc_checkIndex) (maxL := 3) (ret := (some .int)) (fin := ((i), σ)) (k := some ((i), σ)) (by decide) rfl (by intro w hw; simp at hw; rcases hw with rfl | rfl | rfl <;> first | rfl | exact hv) (Nat.le_of_ble_eq_true rfl) rfl ?_
  intro p e s m below meth c hlocks hret S hKK
  refine v_iload_n S d_Pc_checkIndex_0 rfl rfl ?_
  refine v_if_ltF S d_Pc_checkIndex_1 (tgt := 9) (by decide) (fun q => hi (Or.inl q)) ?_
  refine v_iload_n S d_Pc_checkIndex_4 rfl rfl ?_
  refine v_iload_n S d_Pc_checkIndex_5 rfl rfl ?_
  refine v_icmp_ltT S d_Pc_checkIndex_6 (tgt := 16) (by decide) (ix_lt hn hi) ?_
  refine v_iload_n S d_Pc_checkIndex_16 rfl rfl ?_
  exact v_iret S hret hlocks d_Pc_checkIndex_17
set_option maxRecDepth 100000 in
set_option maxHeartbeats 4000000 in
theorem c_St_checkIndex (l : Launch) (D : va_G) (ca : Nat → ClassId) (ax : Nat → Nat → Nat) (b : Nat) (σ : mm_M) {i : Int32} {n : Nat} (hn : n < 2 ^ 31) (hi : ¬ (i < 0 ∨ n ≤ i.toNatClampNeg)) : Met l y_St_checkIndex w_St_checkIndex rm_St_checkIndex (pc_w D cls b N_C (ce_C ca b) (kC D ca ax b) [.int i, .int (nI n)] σ) (qc_v D cls b N_C (ce_C ca b) σ) 0 0 (mm_A b N_C) := by
  refine vv_go (cc := b_St_checkIndex) (maxL := 2) (ret := none) (fin := σ) (k := some σ) (by decide) rfl (by simp [Value.category]) (Nat.le_of_ble_eq_true rfl) rfl ?_
  intro p e s m below meth c hlocks hret S hKK
  refine v_iload_n S d_St_checkIndex_0 rfl rfl ?_
  refine v_iload_n S d_St_checkIndex_1 rfl rfl ?_
  have key : ∀ v : Value, v.category = 1 → vv p l e (headSpec w_St_checkIndex rm_St_checkIndex).room s m [.int i, .int (nI n)].toArray below meth c D cls b N_C (ce_C ca b) 2 (MQ below (qc_v D cls b N_C (ce_C ca b) σ) [.int i, .int (nI n)].toArray s 0 0 (mm_A b N_C)) σ (some σ) σ 5 [some (.int i), some (.int (nI n))] [v, .int (nI n), .int i] := by
    intro v hv
    refine v_ci (av := [.int i, .int (nI n), v].toArray) (g := some (i, σ)) (kf := fun _ _ => some σ) (rest := []) (fun r1 σ1 hg H locs ls hsz hP hS => ?_) (fun r1 σ1 hg => ?_)
    · cases hg; exact run_S (As := [.int i, .int (nI n), v]) (rest := []) S kC_ok hKK (c_Pc_checkIndex l D ca ax b σ v hv hn hi) (k_St_1059 S.2.2.2.2 (fun _ => List.mem_cons_of_mem _) ⟨Nat.le_of_ble_eq_true rfl, Nat.le_of_ble_eq_true rfl⟩) rfl rfl (Nat.zero_le _) d_St_checkIndex_5 hsz hP hS
    · cases hg
      refine v_pop S d_St_checkIndex_8 rfl ?_
      exact v_vret S hret hlocks d_St_checkIndex_9
  rcases kc_sf hKK with hz | ⟨t, hz⟩
  · refine v_gets S hz (S.2.2.2.2 _ (List.mem_cons_of_mem _ wd_318)) (fun _ h => h) d_St_checkIndex_2 ?_
    exact key .null rfl
  · refine v_gets S hz (S.2.2.2.2 _ (List.mem_cons_of_mem _ wd_318)) (fun _ h => h) d_St_checkIndex_2 ?_
    exact key (.ref t) rfl
set_option maxRecDepth 100000 in
set_option maxHeartbeats 4000000 in
theorem c_SL_charAt (l : Launch) (D : va_G) (ca : Nat → ClassId) (ax : Nat → Nat → Nat) (b : Nat) (σ : mm_M) {i : Int32} {k : Nat} (hk : k < 8) (hi : ¬ (i < 0 ∨ tx_n k ≤ i.toNatClampNeg)) : Met l y_SL_charAt w_SL_charAt rm_SL_charAt (pc_w D cls b N_C (ce_C ca b) (kC D ca ax b) [.ref (ax 6 k), .int i] σ) (qc_i D cls b N_C (ce_C ca b) (tx_b k i.toNatClampNeg) σ) 0 0 (mm_A b N_C) := by
  refine vv_go (cc := b_SL_charAt) (maxL := 2) (ret := (some .char)) (fin := ((tx_b k i.toNatClampNeg), σ)) (k := some ((tx_b k i.toNatClampNeg), σ)) (by decide) rfl (by simp [Value.category]) (Nat.le_of_ble_eq_true rfl) rfl ?_
  intro p e s m below meth c hlocks hret S hKK
  refine v_iload_n S d_SL_charAt_0 rfl rfl ?_
  refine v_aload_n S d_SL_charAt_1 rfl rfl ?_
  refine v_tlen S (kc_st hKK hk).2.2.2 (v := nI (tx_n k)) rfl d_SL_charAt_2 ?_
  refine v_cv (av := [.int i, .int (nI (tx_n k))].toArray) (g := some σ) (kf := fun _ => some (tx_b k i.toNatClampNeg, σ)) (rest := []) (fun σ1 hg H locs ls hsz hP hS => ?_) (fun σ1 hg => ?_)
  · cases hg; exact run_S (As := [.int i, .int (nI (tx_n k))]) (rest := []) S kC_ok hKK (c_St_checkIndex l D ca ax b σ (Nat.lt_trans (tx_lt k hk) (by decide)) hi) (k_SL_9 S.2.2.2.2 (fun _ => List.mem_cons_of_mem _) ⟨Nat.le_of_ble_eq_true rfl, Nat.le_of_ble_eq_true rfl⟩) rfl rfl (Nat.zero_le _) d_SL_charAt_3 hsz hP hS
  · cases hg
    refine v_aload_n S d_SL_charAt_6 rfl rfl ?_
    refine v_iload_n S d_SL_charAt_7 rfl rfl ?_
    refine v_tb0 S (kc_st hKK hk).2.2.2 hi d_SL_charAt_8 ?_
    refine v_sipush S d_SL_charAt_9 (v := 255) (by decide) ?_
    refine v_iand S d_SL_charAt_12 ?_
    refine v_i2c S d_SL_charAt_13 (v := tx_b k i.toNatClampNeg) (tx_c k hk _ (ib hi)) ?_
    exact v_xret S hret (tx_nc k hk _ (ib hi)) hlocks d_SL_charAt_14
set_option maxRecDepth 100000 in
set_option maxHeartbeats 4000000 in
theorem c_St_coder (l : Launch) (D : va_G) (ca : Nat → ClassId) (ax : Nat → Nat → Nat) (b : Nat) (σ : mm_M) {k : Nat} (hk : k < 8) : Met l y_St_coder w_St_coder rm_St_coder (pc_w D cls b N_C (ce_C ca b) (kC D ca ax b) [.ref (ax 5 k)] σ) (qc_i D cls b N_C (ce_C ca b) ((0 : Int32)) σ) 0 0 (mm_A b N_C) := by
  refine vv_go (cc := b_St_coder) (maxL := 1) (ret := (some .byte)) (fin := (((0 : Int32)), σ)) (k := some (((0 : Int32)), σ)) (by decide) rfl (by simp [Value.category]) (Nat.le_of_ble_eq_true rfl) rfl ?_
  intro p e s m below meth c hlocks hret S hKK
  refine v_gets S (kc_cs hKK) (S.2.2.2.2 _ (List.mem_cons_of_mem _ wd_292)) (fun _ h => h) d_St_coder_0 ?_
  refine v_if_eqF S d_St_coder_3 (tgt := 13) (by decide) (by decide) ?_
  refine v_aload_n S d_St_coder_6 rfl rfl ?_
  refine v_of S (kc_st hKK hk).2.1 (S.2.2.2.2 _ (List.mem_cons_of_mem _ wd_990)) (fun _ h => h) d_St_coder_7 ?_
  refine v_goto S d_St_coder_10 (tgt := 14) (by decide) ?_
  exact v_xret S hret rfl hlocks d_St_coder_14
set_option maxRecDepth 100000 in
set_option maxHeartbeats 4000000 in
theorem c_St_isLatin1 (l : Launch) (D : va_G) (ca : Nat → ClassId) (ax : Nat → Nat → Nat) (b : Nat) (σ : mm_M) {k : Nat} (hk : k < 8) : Met l y_St_isLatin1 w_St_isLatin1 rm_St_isLatin1 (pc_w D cls b N_C (ce_C ca b) (kC D ca ax b) [.ref (ax 5 k)] σ) (qc_i D cls b N_C (ce_C ca b) ((1 : Int32)) σ) 0 0 (mm_A b N_C) := by
  refine vv_go (cc := b_St_isLatin1) (maxL := 1) (ret := (some .boolean)) (fin := (((1 : Int32)), σ)) (k := some (((1 : Int32)), σ)) (by decide) rfl (by simp [Value.category]) (Nat.le_of_ble_eq_true rfl) rfl ?_
  intro p e s m below meth c hlocks hret S hKK
  refine v_gets S (kc_cs hKK) (S.2.2.2.2 _ (List.mem_cons_of_mem _ wd_292)) (fun _ h => h) d_St_isLatin1_0 ?_
  refine v_if_eqF S d_St_isLatin1_3 (tgt := 17) (by decide) (by decide) ?_
  refine v_aload_n S d_St_isLatin1_6 rfl rfl ?_
  refine v_of S (kc_st hKK hk).2.1 (S.2.2.2.2 _ (List.mem_cons_of_mem _ wd_990)) (fun _ h => h) d_St_isLatin1_7 ?_
  refine v_if_neF S d_St_isLatin1_10 (tgt := 17) (by decide) (by decide) ?_
  refine v_iconst S d_St_isLatin1_13 (v := 1) (by decide) ?_
  refine v_goto S d_St_isLatin1_14 (tgt := 18) (by decide) ?_
  exact v_xret S hret rfl hlocks d_St_isLatin1_18
set_option maxRecDepth 100000 in
set_option maxHeartbeats 4000000 in
theorem c_St_length (l : Launch) (D : va_G) (ca : Nat → ClassId) (ax : Nat → Nat → Nat) (b : Nat) (σ : mm_M) {k : Nat} (hk : k < 8) : Met l y_St_length w_St_length rm_St_length (pc_w D cls b N_C (ce_C ca b) (kC D ca ax b) [.ref (ax 5 k)] σ) (qc_i D cls b N_C (ce_C ca b) (nI (tx_n k)) σ) 0 0 (mm_A b N_C) := by
  refine vv_go (cc := b_St_length) (maxL := 1) (ret := (some .int)) (fin := ((nI (tx_n k)), σ)) (k := some ((nI (tx_n k)), σ)) (by decide) rfl (by simp [Value.category]) (Nat.le_of_ble_eq_true rfl) rfl ?_
  intro p e s m below meth c hlocks hret S hKK
  refine v_aload_n S d_St_length_0 rfl rfl ?_
  refine v_of S (kc_st hKK hk).2.2.1 (S.2.2.2.2 _ (List.mem_cons_of_mem _ wd_989)) (fun _ h => h) d_St_length_1 ?_
  refine v_tlen S (kc_st hKK hk).2.2.2 (v := nI (tx_n k)) rfl d_St_length_4 ?_
  refine v_aload_n S d_St_length_5 rfl rfl ?_
  refine v_ci (av := [.ref (ax 5 k)].toArray) (g := some (0, σ)) (kf := fun _ _ => some (nI (tx_n k), σ)) (rest := [.int (nI (tx_n k))]) (fun r1 σ1 hg H locs ls hsz hP hS => ?_) (fun r1 σ1 hg => ?_)
  · cases hg; exact run_V (As := []) (rest := [.int (nI (tx_n k))]) S kC_ok hKK (c_St_coder l D ca ax b σ hk) (k_St_335 S.2.2.2.2 (fun _ => List.mem_cons_of_mem _) ⟨Nat.le_of_ble_eq_true rfl, Nat.le_of_ble_eq_true rfl⟩) (rc_o (kc_st hKK hk).1 hS) rfl rfl (by simp [Value.category]) d_St_length_6 hsz hP hS
  · cases hg
    refine v_ishr S d_St_length_9 ?_
    rw [sc_shr0 (Nat.lt_trans (tx_lt k hk) (by decide))]
    exact v_iret S hret hlocks d_St_length_10
set_option maxRecDepth 100000 in
set_option maxHeartbeats 4000000 in
theorem c_St_charAt (l : Launch) (D : va_G) (ca : Nat → ClassId) (ax : Nat → Nat → Nat) (b : Nat) (σ : mm_M) {i : Int32} {k : Nat} (hk : k < 8) (hi : ¬ (i < 0 ∨ tx_n k ≤ i.toNatClampNeg)) : Met l y_St_charAt w_St_charAt rm_St_charAt (pc_w D cls b N_C (ce_C ca b) (kC D ca ax b) [.ref (ax 5 k), .int i] σ) (qc_i D cls b N_C (ce_C ca b) (tx_b k i.toNatClampNeg) σ) 0 0 (mm_A b N_C) := by
  refine vv_go (cc := b_St_charAt) (maxL := 2) (ret := (some .char)) (fin := ((tx_b k i.toNatClampNeg), σ)) (k := some ((tx_b k i.toNatClampNeg), σ)) (by decide) rfl (by simp [Value.category]) (Nat.le_of_ble_eq_true rfl) rfl ?_
  intro p e s m below meth c hlocks hret S hKK
  refine v_aload_n S d_St_charAt_0 rfl rfl ?_
  refine v_ci (av := [.ref (ax 5 k)].toArray) (g := some (1, σ)) (kf := fun _ _ => some (tx_b k i.toNatClampNeg, σ)) (rest := []) (fun r1 σ1 hg H locs ls hsz hP hS => ?_) (fun r1 σ1 hg => ?_)
  · cases hg; exact run_V (As := []) (rest := []) S kC_ok hKK (c_St_isLatin1 l D ca ax b σ hk) (k_St_492 S.2.2.2.2 (fun _ => List.mem_cons_of_mem _) ⟨Nat.le_of_ble_eq_true rfl, Nat.le_of_ble_eq_true rfl⟩) (rc_o (kc_st hKK hk).1 hS) rfl rfl (Nat.zero_le _) d_St_charAt_1 hsz hP hS
  · cases hg
    refine v_if_eqF S d_St_charAt_4 (tgt := 16) (by decide) (by decide) ?_
    refine v_aload_n S d_St_charAt_7 rfl rfl ?_
    refine v_of S (kc_st hKK hk).2.2.1 (S.2.2.2.2 _ (List.mem_cons_of_mem _ wd_989)) (fun _ h => h) d_St_charAt_8 ?_
    refine v_iload_n S d_St_charAt_11 rfl rfl ?_
    refine v_ci (av := [.ref (ax 6 k), .int i].toArray) (g := some (tx_b k i.toNatClampNeg, σ)) (kf := fun _ _ => some (tx_b k i.toNatClampNeg, σ)) (rest := []) (fun r1 σ1 hg H locs ls hsz hP hS => ?_) (fun r1 σ1 hg => ?_)
    · cases hg; exact run_S (As := [.ref (ax 6 k), .int i]) (rest := []) S kC_ok hKK (c_SL_charAt l D ca ax b σ hk hi) (k_St_495 S.2.2.2.2 (fun _ => List.mem_cons_of_mem _) ⟨Nat.le_of_ble_eq_true rfl, Nat.le_of_ble_eq_true rfl⟩) rfl rfl (Nat.zero_le _) d_St_charAt_12 hsz hP hS
    · cases hg
      exact v_xret S hret (tx_nc k hk _ (ib hi)) hlocks d_St_charAt_15
section VV7
variable {Res : Type} {p : Program} {l : Launch} {e : Env} {R : Room} {s : State} {m : MethodId} {args : Array Value} {below : List Frame} {meth : Method} {c : Code} {D : va_G} {ca : Nat → ClassId} {ax : Nat → Nat → Nat} {b : Nat} {nL : Nat} {Q : State → Prop} {fin : Res} {k A B : Option Res} {σ : mm_M} {pc : Nat} {L L2 : List (Option Value)} {rest : List Value} {cc : ByteArray} {Ts : List Cond} {own : String} {index : Nat}
theorem run_U {x y : MethodName} {C owner : String} {bytes : ByteArray} {maxL n : Nat} {ret : Option FieldType} {ws : List Cond} {rm : Room} {As st0 : List Value} {Qc : Array Value → State → Outcome → State → Prop} {KK : State → Prop} {ce : Nat → (Nat → Int32) → va_E} {N : Nat} {H : Heap} {locs : List Loc} {ls : Array Slot} {a : Nat} (S : CallFix p m c cc nL s args Ts own) (hkk : kk_ok b N KK) (hK : KK s) (hM : Met l y ws rm (pc_w D cls b N ce KK (.ref a :: As) σ) Qc 0 0 (mm_A b N)) (cw : va_CU R s args own C owner index x y bytes maxL ret ws rm 0 0 n) (hrc : ∃ cellB : Cell, H[a]? = some cellB ∧ cellB.vm.isStatics = false ∧ s.vm.findClass C = some cellB.cls) (hn : As.length = n) (hst : st0 = As.reverse ++ .ref a :: rest) (hw : (rest.map fun v => v.category).sum ≤ 8) (d : decode cc pc = .ok (.invokevirtual index, 3)) (hsz : ls.size = nL) (hP : mm_P D cls b N ce σ H) (hS : va_S (mm_A b N) s.heap H locs) :
    va_Run p l e R s m args below meth c H locs 0 0 0 0 (F0 m pc ls st0) rest (Qc (Value.ref a :: As).toArray) (mm_A b N) := va_runU S hM cw ⟨(pw_pre (av := .ref a :: As) hkk hK hP hS).1, hrc, (pw_pre (av := .ref a :: As) hkk hK hP hS).2⟩ rfl hn hsz hst (lv_room hw) d ⟨Nat.zero_le _, Nat.zero_le _⟩
theorem v_ordO {o : Nat} (S : CallFix p m c cc nL s args Ts own) (hKK : kC D ca ax b s) (ho : o < 20) (cw : va_CU R s args own "FrameVerifier$Op" "java/lang/Enum" index ⟨"FrameVerifier$Op", "ordinal", "()I"⟩ y_En_ordinal b_En_ordinal 1 (some .int) w_En_ordinal rm_En_ordinal 0 0 0) (hw : (rest.map fun v => v.category).sum ≤ 8) (d : decode cc pc = .ok (.invokevirtual index, 3)) (kk : vv p l e R s m args below meth c D cls b N_C (ce_C ca b) nL Q fin k σ (pc + 3) L (.int (nI o) :: rest)) : vv p l e R s m args below meth c D cls b N_C (ce_C ca b) nL Q fin k σ pc L (.ref (ax 0 o) :: rest) :=
  v_ci (av := [.ref (ax 0 o)].toArray) (g := some (nI o, σ)) (kf := fun _ _ => k) (rest := rest) (fun r1 σ1 hg H locs ls hsz hP hS => by cases hg; exact run_U (As := []) S kC_ok hKK (c_En_ordO l D ca ax b σ ho) cw (rc_o (hKK.2.1.1 o ho).2.1 hS) rfl rfl hw d hsz hP hS) (fun r1 σ1 hg => by cases hg; exact kk)
theorem v_ordT {o : Nat} (S : CallFix p m c cc nL s args Ts own) (hKK : kC D ca ax b s) (ho : o < 6) (cw : va_CU R s args own "FrameVerifier$Trap" "java/lang/Enum" index ⟨"FrameVerifier$Trap", "ordinal", "()I"⟩ y_En_ordinal b_En_ordinal 1 (some .int) w_En_ordinal rm_En_ordinal 0 0 0) (hw : (rest.map fun v => v.category).sum ≤ 8) (d : decode cc pc = .ok (.invokevirtual index, 3)) (kk : vv p l e R s m args below meth c D cls b N_C (ce_C ca b) nL Q fin k σ (pc + 3) L (.int (nI o) :: rest)) : vv p l e R s m args below meth c D cls b N_C (ce_C ca b) nL Q fin k σ pc L (.ref (ax 1 o) :: rest) :=
  v_ci (av := [.ref (ax 1 o)].toArray) (g := some (nI o, σ)) (kf := fun _ _ => k) (rest := rest) (fun r1 σ1 hg H locs ls hsz hP hS => by cases hg; exact run_U (As := []) S kC_ok hKK (c_En_ordT l D ca ax b σ ho) cw (rc_o (hKK.2.1.2.1 o ho).2.1 hS) rfl rfl hw d hsz hP hS) (fun r1 σ1 hg => by cases hg; exact kk)
theorem v_strLen {o : Nat} (S : CallFix p m c cc nL s args Ts own) (hKK : kC D ca ax b s) (ho : o < 20) (cw : CallW R s args own "java/lang/String" index y_St_length b_St_length 1 (some .int) w_St_length rm_St_length 0 0 0) (hw : (rest.map fun v => v.category).sum ≤ 8) (d : decode cc pc = .ok (.invokevirtual index, 3)) (kk : vv p l e R s m args below meth c D cls b N_C (ce_C ca b) nL Q fin k σ (pc + 3) L (.int (st_len o) :: rest)) : vv p l e R s m args below meth c D cls b N_C (ce_C ca b) nL Q fin k σ pc L (.ref (ax 5 (st_of o)) :: rest) :=
  v_ci (av := [.ref (ax 5 (st_of o))].toArray) (g := some (nI (tx_n (st_of o)), σ)) (kf := fun _ _ => k) (rest := rest) (fun r1 σ1 hg H locs ls hsz hP hS => by cases hg; exact run_V (As := []) S kC_ok hKK (c_St_length l D ca ax b σ (st_lt ho)) cw (rc_o (kc_st hKK (st_lt ho)).1 hS) rfl rfl hw d hsz hP hS) (fun r1 σ1 hg => by cases hg; exact kk)
theorem v_strAt {o : Nat} {i : Int32} (S : CallFix p m c cc nL s args Ts own) (hKK : kC D ca ax b s) (ho : o < 20) (cw : CallW R s args own "java/lang/String" index y_St_charAt b_St_charAt 2 (some .char) w_St_charAt rm_St_charAt 0 0 1) (hw : (rest.map fun v => v.category).sum ≤ 8) (d : decode cc pc = .ok (.invokevirtual index, 3)) (kk : ¬ (i < 0 ∨ st_n o ≤ i.toNatClampNeg) → vv p l e R s m args below meth c D cls b N_C (ce_C ca b) nL Q fin k σ (pc + 3) L (.int (st_at o i.toNatClampNeg) :: rest)) : vv p l e R s m args below meth c D cls b N_C (ce_C ca b) nL Q fin (if (i < 0 ∨ st_n o ≤ i.toNatClampNeg) then none else k) σ pc L (.int i :: .ref (ax 5 (st_of o)) :: rest) := by
  by_cases h : (i < 0 ∨ st_n o ≤ i.toNatClampNeg)
  · rw [if_pos h]
    intro hk
    cases hk
  · rw [if_neg h]
    exact v_ci (av := [.ref (ax 5 (st_of o)), .int i].toArray) (g := some (tx_b (st_of o) i.toNatClampNeg, σ)) (kf := fun _ _ => k) (rest := rest) (fun r1 σ1 hg H locs ls hsz hP hS => by cases hg; exact run_V (As := [.int i]) S kC_ok hKK (c_St_charAt l D ca ax b σ (st_lt ho) h) cw (rc_o (kc_st hKK (st_lt ho)).1 hS) rfl rfl hw d hsz hP hS) (fun r1 σ1 hg => by cases hg; exact kk h)
end VV7
end
section
/-! names of 08.code -/
def y_Co_append : MethodName := ⟨"FrameVerifier$Code", "append", "(II)I"⟩
abbrev b_Co_append : ByteArray := prog_3_method_2_code
def rm_Co_append : Room := { frames := 0, cells := 0, slots := 0, locals := 0 }
abbrev w_Co_append : List Cond := Cond.code y_Co_append b_Co_append 4 (some .int) :: wG
theorem m_Co_append : Cond.code y_Co_append b_Co_append 4 (some .int) ∈ wG := wg_t 514 (by decide +kernel) (by decide +kernel)
theorem q_Co_append : y_Co_append.cls ≠ "java/lang/invoke/MethodHandle" ∧ y_Co_append.cls ≠ "java/lang/invoke/VarHandle" ∧ (parseMethodDescriptor y_Co_append.desc).map (fun d => d.parameters.length) = some 2 := by decide +kernel
theorem g_Co_append : Cond.initialized y_Co_append.cls ∈ wG := wg_t 2 (by decide +kernel) (by decide +kernel)
theorem s_Co_append : Cond.instanceMethod y_Co_append ∈ wG := wg_t 512 (by decide +kernel) (by decide +kernel)
theorem e_Co_append : Cond.selects "FrameVerifier$Code" y_Co_append y_Co_append ∈ wG := wg_t 513 (by decide +kernel) (by decide +kernel)
theorem d_Co_append_0 : decode b_Co_append 0 = .ok (.aload_n 0, 1) := by decide +kernel
theorem d_Co_append_1 : decode b_Co_append 1 = .ok (.getfield 9, 3) := by decide +kernel
theorem d_Co_append_4 : decode b_Co_append 4 = .ok (.istore_n 3, 1) := by decide +kernel
theorem d_Co_append_5 : decode b_Co_append 5 = .ok (.aload_n 0, 1) := by decide +kernel
theorem d_Co_append_6 : decode b_Co_append 6 = .ok (.getfield 15, 3) := by decide +kernel
theorem d_Co_append_9 : decode b_Co_append 9 = .ok (.iload_n 3, 1) := by decide +kernel
theorem d_Co_append_10 : decode b_Co_append 10 = .ok (.iload_n 1, 1) := by decide +kernel
theorem d_Co_append_11 : decode b_Co_append 11 = .ok (.iastore, 1) := by decide +kernel
theorem d_Co_append_12 : decode b_Co_append 12 = .ok (.aload_n 0, 1) := by decide +kernel
theorem d_Co_append_13 : decode b_Co_append 13 = .ok (.getfield 19, 3) := by decide +kernel
theorem d_Co_append_16 : decode b_Co_append 16 = .ok (.iload_n 3, 1) := by decide +kernel
theorem d_Co_append_17 : decode b_Co_append 17 = .ok (.iload_n 2, 1) := by decide +kernel
theorem d_Co_append_18 : decode b_Co_append 18 = .ok (.iastore, 1) := by decide +kernel
theorem d_Co_append_19 : decode b_Co_append 19 = .ok (.aload_n 0, 1) := by decide +kernel
theorem d_Co_append_20 : decode b_Co_append 20 = .ok (.dup, 1) := by decide +kernel
theorem d_Co_append_21 : decode b_Co_append 21 = .ok (.getfield 9, 3) := by decide +kernel
theorem d_Co_append_24 : decode b_Co_append 24 = .ok (.iconst 1, 1) := by decide +kernel
theorem d_Co_append_25 : decode b_Co_append 25 = .ok (.iadd, 1) := by decide +kernel
theorem d_Co_append_26 : decode b_Co_append 26 = .ok (.putfield 9, 3) := by decide +kernel
theorem d_Co_append_29 : decode b_Co_append 29 = .ok (.iload_n 3, 1) := by decide +kernel
theorem d_Co_append_30 : decode b_Co_append 30 = .ok (.ireturn, 1) := by decide +kernel
def y_Co_tell : MethodName := ⟨"FrameVerifier$Code", "tell", "(IIII)V"⟩
abbrev b_Co_tell : ByteArray := prog_3_method_3_code
def rm_Co_tell : Room := { frames := 0, cells := 0, slots := 0, locals := 0 }
abbrev w_Co_tell : List Cond := Cond.code y_Co_tell b_Co_tell 5 none :: wG
theorem m_Co_tell : Cond.code y_Co_tell b_Co_tell 5 none ∈ wG := wg_t 171 (by decide +kernel) (by decide +kernel)
theorem q_Co_tell : y_Co_tell.cls ≠ "java/lang/invoke/MethodHandle" ∧ y_Co_tell.cls ≠ "java/lang/invoke/VarHandle" ∧ (parseMethodDescriptor y_Co_tell.desc).map (fun d => d.parameters.length) = some 4 := by decide +kernel
theorem g_Co_tell : Cond.initialized y_Co_tell.cls ∈ wG := wg_t 2 (by decide +kernel) (by decide +kernel)
theorem s_Co_tell : Cond.instanceMethod y_Co_tell ∈ wG := wg_t 169 (by decide +kernel) (by decide +kernel)
theorem e_Co_tell : Cond.selects "FrameVerifier$Code" y_Co_tell y_Co_tell ∈ wG := wg_t 170 (by decide +kernel) (by decide +kernel)
theorem d_Co_tell_0 : decode b_Co_tell 0 = .ok (.aload_n 0, 1) := by decide +kernel
theorem d_Co_tell_1 : decode b_Co_tell 1 = .ok (.getfield 22, 3) := by decide +kernel
theorem d_Co_tell_4 : decode b_Co_tell 4 = .ok (.iload_n 1, 1) := by decide +kernel
theorem d_Co_tell_5 : decode b_Co_tell 5 = .ok (.iconst 1, 1) := by decide +kernel
theorem d_Co_tell_6 : decode b_Co_tell 6 = .ok (.bastore, 1) := by decide +kernel
theorem d_Co_tell_7 : decode b_Co_tell 7 = .ok (.aload_n 0, 1) := by decide +kernel
theorem d_Co_tell_8 : decode b_Co_tell 8 = .ok (.getfield 26, 3) := by decide +kernel
theorem d_Co_tell_11 : decode b_Co_tell 11 = .ok (.iload_n 1, 1) := by decide +kernel
theorem d_Co_tell_12 : decode b_Co_tell 12 = .ok (.iload_n 2, 1) := by decide +kernel
theorem d_Co_tell_13 : decode b_Co_tell 13 = .ok (.iastore, 1) := by decide +kernel
theorem d_Co_tell_14 : decode b_Co_tell 14 = .ok (.aload_n 0, 1) := by decide +kernel
theorem d_Co_tell_15 : decode b_Co_tell 15 = .ok (.getfield 29, 3) := by decide +kernel
theorem d_Co_tell_18 : decode b_Co_tell 18 = .ok (.iload_n 1, 1) := by decide +kernel
theorem d_Co_tell_19 : decode b_Co_tell 19 = .ok (.iload_n 3, 1) := by decide +kernel
theorem d_Co_tell_20 : decode b_Co_tell 20 = .ok (.iastore, 1) := by decide +kernel
theorem d_Co_tell_21 : decode b_Co_tell 21 = .ok (.aload_n 0, 1) := by decide +kernel
theorem d_Co_tell_22 : decode b_Co_tell 22 = .ok (.getfield 32, 3) := by decide +kernel
theorem d_Co_tell_25 : decode b_Co_tell 25 = .ok (.iload_n 1, 1) := by decide +kernel
theorem d_Co_tell_26 : decode b_Co_tell 26 = .ok (.iload 4, 2) := by decide +kernel
theorem d_Co_tell_28 : decode b_Co_tell 28 = .ok (.iastore, 1) := by decide +kernel
theorem d_Co_tell_29 : decode b_Co_tell 29 = .ok (.return_, 1) := by decide +kernel
def y_Co_hasInstruction : MethodName := ⟨"FrameVerifier$Code", "hasInstruction", "(I)Z"⟩
abbrev b_Co_hasInstruction : ByteArray := prog_3_method_4_code
def rm_Co_hasInstruction : Room := { frames := 0, cells := 0, slots := 0, locals := 0 }
abbrev w_Co_hasInstruction : List Cond := Cond.code y_Co_hasInstruction b_Co_hasInstruction 2 (some .boolean) :: wG
theorem m_Co_hasInstruction : Cond.code y_Co_hasInstruction b_Co_hasInstruction 2 (some .boolean) ∈ wG := wg_t 195 (by decide +kernel) (by decide +kernel)
theorem q_Co_hasInstruction : y_Co_hasInstruction.cls ≠ "java/lang/invoke/MethodHandle" ∧ y_Co_hasInstruction.cls ≠ "java/lang/invoke/VarHandle" ∧ (parseMethodDescriptor y_Co_hasInstruction.desc).map (fun d => d.parameters.length) = some 1 := by decide +kernel
theorem g_Co_hasInstruction : Cond.initialized y_Co_hasInstruction.cls ∈ wG := wg_t 2 (by decide +kernel) (by decide +kernel)
theorem s_Co_hasInstruction : Cond.instanceMethod y_Co_hasInstruction ∈ wG := wg_t 193 (by decide +kernel) (by decide +kernel)
theorem e_Co_hasInstruction : Cond.selects "FrameVerifier$Code" y_Co_hasInstruction y_Co_hasInstruction ∈ wG := wg_t 194 (by decide +kernel) (by decide +kernel)
theorem d_Co_hasInstruction_0 : decode b_Co_hasInstruction 0 = .ok (.iload_n 1, 1) := by decide +kernel
theorem d_Co_hasInstruction_1 : decode b_Co_hasInstruction 1 = .ok (.ifCond .lt (15), 3) := by decide +kernel
theorem d_Co_hasInstruction_4 : decode b_Co_hasInstruction 4 = .ok (.iload_n 1, 1) := by decide +kernel
theorem d_Co_hasInstruction_5 : decode b_Co_hasInstruction 5 = .ok (.aload_n 0, 1) := by decide +kernel
theorem d_Co_hasInstruction_6 : decode b_Co_hasInstruction 6 = .ok (.getfield 9, 3) := by decide +kernel
theorem d_Co_hasInstruction_9 : decode b_Co_hasInstruction 9 = .ok (.if_icmp .ge (7), 3) := by decide +kernel
theorem d_Co_hasInstruction_12 : decode b_Co_hasInstruction 12 = .ok (.iconst 1, 1) := by decide +kernel
theorem d_Co_hasInstruction_13 : decode b_Co_hasInstruction 13 = .ok (.goto (4), 3) := by decide +kernel
theorem d_Co_hasInstruction_16 : decode b_Co_hasInstruction 16 = .ok (.iconst 0, 1) := by decide +kernel
theorem d_Co_hasInstruction_17 : decode b_Co_hasInstruction 17 = .ok (.ireturn, 1) := by decide +kernel
def y_Co_hasRoutine : MethodName := ⟨"FrameVerifier$Code", "hasRoutine", "(I)Z"⟩
abbrev b_Co_hasRoutine : ByteArray := prog_3_method_5_code
def rm_Co_hasRoutine : Room := { frames := 0, cells := 0, slots := 0, locals := 0 }
abbrev w_Co_hasRoutine : List Cond := Cond.code y_Co_hasRoutine b_Co_hasRoutine 2 (some .boolean) :: wG
theorem m_Co_hasRoutine : Cond.code y_Co_hasRoutine b_Co_hasRoutine 2 (some .boolean) ∈ wG := wg_t 179 (by decide +kernel) (by decide +kernel)
theorem q_Co_hasRoutine : y_Co_hasRoutine.cls ≠ "java/lang/invoke/MethodHandle" ∧ y_Co_hasRoutine.cls ≠ "java/lang/invoke/VarHandle" ∧ (parseMethodDescriptor y_Co_hasRoutine.desc).map (fun d => d.parameters.length) = some 1 := by decide +kernel
theorem g_Co_hasRoutine : Cond.initialized y_Co_hasRoutine.cls ∈ wG := wg_t 2 (by decide +kernel) (by decide +kernel)
theorem s_Co_hasRoutine : Cond.instanceMethod y_Co_hasRoutine ∈ wG := wg_t 177 (by decide +kernel) (by decide +kernel)
theorem e_Co_hasRoutine : Cond.selects "FrameVerifier$Code" y_Co_hasRoutine y_Co_hasRoutine ∈ wG := wg_t 178 (by decide +kernel) (by decide +kernel)
theorem d_Co_hasRoutine_0 : decode b_Co_hasRoutine 0 = .ok (.iload_n 1, 1) := by decide +kernel
theorem d_Co_hasRoutine_1 : decode b_Co_hasRoutine 1 = .ok (.ifCond .lt (21), 3) := by decide +kernel
theorem d_Co_hasRoutine_4 : decode b_Co_hasRoutine 4 = .ok (.iload_n 1, 1) := by decide +kernel
theorem d_Co_hasRoutine_5 : decode b_Co_hasRoutine 5 = .ok (.iconst 4, 1) := by decide +kernel
theorem d_Co_hasRoutine_6 : decode b_Co_hasRoutine 6 = .ok (.if_icmp .ge (16), 3) := by decide +kernel
theorem d_Co_hasRoutine_9 : decode b_Co_hasRoutine 9 = .ok (.aload_n 0, 1) := by decide +kernel
theorem d_Co_hasRoutine_10 : decode b_Co_hasRoutine 10 = .ok (.getfield 22, 3) := by decide +kernel
theorem d_Co_hasRoutine_13 : decode b_Co_hasRoutine 13 = .ok (.iload_n 1, 1) := by decide +kernel
theorem d_Co_hasRoutine_14 : decode b_Co_hasRoutine 14 = .ok (.baload, 1) := by decide +kernel
theorem d_Co_hasRoutine_15 : decode b_Co_hasRoutine 15 = .ok (.ifCond .eq (7), 3) := by decide +kernel
theorem d_Co_hasRoutine_18 : decode b_Co_hasRoutine 18 = .ok (.iconst 1, 1) := by decide +kernel
theorem d_Co_hasRoutine_19 : decode b_Co_hasRoutine 19 = .ok (.goto (4), 3) := by decide +kernel
theorem d_Co_hasRoutine_22 : decode b_Co_hasRoutine 22 = .ok (.iconst 0, 1) := by decide +kernel
theorem d_Co_hasRoutine_23 : decode b_Co_hasRoutine 23 = .ok (.ireturn, 1) := by decide +kernel
def y_Co_startOf : MethodName := ⟨"FrameVerifier$Code", "startOf", "(I)I"⟩
abbrev b_Co_startOf : ByteArray := prog_3_method_6_code
def rm_Co_startOf : Room := { frames := 0, cells := 0, slots := 0, locals := 0 }
abbrev w_Co_startOf : List Cond := Cond.code y_Co_startOf b_Co_startOf 2 (some .int) :: wG
theorem m_Co_startOf : Cond.code y_Co_startOf b_Co_startOf 2 (some .int) ∈ wG := wg_t 191 (by decide +kernel) (by decide +kernel)
theorem q_Co_startOf : y_Co_startOf.cls ≠ "java/lang/invoke/MethodHandle" ∧ y_Co_startOf.cls ≠ "java/lang/invoke/VarHandle" ∧ (parseMethodDescriptor y_Co_startOf.desc).map (fun d => d.parameters.length) = some 1 := by decide +kernel
theorem g_Co_startOf : Cond.initialized y_Co_startOf.cls ∈ wG := wg_t 2 (by decide +kernel) (by decide +kernel)
theorem s_Co_startOf : Cond.instanceMethod y_Co_startOf ∈ wG := wg_t 189 (by decide +kernel) (by decide +kernel)
theorem e_Co_startOf : Cond.selects "FrameVerifier$Code" y_Co_startOf y_Co_startOf ∈ wG := wg_t 190 (by decide +kernel) (by decide +kernel)
theorem d_Co_startOf_0 : decode b_Co_startOf 0 = .ok (.aload_n 0, 1) := by decide +kernel
theorem d_Co_startOf_1 : decode b_Co_startOf 1 = .ok (.getfield 26, 3) := by decide +kernel
theorem d_Co_startOf_4 : decode b_Co_startOf 4 = .ok (.iload_n 1, 1) := by decide +kernel
theorem d_Co_startOf_5 : decode b_Co_startOf 5 = .ok (.iaload, 1) := by decide +kernel
theorem d_Co_startOf_6 : decode b_Co_startOf 6 = .ok (.ireturn, 1) := by decide +kernel
def y_Co_parametersOf : MethodName := ⟨"FrameVerifier$Code", "parametersOf", "(I)I"⟩
abbrev b_Co_parametersOf : ByteArray := prog_3_method_7_code
def rm_Co_parametersOf : Room := { frames := 0, cells := 0, slots := 0, locals := 0 }
abbrev w_Co_parametersOf : List Cond := Cond.code y_Co_parametersOf b_Co_parametersOf 2 (some .int) :: wG
theorem m_Co_parametersOf : Cond.code y_Co_parametersOf b_Co_parametersOf 2 (some .int) ∈ wG := wg_t 681 (by decide +kernel) (by decide +kernel)
theorem q_Co_parametersOf : y_Co_parametersOf.cls ≠ "java/lang/invoke/MethodHandle" ∧ y_Co_parametersOf.cls ≠ "java/lang/invoke/VarHandle" ∧ (parseMethodDescriptor y_Co_parametersOf.desc).map (fun d => d.parameters.length) = some 1 := by decide +kernel
theorem g_Co_parametersOf : Cond.initialized y_Co_parametersOf.cls ∈ wG := wg_t 2 (by decide +kernel) (by decide +kernel)
theorem s_Co_parametersOf : Cond.instanceMethod y_Co_parametersOf ∈ wG := wg_t 679 (by decide +kernel) (by decide +kernel)
theorem e_Co_parametersOf : Cond.selects "FrameVerifier$Code" y_Co_parametersOf y_Co_parametersOf ∈ wG := wg_t 680 (by decide +kernel) (by decide +kernel)
theorem d_Co_parametersOf_0 : decode b_Co_parametersOf 0 = .ok (.aload_n 0, 1) := by decide +kernel
theorem d_Co_parametersOf_1 : decode b_Co_parametersOf 1 = .ok (.getfield 29, 3) := by decide +kernel
theorem d_Co_parametersOf_4 : decode b_Co_parametersOf 4 = .ok (.iload_n 1, 1) := by decide +kernel
theorem d_Co_parametersOf_5 : decode b_Co_parametersOf 5 = .ok (.iaload, 1) := by decide +kernel
theorem d_Co_parametersOf_6 : decode b_Co_parametersOf 6 = .ok (.ireturn, 1) := by decide +kernel
def y_Co_opAt : MethodName := ⟨"FrameVerifier$Code", "opAt", "(I)LFrameVerifier$Op;"⟩
abbrev b_Co_opAt : ByteArray := prog_3_method_8_code
def rm_Co_opAt : Room := { frames := 0, cells := 0, slots := 0, locals := 0 }
abbrev w_Co_opAt : List Cond := Cond.code y_Co_opAt b_Co_opAt 2 (some (.object "FrameVerifier$Op")) :: wG
theorem m_Co_opAt : Cond.code y_Co_opAt b_Co_opAt 2 (some (.object "FrameVerifier$Op")) ∈ wG := wg_t 246 (by decide +kernel) (by decide +kernel)
theorem q_Co_opAt : y_Co_opAt.cls ≠ "java/lang/invoke/MethodHandle" ∧ y_Co_opAt.cls ≠ "java/lang/invoke/VarHandle" ∧ (parseMethodDescriptor y_Co_opAt.desc).map (fun d => d.parameters.length) = some 1 := by decide +kernel
theorem g_Co_opAt : Cond.initialized y_Co_opAt.cls ∈ wG := wg_t 2 (by decide +kernel) (by decide +kernel)
theorem s_Co_opAt : Cond.instanceMethod y_Co_opAt ∈ wG := wg_t 244 (by decide +kernel) (by decide +kernel)
theorem e_Co_opAt : Cond.selects "FrameVerifier$Code" y_Co_opAt y_Co_opAt ∈ wG := wg_t 245 (by decide +kernel) (by decide +kernel)
theorem d_Co_opAt_0 : decode b_Co_opAt 0 = .ok (.getstatic 35, 3) := by decide +kernel
theorem d_Co_opAt_3 : decode b_Co_opAt 3 = .ok (.aload_n 0, 1) := by decide +kernel
theorem d_Co_opAt_4 : decode b_Co_opAt 4 = .ok (.getfield 15, 3) := by decide +kernel
theorem d_Co_opAt_7 : decode b_Co_opAt 7 = .ok (.iload_n 1, 1) := by decide +kernel
theorem d_Co_opAt_8 : decode b_Co_opAt 8 = .ok (.iaload, 1) := by decide +kernel
theorem d_Co_opAt_9 : decode b_Co_opAt 9 = .ok (.aaload, 1) := by decide +kernel
theorem d_Co_opAt_10 : decode b_Co_opAt 10 = .ok (.areturn, 1) := by decide +kernel
def y_Co_numberAt : MethodName := ⟨"FrameVerifier$Code", "numberAt", "(I)I"⟩
abbrev b_Co_numberAt : ByteArray := prog_3_method_9_code
def rm_Co_numberAt : Room := { frames := 0, cells := 0, slots := 0, locals := 0 }
abbrev w_Co_numberAt : List Cond := Cond.code y_Co_numberAt b_Co_numberAt 2 (some .int) :: wG
theorem m_Co_numberAt : Cond.code y_Co_numberAt b_Co_numberAt 2 (some .int) ∈ wG := wg_t 364 (by decide +kernel) (by decide +kernel)
theorem q_Co_numberAt : y_Co_numberAt.cls ≠ "java/lang/invoke/MethodHandle" ∧ y_Co_numberAt.cls ≠ "java/lang/invoke/VarHandle" ∧ (parseMethodDescriptor y_Co_numberAt.desc).map (fun d => d.parameters.length) = some 1 := by decide +kernel
theorem g_Co_numberAt : Cond.initialized y_Co_numberAt.cls ∈ wG := wg_t 2 (by decide +kernel) (by decide +kernel)
theorem s_Co_numberAt : Cond.instanceMethod y_Co_numberAt ∈ wG := wg_t 362 (by decide +kernel) (by decide +kernel)
theorem e_Co_numberAt : Cond.selects "FrameVerifier$Code" y_Co_numberAt y_Co_numberAt ∈ wG := wg_t 363 (by decide +kernel) (by decide +kernel)
theorem d_Co_numberAt_0 : decode b_Co_numberAt 0 = .ok (.aload_n 0, 1) := by decide +kernel
theorem d_Co_numberAt_1 : decode b_Co_numberAt 1 = .ok (.getfield 19, 3) := by decide +kernel
theorem d_Co_numberAt_4 : decode b_Co_numberAt 4 = .ok (.iload_n 1, 1) := by decide +kernel
theorem d_Co_numberAt_5 : decode b_Co_numberAt 5 = .ok (.iaload, 1) := by decide +kernel
theorem d_Co_numberAt_6 : decode b_Co_numberAt 6 = .ok (.ireturn, 1) := by decide +kernel
def y_Co_kindOf : MethodName := ⟨"FrameVerifier$Code", "kindOf", "(II)I"⟩
abbrev b_Co_kindOf : ByteArray := prog_3_method_14_code
def rm_Co_kindOf : Room := { frames := 0, cells := 0, slots := 0, locals := 0 }
abbrev w_Co_kindOf : List Cond := Cond.code y_Co_kindOf b_Co_kindOf 3 (some .int) :: wG
theorem m_Co_kindOf : Cond.code y_Co_kindOf b_Co_kindOf 3 (some .int) ∈ wG := wg_t 203 (by decide +kernel) (by decide +kernel)
theorem q_Co_kindOf : y_Co_kindOf.cls ≠ "java/lang/invoke/MethodHandle" ∧ y_Co_kindOf.cls ≠ "java/lang/invoke/VarHandle" ∧ (parseMethodDescriptor y_Co_kindOf.desc).map (fun d => d.parameters.length) = some 2 := by decide +kernel
theorem g_Co_kindOf : Cond.initialized y_Co_kindOf.cls ∈ wG := wg_t 2 (by decide +kernel) (by decide +kernel)
theorem s_Co_kindOf : Cond.instanceMethod y_Co_kindOf ∈ wG := wg_t 202 (by decide +kernel) (by decide +kernel)
theorem e_Co_kindOf : Cond.selects "FrameVerifier$Code" y_Co_kindOf y_Co_kindOf ∈ wG := wg_s (q := (y_Co_kindOf, 7)) 2 (by decide +kernel) (by decide +kernel)
theorem d_Co_kindOf_0 : decode b_Co_kindOf 0 = .ok (.aload_n 0, 1) := by decide +kernel
theorem d_Co_kindOf_1 : decode b_Co_kindOf 1 = .ok (.getfield 32, 3) := by decide +kernel
theorem d_Co_kindOf_4 : decode b_Co_kindOf 4 = .ok (.iload_n 1, 1) := by decide +kernel
theorem d_Co_kindOf_5 : decode b_Co_kindOf 5 = .ok (.iaload, 1) := by decide +kernel
theorem d_Co_kindOf_6 : decode b_Co_kindOf 6 = .ok (.iload_n 2, 1) := by decide +kernel
theorem d_Co_kindOf_7 : decode b_Co_kindOf 7 = .ok (.ishr, 1) := by decide +kernel
theorem d_Co_kindOf_8 : decode b_Co_kindOf 8 = .ok (.iconst 1, 1) := by decide +kernel
theorem d_Co_kindOf_9 : decode b_Co_kindOf 9 = .ok (.iand, 1) := by decide +kernel
theorem d_Co_kindOf_10 : decode b_Co_kindOf 10 = .ok (.iconst 1, 1) := by decide +kernel
theorem d_Co_kindOf_11 : decode b_Co_kindOf 11 = .ok (.if_icmp .ne (7), 3) := by decide +kernel
theorem d_Co_kindOf_14 : decode b_Co_kindOf 14 = .ok (.iconst 2, 1) := by decide +kernel
theorem d_Co_kindOf_15 : decode b_Co_kindOf 15 = .ok (.goto (4), 3) := by decide +kernel
theorem d_Co_kindOf_18 : decode b_Co_kindOf 18 = .ok (.iconst 1, 1) := by decide +kernel
theorem d_Co_kindOf_19 : decode b_Co_kindOf 19 = .ok (.ireturn, 1) := by decide +kernel
def y_Co_firstState : MethodName := ⟨"FrameVerifier$Code", "firstState", "(I)I"⟩
abbrev b_Co_firstState : ByteArray := prog_3_method_10_code
def rm_Co_firstState : Room := { frames := 1, cells := 0, slots := 0, locals := 23 }
abbrev w_Co_firstState : List Cond := Cond.code y_Co_firstState b_Co_firstState 4 (some .int) :: wG
theorem m_Co_firstState : Cond.code y_Co_firstState b_Co_firstState 4 (some .int) ∈ wG := wg_t 199 (by decide +kernel) (by decide +kernel)
theorem q_Co_firstState : y_Co_firstState.cls ≠ "java/lang/invoke/MethodHandle" ∧ y_Co_firstState.cls ≠ "java/lang/invoke/VarHandle" ∧ (parseMethodDescriptor y_Co_firstState.desc).map (fun d => d.parameters.length) = some 1 := by decide +kernel
theorem g_Co_firstState : Cond.initialized y_Co_firstState.cls ∈ wG := wg_t 2 (by decide +kernel) (by decide +kernel)
theorem s_Co_firstState : Cond.instanceMethod y_Co_firstState ∈ wG := wg_t 197 (by decide +kernel) (by decide +kernel)
theorem e_Co_firstState : Cond.selects "FrameVerifier$Code" y_Co_firstState y_Co_firstState ∈ wG := wg_t 198 (by decide +kernel) (by decide +kernel)
theorem d_Co_firstState_0 : decode b_Co_firstState 0 = .ok (.iconst 0, 1) := by decide +kernel
theorem d_Co_firstState_1 : decode b_Co_firstState 1 = .ok (.istore_n 2, 1) := by decide +kernel
theorem d_Co_firstState_2 : decode b_Co_firstState 2 = .ok (.iconst 0, 1) := by decide +kernel
theorem d_Co_firstState_3 : decode b_Co_firstState 3 = .ok (.istore_n 3, 1) := by decide +kernel
theorem d_Co_firstState_4 : decode b_Co_firstState 4 = .ok (.iload_n 3, 1) := by decide +kernel
theorem d_Co_firstState_5 : decode b_Co_firstState 5 = .ok (.aload_n 0, 1) := by decide +kernel
theorem d_Co_firstState_6 : decode b_Co_firstState 6 = .ok (.getfield 29, 3) := by decide +kernel
theorem d_Co_firstState_9 : decode b_Co_firstState 9 = .ok (.iload_n 1, 1) := by decide +kernel
theorem d_Co_firstState_10 : decode b_Co_firstState 10 = .ok (.iaload, 1) := by decide +kernel
theorem d_Co_firstState_11 : decode b_Co_firstState 11 = .ok (.if_icmp .ge (21), 3) := by decide +kernel
theorem d_Co_firstState_14 : decode b_Co_firstState 14 = .ok (.iload_n 2, 1) := by decide +kernel
theorem d_Co_firstState_15 : decode b_Co_firstState 15 = .ok (.iload_n 3, 1) := by decide +kernel
theorem d_Co_firstState_16 : decode b_Co_firstState 16 = .ok (.aload_n 0, 1) := by decide +kernel
theorem d_Co_firstState_17 : decode b_Co_firstState 17 = .ok (.iload_n 1, 1) := by decide +kernel
theorem d_Co_firstState_18 : decode b_Co_firstState 18 = .ok (.iload_n 3, 1) := by decide +kernel
theorem d_Co_firstState_19 : decode b_Co_firstState 19 = .ok (.invokevirtual 41, 3) := by decide +kernel
theorem d_Co_firstState_22 : decode b_Co_firstState 22 = .ok (.invokestatic 45, 3) := by decide +kernel
theorem d_Co_firstState_25 : decode b_Co_firstState 25 = .ok (.istore_n 2, 1) := by decide +kernel
theorem d_Co_firstState_26 : decode b_Co_firstState 26 = .ok (.iinc 3 (1), 3) := by decide +kernel
theorem d_Co_firstState_29 : decode b_Co_firstState 29 = .ok (.goto (-25), 3) := by decide +kernel
theorem d_Co_firstState_32 : decode b_Co_firstState 32 = .ok (.iload_n 2, 1) := by decide +kernel
theorem d_Co_firstState_33 : decode b_Co_firstState 33 = .ok (.ireturn, 1) := by decide +kernel
def y_Co_hasOp : MethodName := ⟨"FrameVerifier$Code", "hasOp", "(I)Z"⟩
abbrev b_Co_hasOp : ByteArray := prog_3_method_13_code
def rm_Co_hasOp : Room := { frames := 1, cells := 0, slots := 0, locals := 21 }
abbrev w_Co_hasOp : List Cond := Cond.code y_Co_hasOp b_Co_hasOp 2 (some .boolean) :: wG
theorem m_Co_hasOp : Cond.code y_Co_hasOp b_Co_hasOp 2 (some .boolean) ∈ wG := wg_t 239 (by decide +kernel) (by decide +kernel)
theorem q_Co_hasOp : y_Co_hasOp.cls ≠ "java/lang/invoke/MethodHandle" ∧ y_Co_hasOp.cls ≠ "java/lang/invoke/VarHandle" ∧ (parseMethodDescriptor y_Co_hasOp.desc).map (fun d => d.parameters.length) = some 1 := by decide +kernel
theorem g_Co_hasOp : Cond.initialized y_Co_hasOp.cls ∈ wG := wg_t 2 (by decide +kernel) (by decide +kernel)
theorem s_Co_hasOp : Cond.instanceMethod y_Co_hasOp ∈ wG := wg_t 238 (by decide +kernel) (by decide +kernel)
theorem e_Co_hasOp : Cond.selects "FrameVerifier$Code" y_Co_hasOp y_Co_hasOp ∈ wG := wg_s (q := (y_Co_hasOp, 7)) 6 (by decide +kernel) (by decide +kernel)
theorem d_Co_hasOp_0 : decode b_Co_hasOp 0 = .ok (.aload_n 0, 1) := by decide +kernel
theorem d_Co_hasOp_1 : decode b_Co_hasOp 1 = .ok (.iload_n 1, 1) := by decide +kernel
theorem d_Co_hasOp_2 : decode b_Co_hasOp 2 = .ok (.invokevirtual 63, 3) := by decide +kernel
theorem d_Co_hasOp_5 : decode b_Co_hasOp 5 = .ok (.ifCond .eq (29), 3) := by decide +kernel
theorem d_Co_hasOp_8 : decode b_Co_hasOp 8 = .ok (.aload_n 0, 1) := by decide +kernel
theorem d_Co_hasOp_9 : decode b_Co_hasOp 9 = .ok (.getfield 15, 3) := by decide +kernel
theorem d_Co_hasOp_12 : decode b_Co_hasOp 12 = .ok (.iload_n 1, 1) := by decide +kernel
theorem d_Co_hasOp_13 : decode b_Co_hasOp 13 = .ok (.iaload, 1) := by decide +kernel
theorem d_Co_hasOp_14 : decode b_Co_hasOp 14 = .ok (.ifCond .lt (20), 3) := by decide +kernel
theorem d_Co_hasOp_17 : decode b_Co_hasOp 17 = .ok (.aload_n 0, 1) := by decide +kernel
theorem d_Co_hasOp_18 : decode b_Co_hasOp 18 = .ok (.getfield 15, 3) := by decide +kernel
theorem d_Co_hasOp_21 : decode b_Co_hasOp 21 = .ok (.iload_n 1, 1) := by decide +kernel
theorem d_Co_hasOp_22 : decode b_Co_hasOp 22 = .ok (.iaload, 1) := by decide +kernel
theorem d_Co_hasOp_23 : decode b_Co_hasOp 23 = .ok (.getstatic 35, 3) := by decide +kernel
theorem d_Co_hasOp_26 : decode b_Co_hasOp 26 = .ok (.arraylength, 1) := by decide +kernel
theorem d_Co_hasOp_27 : decode b_Co_hasOp 27 = .ok (.if_icmp .ge (7), 3) := by decide +kernel
theorem d_Co_hasOp_30 : decode b_Co_hasOp 30 = .ok (.iconst 1, 1) := by decide +kernel
theorem d_Co_hasOp_31 : decode b_Co_hasOp 31 = .ok (.goto (4), 3) := by decide +kernel
theorem d_Co_hasOp_34 : decode b_Co_hasOp 34 = .ok (.iconst 0, 1) := by decide +kernel
theorem d_Co_hasOp_35 : decode b_Co_hasOp 35 = .ok (.ireturn, 1) := by decide +kernel
def y_FV_isLocal : MethodName := ⟨"FrameVerifier", "isLocal", "(I)Z"⟩
abbrev b_FV_isLocal : ByteArray := prog_1_method_14_code
def rm_FV_isLocal : Room := { frames := 0, cells := 0, slots := 0, locals := 0 }
abbrev w_FV_isLocal : List Cond := Cond.code y_FV_isLocal b_FV_isLocal 1 (some .boolean) :: wG
theorem m_FV_isLocal : Cond.code y_FV_isLocal b_FV_isLocal 1 (some .boolean) ∈ wG := wg_t 261 (by decide +kernel) (by decide +kernel)
theorem q_FV_isLocal : y_FV_isLocal.cls ≠ "java/lang/invoke/MethodHandle" ∧ y_FV_isLocal.cls ≠ "java/lang/invoke/VarHandle" ∧ (parseMethodDescriptor y_FV_isLocal.desc).map (fun d => d.parameters.length) = some 1 := by decide +kernel
theorem g_FV_isLocal : Cond.initialized y_FV_isLocal.cls ∈ wG := wg_t 1 (by decide +kernel) (by decide +kernel)
theorem s_FV_isLocal : Cond.static y_FV_isLocal ∈ wG := wg_t 260 (by decide +kernel) (by decide +kernel)
theorem d_FV_isLocal_0 : decode b_FV_isLocal 0 = .ok (.iload_n 0, 1) := by decide +kernel
theorem d_FV_isLocal_1 : decode b_FV_isLocal 1 = .ok (.ifCond .lt (13), 3) := by decide +kernel
theorem d_FV_isLocal_4 : decode b_FV_isLocal 4 = .ok (.iload_n 0, 1) := by decide +kernel
theorem d_FV_isLocal_5 : decode b_FV_isLocal 5 = .ok (.bipush (6), 2) := by decide +kernel
theorem d_FV_isLocal_7 : decode b_FV_isLocal 7 = .ok (.if_icmp .ge (7), 3) := by decide +kernel
theorem d_FV_isLocal_10 : decode b_FV_isLocal 10 = .ok (.iconst 1, 1) := by decide +kernel
theorem d_FV_isLocal_11 : decode b_FV_isLocal 11 = .ok (.goto (4), 3) := by decide +kernel
theorem d_FV_isLocal_14 : decode b_FV_isLocal 14 = .ok (.iconst 0, 1) := by decide +kernel
theorem d_FV_isLocal_15 : decode b_FV_isLocal 15 = .ok (.ireturn, 1) := by decide +kernel
def y_Op_jumps : MethodName := ⟨"FrameVerifier$Op", "jumps", "()Z"⟩
abbrev b_Op_jumps : ByteArray := prog_7_method_4_code
def rm_Op_jumps : Room := { frames := 0, cells := 0, slots := 0, locals := 0 }
abbrev w_Op_jumps : List Cond := Cond.code y_Op_jumps b_Op_jumps 1 (some .boolean) :: wG
theorem m_Op_jumps : Cond.code y_Op_jumps b_Op_jumps 1 (some .boolean) ∈ wG := wg_t 267 (by decide +kernel) (by decide +kernel)
theorem q_Op_jumps : y_Op_jumps.cls ≠ "java/lang/invoke/MethodHandle" ∧ y_Op_jumps.cls ≠ "java/lang/invoke/VarHandle" ∧ (parseMethodDescriptor y_Op_jumps.desc).map (fun d => d.parameters.length) = some 0 := by decide +kernel
theorem g_Op_jumps : Cond.initialized y_Op_jumps.cls ∈ wG := wg_t 15 (by decide +kernel) (by decide +kernel)
theorem s_Op_jumps : Cond.instanceMethod y_Op_jumps ∈ wG := wg_t 265 (by decide +kernel) (by decide +kernel)
theorem e_Op_jumps : Cond.selects "FrameVerifier$Op" y_Op_jumps y_Op_jumps ∈ wG := wg_t 266 (by decide +kernel) (by decide +kernel)
theorem d_Op_jumps_0 : decode b_Op_jumps 0 = .ok (.aload_n 0, 1) := by decide +kernel
theorem d_Op_jumps_1 : decode b_Op_jumps 1 = .ok (.getstatic 27, 3) := by decide +kernel
theorem d_Op_jumps_4 : decode b_Op_jumps 4 = .ok (.if_acmp .eq (17), 3) := by decide +kernel
theorem d_Op_jumps_7 : decode b_Op_jumps 7 = .ok (.aload_n 0, 1) := by decide +kernel
theorem d_Op_jumps_8 : decode b_Op_jumps 8 = .ok (.getstatic 30, 3) := by decide +kernel
theorem d_Op_jumps_11 : decode b_Op_jumps 11 = .ok (.if_acmp .eq (10), 3) := by decide +kernel
theorem d_Op_jumps_14 : decode b_Op_jumps 14 = .ok (.aload_n 0, 1) := by decide +kernel
theorem d_Op_jumps_15 : decode b_Op_jumps 15 = .ok (.getstatic 36, 3) := by decide +kernel
theorem d_Op_jumps_18 : decode b_Op_jumps 18 = .ok (.if_acmp .ne (7), 3) := by decide +kernel
theorem d_Op_jumps_21 : decode b_Op_jumps 21 = .ok (.iconst 1, 1) := by decide +kernel
theorem d_Op_jumps_22 : decode b_Op_jumps 22 = .ok (.goto (4), 3) := by decide +kernel
theorem d_Op_jumps_25 : decode b_Op_jumps 25 = .ok (.iconst 0, 1) := by decide +kernel
theorem d_Op_jumps_26 : decode b_Op_jumps 26 = .ok (.ireturn, 1) := by decide +kernel
def y_Co_numberFits : MethodName := ⟨"FrameVerifier$Code", "numberFits", "(LFrameVerifier$Op;II)Z"⟩
abbrev b_Co_numberFits : ByteArray := prog_3_method_15_code
def rm_Co_numberFits : Room := { frames := 1, cells := 0, slots := 0, locals := 21 }
abbrev w_Co_numberFits : List Cond := Cond.code y_Co_numberFits b_Co_numberFits 4 (some .boolean) :: wG
theorem m_Co_numberFits : Cond.code y_Co_numberFits b_Co_numberFits 4 (some .boolean) ∈ wG := wg_t 250 (by decide +kernel) (by decide +kernel)
theorem q_Co_numberFits : y_Co_numberFits.cls ≠ "java/lang/invoke/MethodHandle" ∧ y_Co_numberFits.cls ≠ "java/lang/invoke/VarHandle" ∧ (parseMethodDescriptor y_Co_numberFits.desc).map (fun d => d.parameters.length) = some 3 := by decide +kernel
theorem g_Co_numberFits : Cond.initialized y_Co_numberFits.cls ∈ wG := wg_t 2 (by decide +kernel) (by decide +kernel)
theorem s_Co_numberFits : Cond.instanceMethod y_Co_numberFits ∈ wG := wg_t 249 (by decide +kernel) (by decide +kernel)
theorem e_Co_numberFits : Cond.selects "FrameVerifier$Code" y_Co_numberFits y_Co_numberFits ∈ wG := wg_s (q := (y_Co_numberFits, 7)) 7 (by decide +kernel) (by decide +kernel)
theorem d_Co_numberFits_0 : decode b_Co_numberFits 0 = .ok (.getstatic 88, 3) := by decide +kernel
theorem d_Co_numberFits_3 : decode b_Co_numberFits 3 = .ok (.aload_n 1, 1) := by decide +kernel
theorem d_Co_numberFits_4 : decode b_Co_numberFits 4 = .ok (.invokevirtual 93, 3) := by decide +kernel
theorem d_Co_numberFits_7 : decode b_Co_numberFits 7 = .ok (.iaload, 1) := by decide +kernel
theorem d_Co_numberFits_8 : decode b_Co_numberFits 8 = .ok (.tableswitch (78) (1) (5) #[(36), (67), (78), (78), (72)], 36) := by decide +kernel
theorem d_Co_numberFits_44 : decode b_Co_numberFits 44 = .ok (.iload_n 2, 1) := by decide +kernel
theorem d_Co_numberFits_45 : decode b_Co_numberFits 45 = .ok (.invokestatic 109, 3) := by decide +kernel
theorem d_Co_numberFits_48 : decode b_Co_numberFits 48 = .ok (.ifCond .eq (25), 3) := by decide +kernel
theorem d_Co_numberFits_51 : decode b_Co_numberFits 51 = .ok (.iload_n 3, 1) := by decide +kernel
theorem d_Co_numberFits_52 : decode b_Co_numberFits 52 = .ok (.iload_n 2, 1) := by decide +kernel
theorem d_Co_numberFits_53 : decode b_Co_numberFits 53 = .ok (.invokestatic 97, 3) := by decide +kernel
theorem d_Co_numberFits_56 : decode b_Co_numberFits 56 = .ok (.iconst 1, 1) := by decide +kernel
theorem d_Co_numberFits_57 : decode b_Co_numberFits 57 = .ok (.if_icmp .eq (12), 3) := by decide +kernel
theorem d_Co_numberFits_60 : decode b_Co_numberFits 60 = .ok (.iload_n 3, 1) := by decide +kernel
theorem d_Co_numberFits_61 : decode b_Co_numberFits 61 = .ok (.iload_n 2, 1) := by decide +kernel
theorem d_Co_numberFits_62 : decode b_Co_numberFits 62 = .ok (.invokestatic 97, 3) := by decide +kernel
theorem d_Co_numberFits_65 : decode b_Co_numberFits 65 = .ok (.iconst 2, 1) := by decide +kernel
theorem d_Co_numberFits_66 : decode b_Co_numberFits 66 = .ok (.if_icmp .ne (7), 3) := by decide +kernel
theorem d_Co_numberFits_69 : decode b_Co_numberFits 69 = .ok (.iconst 1, 1) := by decide +kernel
theorem d_Co_numberFits_70 : decode b_Co_numberFits 70 = .ok (.goto (4), 3) := by decide +kernel
theorem d_Co_numberFits_73 : decode b_Co_numberFits 73 = .ok (.iconst 0, 1) := by decide +kernel
theorem d_Co_numberFits_74 : decode b_Co_numberFits 74 = .ok (.ireturn, 1) := by decide +kernel
theorem d_Co_numberFits_75 : decode b_Co_numberFits 75 = .ok (.iload_n 2, 1) := by decide +kernel
theorem d_Co_numberFits_76 : decode b_Co_numberFits 76 = .ok (.invokestatic 109, 3) := by decide +kernel
theorem d_Co_numberFits_79 : decode b_Co_numberFits 79 = .ok (.ireturn, 1) := by decide +kernel
theorem d_Co_numberFits_80 : decode b_Co_numberFits 80 = .ok (.aload_n 0, 1) := by decide +kernel
theorem d_Co_numberFits_81 : decode b_Co_numberFits 81 = .ok (.iload_n 2, 1) := by decide +kernel
theorem d_Co_numberFits_82 : decode b_Co_numberFits 82 = .ok (.invokevirtual 112, 3) := by decide +kernel
theorem d_Co_numberFits_85 : decode b_Co_numberFits 85 = .ok (.ireturn, 1) := by decide +kernel
theorem d_Co_numberFits_86 : decode b_Co_numberFits 86 = .ok (.aload_n 1, 1) := by decide +kernel
theorem d_Co_numberFits_87 : decode b_Co_numberFits 87 = .ok (.invokevirtual 115, 3) := by decide +kernel
theorem d_Co_numberFits_90 : decode b_Co_numberFits 90 = .ok (.ifCond .eq (11), 3) := by decide +kernel
theorem d_Co_numberFits_93 : decode b_Co_numberFits 93 = .ok (.aload_n 0, 1) := by decide +kernel
theorem d_Co_numberFits_94 : decode b_Co_numberFits 94 = .ok (.iload_n 2, 1) := by decide +kernel
theorem d_Co_numberFits_95 : decode b_Co_numberFits 95 = .ok (.invokevirtual 63, 3) := by decide +kernel
theorem d_Co_numberFits_98 : decode b_Co_numberFits 98 = .ok (.ifCond .eq (7), 3) := by decide +kernel
theorem d_Co_numberFits_101 : decode b_Co_numberFits 101 = .ok (.iconst 1, 1) := by decide +kernel
theorem d_Co_numberFits_102 : decode b_Co_numberFits 102 = .ok (.goto (4), 3) := by decide +kernel
theorem d_Co_numberFits_105 : decode b_Co_numberFits 105 = .ok (.iconst 0, 1) := by decide +kernel
theorem d_Co_numberFits_106 : decode b_Co_numberFits 106 = .ok (.ireturn, 1) := by decide +kernel
def y_Co_takenCount : MethodName := ⟨"FrameVerifier$Code", "takenCount", "(LFrameVerifier$Op;I)I"⟩
abbrev b_Co_takenCount : ByteArray := prog_3_method_16_code
def rm_Co_takenCount : Room := { frames := 2, cells := 0, slots := 0, locals := 40 }
abbrev w_Co_takenCount : List Cond := Cond.code y_Co_takenCount b_Co_takenCount 3 (some .int) :: wG
theorem m_Co_takenCount : Cond.code y_Co_takenCount b_Co_takenCount 3 (some .int) ∈ wG := wg_t 281 (by decide +kernel) (by decide +kernel)
theorem q_Co_takenCount : y_Co_takenCount.cls ≠ "java/lang/invoke/MethodHandle" ∧ y_Co_takenCount.cls ≠ "java/lang/invoke/VarHandle" ∧ (parseMethodDescriptor y_Co_takenCount.desc).map (fun d => d.parameters.length) = some 2 := by decide +kernel
theorem g_Co_takenCount : Cond.initialized y_Co_takenCount.cls ∈ wG := wg_t 2 (by decide +kernel) (by decide +kernel)
theorem s_Co_takenCount : Cond.instanceMethod y_Co_takenCount ∈ wG := wg_t 280 (by decide +kernel) (by decide +kernel)
theorem e_Co_takenCount : Cond.selects "FrameVerifier$Code" y_Co_takenCount y_Co_takenCount ∈ wG := wg_s (q := (y_Co_takenCount, 7)) 9 (by decide +kernel) (by decide +kernel)
theorem d_Co_takenCount_0 : decode b_Co_takenCount 0 = .ok (.aload_n 1, 1) := by decide +kernel
theorem d_Co_takenCount_1 : decode b_Co_takenCount 1 = .ok (.getstatic 119, 3) := by decide +kernel
theorem d_Co_takenCount_4 : decode b_Co_takenCount 4 = .ok (.if_acmp .ne (12), 3) := by decide +kernel
theorem d_Co_takenCount_7 : decode b_Co_takenCount 7 = .ok (.aload_n 0, 1) := by decide +kernel
theorem d_Co_takenCount_8 : decode b_Co_takenCount 8 = .ok (.getfield 29, 3) := by decide +kernel
theorem d_Co_takenCount_11 : decode b_Co_takenCount 11 = .ok (.iload_n 2, 1) := by decide +kernel
theorem d_Co_takenCount_12 : decode b_Co_takenCount 12 = .ok (.iaload, 1) := by decide +kernel
theorem d_Co_takenCount_13 : decode b_Co_takenCount 13 = .ok (.goto (10), 3) := by decide +kernel
theorem d_Co_takenCount_16 : decode b_Co_takenCount 16 = .ok (.aload_n 1, 1) := by decide +kernel
theorem d_Co_takenCount_17 : decode b_Co_takenCount 17 = .ok (.getfield 123, 3) := by decide +kernel
theorem d_Co_takenCount_20 : decode b_Co_takenCount 20 = .ok (.invokevirtual 127, 3) := by decide +kernel
theorem d_Co_takenCount_23 : decode b_Co_takenCount 23 = .ok (.ireturn, 1) := by decide +kernel
def y_Op_wanted : MethodName := ⟨"FrameVerifier$Op", "wanted", "(I)I"⟩
abbrev b_Op_wanted : ByteArray := prog_7_method_5_code
def rm_Op_wanted : Room := { frames := 4, cells := 0, slots := 0, locals := 85 }
abbrev w_Op_wanted : List Cond := Cond.code y_Op_wanted b_Op_wanted 3 (some .int) :: wG
theorem m_Op_wanted : Cond.code y_Op_wanted b_Op_wanted 3 (some .int) ∈ wG := wg_t 302 (by decide +kernel) (by decide +kernel)
theorem q_Op_wanted : y_Op_wanted.cls ≠ "java/lang/invoke/MethodHandle" ∧ y_Op_wanted.cls ≠ "java/lang/invoke/VarHandle" ∧ (parseMethodDescriptor y_Op_wanted.desc).map (fun d => d.parameters.length) = some 1 := by decide +kernel
theorem g_Op_wanted : Cond.initialized y_Op_wanted.cls ∈ wG := wg_t 15 (by decide +kernel) (by decide +kernel)
theorem s_Op_wanted : Cond.instanceMethod y_Op_wanted ∈ wG := wg_t 300 (by decide +kernel) (by decide +kernel)
theorem e_Op_wanted : Cond.selects "FrameVerifier$Op" y_Op_wanted y_Op_wanted ∈ wG := wg_t 301 (by decide +kernel) (by decide +kernel)
theorem d_Op_wanted_0 : decode b_Op_wanted 0 = .ok (.aload_n 0, 1) := by decide +kernel
theorem d_Op_wanted_1 : decode b_Op_wanted 1 = .ok (.getfield 85, 3) := by decide +kernel
theorem d_Op_wanted_4 : decode b_Op_wanted 4 = .ok (.aload_n 0, 1) := by decide +kernel
theorem d_Op_wanted_5 : decode b_Op_wanted 5 = .ok (.getfield 85, 3) := by decide +kernel
theorem d_Op_wanted_8 : decode b_Op_wanted 8 = .ok (.invokevirtual 97, 3) := by decide +kernel
theorem d_Op_wanted_11 : decode b_Op_wanted 11 = .ok (.iconst 1, 1) := by decide +kernel
theorem d_Op_wanted_12 : decode b_Op_wanted 12 = .ok (.isub, 1) := by decide +kernel
theorem d_Op_wanted_13 : decode b_Op_wanted 13 = .ok (.iload_n 1, 1) := by decide +kernel
theorem d_Op_wanted_14 : decode b_Op_wanted 14 = .ok (.isub, 1) := by decide +kernel
theorem d_Op_wanted_15 : decode b_Op_wanted 15 = .ok (.invokevirtual 103, 3) := by decide +kernel
theorem d_Op_wanted_18 : decode b_Op_wanted 18 = .ok (.istore_n 2, 1) := by decide +kernel
theorem d_Op_wanted_19 : decode b_Op_wanted 19 = .ok (.iload_n 2, 1) := by decide +kernel
theorem d_Op_wanted_20 : decode b_Op_wanted 20 = .ok (.bipush (105), 2) := by decide +kernel
theorem d_Op_wanted_22 : decode b_Op_wanted 22 = .ok (.if_icmp .ne (5), 3) := by decide +kernel
theorem d_Op_wanted_25 : decode b_Op_wanted 25 = .ok (.iconst 1, 1) := by decide +kernel
theorem d_Op_wanted_26 : decode b_Op_wanted 26 = .ok (.ireturn, 1) := by decide +kernel
theorem d_Op_wanted_27 : decode b_Op_wanted 27 = .ok (.iload_n 2, 1) := by decide +kernel
theorem d_Op_wanted_28 : decode b_Op_wanted 28 = .ok (.bipush (114), 2) := by decide +kernel
theorem d_Op_wanted_30 : decode b_Op_wanted 30 = .ok (.if_icmp .ne (7), 3) := by decide +kernel
theorem d_Op_wanted_33 : decode b_Op_wanted 33 = .ok (.iconst 2, 1) := by decide +kernel
theorem d_Op_wanted_34 : decode b_Op_wanted 34 = .ok (.goto (4), 3) := by decide +kernel
theorem d_Op_wanted_37 : decode b_Op_wanted 37 = .ok (.iconst 3, 1) := by decide +kernel
theorem d_Op_wanted_38 : decode b_Op_wanted 38 = .ok (.ireturn, 1) := by decide +kernel
def y_Co_wantedBelow : MethodName := ⟨"FrameVerifier$Code", "wantedBelow", "(ILFrameVerifier$Op;II)I"⟩
abbrev b_Co_wantedBelow : ByteArray := prog_3_method_18_code
def rm_Co_wantedBelow : Room := { frames := 5, cells := 0, slots := 0, locals := 107 }
abbrev w_Co_wantedBelow : List Cond := Cond.code y_Co_wantedBelow b_Co_wantedBelow 5 (some .int) :: wG
theorem m_Co_wantedBelow : Cond.code y_Co_wantedBelow b_Co_wantedBelow 5 (some .int) ∈ wG := wg_t 298 (by decide +kernel) (by decide +kernel)
theorem q_Co_wantedBelow : y_Co_wantedBelow.cls ≠ "java/lang/invoke/MethodHandle" ∧ y_Co_wantedBelow.cls ≠ "java/lang/invoke/VarHandle" ∧ (parseMethodDescriptor y_Co_wantedBelow.desc).map (fun d => d.parameters.length) = some 4 := by decide +kernel
theorem g_Co_wantedBelow : Cond.initialized y_Co_wantedBelow.cls ∈ wG := wg_t 2 (by decide +kernel) (by decide +kernel)
theorem s_Co_wantedBelow : Cond.instanceMethod y_Co_wantedBelow ∈ wG := wg_t 297 (by decide +kernel) (by decide +kernel)
theorem e_Co_wantedBelow : Cond.selects "FrameVerifier$Code" y_Co_wantedBelow y_Co_wantedBelow ∈ wG := wg_s (q := (y_Co_wantedBelow, 7)) 10 (by decide +kernel) (by decide +kernel)
theorem d_Co_wantedBelow_0 : decode b_Co_wantedBelow 0 = .ok (.getstatic 88, 3) := by decide +kernel
theorem d_Co_wantedBelow_3 : decode b_Co_wantedBelow 3 = .ok (.aload_n 2, 1) := by decide +kernel
theorem d_Co_wantedBelow_4 : decode b_Co_wantedBelow 4 = .ok (.invokevirtual 93, 3) := by decide +kernel
theorem d_Co_wantedBelow_7 : decode b_Co_wantedBelow 7 = .ok (.iaload, 1) := by decide +kernel
theorem d_Co_wantedBelow_8 : decode b_Co_wantedBelow 8 = .ok (.lookupswitch (52) #[((5), (28)), ((6), (45))], 28) := by decide +kernel
theorem d_Co_wantedBelow_36 : decode b_Co_wantedBelow 36 = .ok (.aload_n 0, 1) := by decide +kernel
theorem d_Co_wantedBelow_37 : decode b_Co_wantedBelow 37 = .ok (.iload_n 3, 1) := by decide +kernel
theorem d_Co_wantedBelow_38 : decode b_Co_wantedBelow 38 = .ok (.aload_n 0, 1) := by decide +kernel
theorem d_Co_wantedBelow_39 : decode b_Co_wantedBelow 39 = .ok (.getfield 29, 3) := by decide +kernel
theorem d_Co_wantedBelow_42 : decode b_Co_wantedBelow 42 = .ok (.iload_n 3, 1) := by decide +kernel
theorem d_Co_wantedBelow_43 : decode b_Co_wantedBelow 43 = .ok (.iaload, 1) := by decide +kernel
theorem d_Co_wantedBelow_44 : decode b_Co_wantedBelow 44 = .ok (.iconst 1, 1) := by decide +kernel
theorem d_Co_wantedBelow_45 : decode b_Co_wantedBelow 45 = .ok (.isub, 1) := by decide +kernel
theorem d_Co_wantedBelow_46 : decode b_Co_wantedBelow 46 = .ok (.iload 4, 2) := by decide +kernel
theorem d_Co_wantedBelow_48 : decode b_Co_wantedBelow 48 = .ok (.isub, 1) := by decide +kernel
theorem d_Co_wantedBelow_49 : decode b_Co_wantedBelow 49 = .ok (.invokevirtual 41, 3) := by decide +kernel
theorem d_Co_wantedBelow_52 : decode b_Co_wantedBelow 52 = .ok (.ireturn, 1) := by decide +kernel
theorem d_Co_wantedBelow_53 : decode b_Co_wantedBelow 53 = .ok (.aload_n 0, 1) := by decide +kernel
theorem d_Co_wantedBelow_54 : decode b_Co_wantedBelow 54 = .ok (.iload_n 1, 1) := by decide +kernel
theorem d_Co_wantedBelow_55 : decode b_Co_wantedBelow 55 = .ok (.iconst 3, 1) := by decide +kernel
theorem d_Co_wantedBelow_56 : decode b_Co_wantedBelow 56 = .ok (.invokevirtual 41, 3) := by decide +kernel
theorem d_Co_wantedBelow_59 : decode b_Co_wantedBelow 59 = .ok (.ireturn, 1) := by decide +kernel
theorem d_Co_wantedBelow_60 : decode b_Co_wantedBelow 60 = .ok (.aload_n 2, 1) := by decide +kernel
theorem d_Co_wantedBelow_61 : decode b_Co_wantedBelow 61 = .ok (.iload 4, 2) := by decide +kernel
theorem d_Co_wantedBelow_63 : decode b_Co_wantedBelow 63 = .ok (.invokevirtual 136, 3) := by decide +kernel
theorem d_Co_wantedBelow_66 : decode b_Co_wantedBelow 66 = .ok (.ireturn, 1) := by decide +kernel
def y_Co_takenFits : MethodName := ⟨"FrameVerifier$Code", "takenFits", "(ILFrameVerifier$Op;II)Z"⟩
abbrev b_Co_takenFits : ByteArray := prog_3_method_17_code
def rm_Co_takenFits : Room := { frames := 6, cells := 0, slots := 0, locals := 131 }
abbrev w_Co_takenFits : List Cond := Cond.code y_Co_takenFits b_Co_takenFits 8 (some .boolean) :: wG
theorem m_Co_takenFits : Cond.code y_Co_takenFits b_Co_takenFits 8 (some .boolean) ∈ wG := wg_t 277 (by decide +kernel) (by decide +kernel)
theorem q_Co_takenFits : y_Co_takenFits.cls ≠ "java/lang/invoke/MethodHandle" ∧ y_Co_takenFits.cls ≠ "java/lang/invoke/VarHandle" ∧ (parseMethodDescriptor y_Co_takenFits.desc).map (fun d => d.parameters.length) = some 4 := by decide +kernel
theorem g_Co_takenFits : Cond.initialized y_Co_takenFits.cls ∈ wG := wg_t 2 (by decide +kernel) (by decide +kernel)
theorem s_Co_takenFits : Cond.instanceMethod y_Co_takenFits ∈ wG := wg_t 276 (by decide +kernel) (by decide +kernel)
theorem e_Co_takenFits : Cond.selects "FrameVerifier$Code" y_Co_takenFits y_Co_takenFits ∈ wG := wg_s (q := (y_Co_takenFits, 7)) 8 (by decide +kernel) (by decide +kernel)
theorem d_Co_takenFits_0 : decode b_Co_takenFits 0 = .ok (.aload_n 0, 1) := by decide +kernel
theorem d_Co_takenFits_1 : decode b_Co_takenFits 1 = .ok (.aload_n 2, 1) := by decide +kernel
theorem d_Co_takenFits_2 : decode b_Co_takenFits 2 = .ok (.iload_n 3, 1) := by decide +kernel
theorem d_Co_takenFits_3 : decode b_Co_takenFits 3 = .ok (.invokevirtual 81, 3) := by decide +kernel
theorem d_Co_takenFits_6 : decode b_Co_takenFits 6 = .ok (.istore 5, 2) := by decide +kernel
theorem d_Co_takenFits_8 : decode b_Co_takenFits 8 = .ok (.iload 4, 2) := by decide +kernel
theorem d_Co_takenFits_10 : decode b_Co_takenFits 10 = .ok (.invokestatic 77, 3) := by decide +kernel
theorem d_Co_takenFits_13 : decode b_Co_takenFits 13 = .ok (.iload 5, 2) := by decide +kernel
theorem d_Co_takenFits_15 : decode b_Co_takenFits 15 = .ok (.if_icmp .ge (5), 3) := by decide +kernel
theorem d_Co_takenFits_18 : decode b_Co_takenFits 18 = .ok (.iconst 0, 1) := by decide +kernel
theorem d_Co_takenFits_19 : decode b_Co_takenFits 19 = .ok (.ireturn, 1) := by decide +kernel
theorem d_Co_takenFits_20 : decode b_Co_takenFits 20 = .ok (.iconst 0, 1) := by decide +kernel
theorem d_Co_takenFits_21 : decode b_Co_takenFits 21 = .ok (.istore 6, 2) := by decide +kernel
theorem d_Co_takenFits_23 : decode b_Co_takenFits 23 = .ok (.iload 6, 2) := by decide +kernel
theorem d_Co_takenFits_25 : decode b_Co_takenFits 25 = .ok (.iload 5, 2) := by decide +kernel
theorem d_Co_takenFits_27 : decode b_Co_takenFits 27 = .ok (.if_icmp .ge (40), 3) := by decide +kernel
theorem d_Co_takenFits_30 : decode b_Co_takenFits 30 = .ok (.aload_n 0, 1) := by decide +kernel
theorem d_Co_takenFits_31 : decode b_Co_takenFits 31 = .ok (.iload_n 1, 1) := by decide +kernel
theorem d_Co_takenFits_32 : decode b_Co_takenFits 32 = .ok (.aload_n 2, 1) := by decide +kernel
theorem d_Co_takenFits_33 : decode b_Co_takenFits 33 = .ok (.iload_n 3, 1) := by decide +kernel
theorem d_Co_takenFits_34 : decode b_Co_takenFits 34 = .ok (.iload 6, 2) := by decide +kernel
theorem d_Co_takenFits_36 : decode b_Co_takenFits 36 = .ok (.invokevirtual 132, 3) := by decide +kernel
theorem d_Co_takenFits_39 : decode b_Co_takenFits 39 = .ok (.istore 7, 2) := by decide +kernel
theorem d_Co_takenFits_41 : decode b_Co_takenFits 41 = .ok (.iload 7, 2) := by decide +kernel
theorem d_Co_takenFits_43 : decode b_Co_takenFits 43 = .ok (.iconst 3, 1) := by decide +kernel
theorem d_Co_takenFits_44 : decode b_Co_takenFits 44 = .ok (.if_icmp .eq (17), 3) := by decide +kernel
theorem d_Co_takenFits_47 : decode b_Co_takenFits 47 = .ok (.iload 7, 2) := by decide +kernel
theorem d_Co_takenFits_49 : decode b_Co_takenFits 49 = .ok (.iload 4, 2) := by decide +kernel
theorem d_Co_takenFits_51 : decode b_Co_takenFits 51 = .ok (.iload 6, 2) := by decide +kernel
theorem d_Co_takenFits_53 : decode b_Co_takenFits 53 = .ok (.invokestatic 103, 3) := by decide +kernel
theorem d_Co_takenFits_56 : decode b_Co_takenFits 56 = .ok (.if_icmp .eq (5), 3) := by decide +kernel
theorem d_Co_takenFits_59 : decode b_Co_takenFits 59 = .ok (.iconst 0, 1) := by decide +kernel
theorem d_Co_takenFits_60 : decode b_Co_takenFits 60 = .ok (.ireturn, 1) := by decide +kernel
theorem d_Co_takenFits_61 : decode b_Co_takenFits 61 = .ok (.iinc 6 (1), 3) := by decide +kernel
theorem d_Co_takenFits_64 : decode b_Co_takenFits 64 = .ok (.goto (-41), 3) := by decide +kernel
theorem d_Co_takenFits_67 : decode b_Co_takenFits 67 = .ok (.iconst 1, 1) := by decide +kernel
theorem d_Co_takenFits_68 : decode b_Co_takenFits 68 = .ok (.ireturn, 1) := by decide +kernel
def y_Co_after : MethodName := ⟨"FrameVerifier$Code", "after", "(II)I"⟩
abbrev b_Co_after : ByteArray := prog_3_method_12_code
def rm_Co_after : Room := { frames := 3, cells := 0, slots := 0, locals := 62 }
abbrev w_Co_after : List Cond := Cond.code y_Co_after b_Co_after 6 (some .int) :: wG
theorem m_Co_after : Cond.code y_Co_after b_Co_after 6 (some .int) ∈ wG := wg_t 351 (by decide +kernel) (by decide +kernel)
theorem q_Co_after : y_Co_after.cls ≠ "java/lang/invoke/MethodHandle" ∧ y_Co_after.cls ≠ "java/lang/invoke/VarHandle" ∧ (parseMethodDescriptor y_Co_after.desc).map (fun d => d.parameters.length) = some 2 := by decide +kernel
theorem g_Co_after : Cond.initialized y_Co_after.cls ∈ wG := wg_t 2 (by decide +kernel) (by decide +kernel)
theorem s_Co_after : Cond.instanceMethod y_Co_after ∈ wG := wg_t 349 (by decide +kernel) (by decide +kernel)
theorem e_Co_after : Cond.selects "FrameVerifier$Code" y_Co_after y_Co_after ∈ wG := wg_t 350 (by decide +kernel) (by decide +kernel)
theorem d_Co_after_0 : decode b_Co_after 0 = .ok (.aload_n 0, 1) := by decide +kernel
theorem d_Co_after_1 : decode b_Co_after 1 = .ok (.iload_n 1, 1) := by decide +kernel
theorem d_Co_after_2 : decode b_Co_after 2 = .ok (.invokevirtual 53, 3) := by decide +kernel
theorem d_Co_after_5 : decode b_Co_after 5 = .ok (.astore_n 3, 1) := by decide +kernel
theorem d_Co_after_6 : decode b_Co_after 6 = .ok (.aload_n 0, 1) := by decide +kernel
theorem d_Co_after_7 : decode b_Co_after 7 = .ok (.getfield 19, 3) := by decide +kernel
theorem d_Co_after_10 : decode b_Co_after 10 = .ok (.iload_n 1, 1) := by decide +kernel
theorem d_Co_after_11 : decode b_Co_after 11 = .ok (.iaload, 1) := by decide +kernel
theorem d_Co_after_12 : decode b_Co_after 12 = .ok (.istore 4, 2) := by decide +kernel
theorem d_Co_after_14 : decode b_Co_after 14 = .ok (.iload_n 2, 1) := by decide +kernel
theorem d_Co_after_15 : decode b_Co_after 15 = .ok (.aload_n 0, 1) := by decide +kernel
theorem d_Co_after_16 : decode b_Co_after 16 = .ok (.aload_n 3, 1) := by decide +kernel
theorem d_Co_after_17 : decode b_Co_after 17 = .ok (.iload 4, 2) := by decide +kernel
theorem d_Co_after_19 : decode b_Co_after 19 = .ok (.invokevirtual 81, 3) := by decide +kernel
theorem d_Co_after_22 : decode b_Co_after 22 = .ok (.invokestatic 85, 3) := by decide +kernel
theorem d_Co_after_25 : decode b_Co_after 25 = .ok (.istore 5, 2) := by decide +kernel
theorem d_Co_after_27 : decode b_Co_after 27 = .ok (.getstatic 88, 3) := by decide +kernel
theorem d_Co_after_30 : decode b_Co_after 30 = .ok (.aload_n 3, 1) := by decide +kernel
theorem d_Co_after_31 : decode b_Co_after 31 = .ok (.invokevirtual 93, 3) := by decide +kernel
theorem d_Co_after_34 : decode b_Co_after 34 = .ok (.iaload, 1) := by decide +kernel
theorem d_Co_after_35 : decode b_Co_after 35 = .ok (.tableswitch (104) (1) (5) #[(33), (45), (58), (68), (91)], 33) := by decide +kernel
theorem d_Co_after_68 : decode b_Co_after 68 = .ok (.iload 5, 2) := by decide +kernel
theorem d_Co_after_70 : decode b_Co_after 70 = .ok (.iload_n 2, 1) := by decide +kernel
theorem d_Co_after_71 : decode b_Co_after 71 = .ok (.iload 4, 2) := by decide +kernel
theorem d_Co_after_73 : decode b_Co_after 73 = .ok (.invokestatic 97, 3) := by decide +kernel
theorem d_Co_after_76 : decode b_Co_after 76 = .ok (.invokestatic 100, 3) := by decide +kernel
theorem d_Co_after_79 : decode b_Co_after 79 = .ok (.ireturn, 1) := by decide +kernel
theorem d_Co_after_80 : decode b_Co_after 80 = .ok (.iload 5, 2) := by decide +kernel
theorem d_Co_after_82 : decode b_Co_after 82 = .ok (.iload 4, 2) := by decide +kernel
theorem d_Co_after_84 : decode b_Co_after 84 = .ok (.iload_n 2, 1) := by decide +kernel
theorem d_Co_after_85 : decode b_Co_after 85 = .ok (.iconst 0, 1) := by decide +kernel
theorem d_Co_after_86 : decode b_Co_after 86 = .ok (.invokestatic 103, 3) := by decide +kernel
theorem d_Co_after_89 : decode b_Co_after 89 = .ok (.invokestatic 45, 3) := by decide +kernel
theorem d_Co_after_92 : decode b_Co_after 92 = .ok (.ireturn, 1) := by decide +kernel
theorem d_Co_after_93 : decode b_Co_after 93 = .ok (.iload_n 2, 1) := by decide +kernel
theorem d_Co_after_94 : decode b_Co_after 94 = .ok (.iload_n 2, 1) := by decide +kernel
theorem d_Co_after_95 : decode b_Co_after 95 = .ok (.iconst 0, 1) := by decide +kernel
theorem d_Co_after_96 : decode b_Co_after 96 = .ok (.invokestatic 103, 3) := by decide +kernel
theorem d_Co_after_99 : decode b_Co_after 99 = .ok (.invokestatic 100, 3) := by decide +kernel
theorem d_Co_after_102 : decode b_Co_after 102 = .ok (.ireturn, 1) := by decide +kernel
theorem d_Co_after_103 : decode b_Co_after 103 = .ok (.iload 5, 2) := by decide +kernel
theorem d_Co_after_105 : decode b_Co_after 105 = .ok (.iload_n 2, 1) := by decide +kernel
theorem d_Co_after_106 : decode b_Co_after 106 = .ok (.iconst 0, 1) := by decide +kernel
theorem d_Co_after_107 : decode b_Co_after 107 = .ok (.invokestatic 103, 3) := by decide +kernel
theorem d_Co_after_110 : decode b_Co_after 110 = .ok (.invokestatic 100, 3) := by decide +kernel
theorem d_Co_after_113 : decode b_Co_after 113 = .ok (.istore 5, 2) := by decide +kernel
theorem d_Co_after_115 : decode b_Co_after 115 = .ok (.iload 5, 2) := by decide +kernel
theorem d_Co_after_117 : decode b_Co_after 117 = .ok (.iload_n 2, 1) := by decide +kernel
theorem d_Co_after_118 : decode b_Co_after 118 = .ok (.iconst 1, 1) := by decide +kernel
theorem d_Co_after_119 : decode b_Co_after 119 = .ok (.invokestatic 103, 3) := by decide +kernel
theorem d_Co_after_122 : decode b_Co_after 122 = .ok (.invokestatic 100, 3) := by decide +kernel
theorem d_Co_after_125 : decode b_Co_after 125 = .ok (.ireturn, 1) := by decide +kernel
theorem d_Co_after_126 : decode b_Co_after 126 = .ok (.iload 5, 2) := by decide +kernel
theorem d_Co_after_128 : decode b_Co_after 128 = .ok (.aload_n 0, 1) := by decide +kernel
theorem d_Co_after_129 : decode b_Co_after 129 = .ok (.iload 4, 2) := by decide +kernel
theorem d_Co_after_131 : decode b_Co_after 131 = .ok (.iconst 3, 1) := by decide +kernel
theorem d_Co_after_132 : decode b_Co_after 132 = .ok (.invokevirtual 41, 3) := by decide +kernel
theorem d_Co_after_135 : decode b_Co_after 135 = .ok (.invokestatic 100, 3) := by decide +kernel
theorem d_Co_after_138 : decode b_Co_after 138 = .ok (.ireturn, 1) := by decide +kernel
theorem d_Co_after_139 : decode b_Co_after 139 = .ok (.aload_n 3, 1) := by decide +kernel
theorem d_Co_after_140 : decode b_Co_after 140 = .ok (.getfield 106, 3) := by decide +kernel
theorem d_Co_after_143 : decode b_Co_after 143 = .ok (.ifCond .ne (8), 3) := by decide +kernel
theorem d_Co_after_146 : decode b_Co_after 146 = .ok (.iload 5, 2) := by decide +kernel
theorem d_Co_after_148 : decode b_Co_after 148 = .ok (.goto (12), 3) := by decide +kernel
theorem d_Co_after_151 : decode b_Co_after 151 = .ok (.iload 5, 2) := by decide +kernel
theorem d_Co_after_153 : decode b_Co_after 153 = .ok (.aload_n 3, 1) := by decide +kernel
theorem d_Co_after_154 : decode b_Co_after 154 = .ok (.getfield 106, 3) := by decide +kernel
theorem d_Co_after_157 : decode b_Co_after 157 = .ok (.invokestatic 100, 3) := by decide +kernel
theorem d_Co_after_160 : decode b_Co_after 160 = .ok (.ireturn, 1) := by decide +kernel
def y_Co_fits : MethodName := ⟨"FrameVerifier$Code", "fits", "(III)Z"⟩
abbrev b_Co_fits : ByteArray := prog_3_method_11_code
def rm_Co_fits : Room := { frames := 7, cells := 0, slots := 0, locals := 158 }
abbrev w_Co_fits : List Cond := Cond.code y_Co_fits b_Co_fits 6 (some .boolean) :: wG
theorem m_Co_fits : Cond.code y_Co_fits b_Co_fits 6 (some .boolean) ∈ wG := wg_t 235 (by decide +kernel) (by decide +kernel)
theorem q_Co_fits : y_Co_fits.cls ≠ "java/lang/invoke/MethodHandle" ∧ y_Co_fits.cls ≠ "java/lang/invoke/VarHandle" ∧ (parseMethodDescriptor y_Co_fits.desc).map (fun d => d.parameters.length) = some 3 := by decide +kernel
theorem g_Co_fits : Cond.initialized y_Co_fits.cls ∈ wG := wg_t 2 (by decide +kernel) (by decide +kernel)
theorem s_Co_fits : Cond.instanceMethod y_Co_fits ∈ wG := wg_t 233 (by decide +kernel) (by decide +kernel)
theorem e_Co_fits : Cond.selects "FrameVerifier$Code" y_Co_fits y_Co_fits ∈ wG := wg_t 234 (by decide +kernel) (by decide +kernel)
theorem d_Co_fits_0 : decode b_Co_fits 0 = .ok (.iload_n 3, 1) := by decide +kernel
theorem d_Co_fits_1 : decode b_Co_fits 1 = .ok (.iconst (-1), 1) := by decide +kernel
theorem d_Co_fits_2 : decode b_Co_fits 2 = .ok (.if_icmp .eq (17), 3) := by decide +kernel
theorem d_Co_fits_5 : decode b_Co_fits 5 = .ok (.iload_n 3, 1) := by decide +kernel
theorem d_Co_fits_6 : decode b_Co_fits 6 = .ok (.bipush (-2), 2) := by decide +kernel
theorem d_Co_fits_8 : decode b_Co_fits 8 = .ok (.if_icmp .eq (11), 3) := by decide +kernel
theorem d_Co_fits_11 : decode b_Co_fits 11 = .ok (.aload_n 0, 1) := by decide +kernel
theorem d_Co_fits_12 : decode b_Co_fits 12 = .ok (.iload_n 2, 1) := by decide +kernel
theorem d_Co_fits_13 : decode b_Co_fits 13 = .ok (.invokevirtual 49, 3) := by decide +kernel
theorem d_Co_fits_16 : decode b_Co_fits 16 = .ok (.ifCond .ne (5), 3) := by decide +kernel
theorem d_Co_fits_19 : decode b_Co_fits 19 = .ok (.iconst 0, 1) := by decide +kernel
theorem d_Co_fits_20 : decode b_Co_fits 20 = .ok (.ireturn, 1) := by decide +kernel
theorem d_Co_fits_21 : decode b_Co_fits 21 = .ok (.aload_n 0, 1) := by decide +kernel
theorem d_Co_fits_22 : decode b_Co_fits 22 = .ok (.iload_n 2, 1) := by decide +kernel
theorem d_Co_fits_23 : decode b_Co_fits 23 = .ok (.invokevirtual 53, 3) := by decide +kernel
theorem d_Co_fits_26 : decode b_Co_fits 26 = .ok (.astore 4, 2) := by decide +kernel
theorem d_Co_fits_28 : decode b_Co_fits 28 = .ok (.aload_n 0, 1) := by decide +kernel
theorem d_Co_fits_29 : decode b_Co_fits 29 = .ok (.getfield 19, 3) := by decide +kernel
theorem d_Co_fits_32 : decode b_Co_fits 32 = .ok (.iload_n 2, 1) := by decide +kernel
theorem d_Co_fits_33 : decode b_Co_fits 33 = .ok (.iaload, 1) := by decide +kernel
theorem d_Co_fits_34 : decode b_Co_fits 34 = .ok (.istore 5, 2) := by decide +kernel
theorem d_Co_fits_36 : decode b_Co_fits 36 = .ok (.aload 4, 2) := by decide +kernel
theorem d_Co_fits_38 : decode b_Co_fits 38 = .ok (.getfield 57, 3) := by decide +kernel
theorem d_Co_fits_41 : decode b_Co_fits 41 = .ok (.ifCond .eq (13), 3) := by decide +kernel
theorem d_Co_fits_44 : decode b_Co_fits 44 = .ok (.aload_n 0, 1) := by decide +kernel
theorem d_Co_fits_45 : decode b_Co_fits 45 = .ok (.iload_n 2, 1) := by decide +kernel
theorem d_Co_fits_46 : decode b_Co_fits 46 = .ok (.iconst 1, 1) := by decide +kernel
theorem d_Co_fits_47 : decode b_Co_fits 47 = .ok (.iadd, 1) := by decide +kernel
theorem d_Co_fits_48 : decode b_Co_fits 48 = .ok (.invokevirtual 63, 3) := by decide +kernel
theorem d_Co_fits_51 : decode b_Co_fits 51 = .ok (.ifCond .eq (46), 3) := by decide +kernel
theorem d_Co_fits_54 : decode b_Co_fits 54 = .ok (.aload_n 0, 1) := by decide +kernel
theorem d_Co_fits_55 : decode b_Co_fits 55 = .ok (.aload 4, 2) := by decide +kernel
theorem d_Co_fits_57 : decode b_Co_fits 57 = .ok (.iload 5, 2) := by decide +kernel
theorem d_Co_fits_59 : decode b_Co_fits 59 = .ok (.iload_n 3, 1) := by decide +kernel
theorem d_Co_fits_60 : decode b_Co_fits 60 = .ok (.invokevirtual 66, 3) := by decide +kernel
theorem d_Co_fits_63 : decode b_Co_fits 63 = .ok (.ifCond .eq (34), 3) := by decide +kernel
theorem d_Co_fits_66 : decode b_Co_fits 66 = .ok (.aload_n 0, 1) := by decide +kernel
theorem d_Co_fits_67 : decode b_Co_fits 67 = .ok (.iload_n 1, 1) := by decide +kernel
theorem d_Co_fits_68 : decode b_Co_fits 68 = .ok (.aload 4, 2) := by decide +kernel
theorem d_Co_fits_70 : decode b_Co_fits 70 = .ok (.iload 5, 2) := by decide +kernel
theorem d_Co_fits_72 : decode b_Co_fits 72 = .ok (.iload_n 3, 1) := by decide +kernel
theorem d_Co_fits_73 : decode b_Co_fits 73 = .ok (.invokevirtual 70, 3) := by decide +kernel
theorem d_Co_fits_76 : decode b_Co_fits 76 = .ok (.ifCond .eq (21), 3) := by decide +kernel
theorem d_Co_fits_79 : decode b_Co_fits 79 = .ok (.aload_n 0, 1) := by decide +kernel
theorem d_Co_fits_80 : decode b_Co_fits 80 = .ok (.iload_n 2, 1) := by decide +kernel
theorem d_Co_fits_81 : decode b_Co_fits 81 = .ok (.iload_n 3, 1) := by decide +kernel
theorem d_Co_fits_82 : decode b_Co_fits 82 = .ok (.invokevirtual 74, 3) := by decide +kernel
theorem d_Co_fits_85 : decode b_Co_fits 85 = .ok (.invokestatic 77, 3) := by decide +kernel
theorem d_Co_fits_88 : decode b_Co_fits 88 = .ok (.bipush (6), 2) := by decide +kernel
theorem d_Co_fits_90 : decode b_Co_fits 90 = .ok (.if_icmp .gt (7), 3) := by decide +kernel
theorem d_Co_fits_93 : decode b_Co_fits 93 = .ok (.iconst 1, 1) := by decide +kernel
theorem d_Co_fits_94 : decode b_Co_fits 94 = .ok (.goto (4), 3) := by decide +kernel
theorem d_Co_fits_97 : decode b_Co_fits 97 = .ok (.iconst 0, 1) := by decide +kernel
theorem d_Co_fits_98 : decode b_Co_fits 98 = .ok (.ireturn, 1) := by decide +kernel
theorem wd_40 : (Jvm.Cond.fieldLink "FrameVerifier$Code" (9 : Nat) "FrameVerifier$Code" "count" "I") ∈ wG := wg_t 40 (by decide +kernel) (by decide +kernel)
theorem wd_43 : (Jvm.Cond.fieldLink "FrameVerifier$Code" (15 : Nat) "FrameVerifier$Code" "ops" "[I") ∈ wG := wg_t 43 (by decide +kernel) (by decide +kernel)
theorem wd_44 : (Jvm.Cond.fieldLink "FrameVerifier$Code" (19 : Nat) "FrameVerifier$Code" "numbers" "[I") ∈ wG := wg_t 44 (by decide +kernel) (by decide +kernel)
theorem wd_45 : (Jvm.Cond.fieldLink "FrameVerifier$Code" (22 : Nat) "FrameVerifier$Code" "told" "[Z") ∈ wG := wg_t 45 (by decide +kernel) (by decide +kernel)
theorem wd_46 : (Jvm.Cond.fieldLink "FrameVerifier$Code" (26 : Nat) "FrameVerifier$Code" "starts" "[I") ∈ wG := wg_t 46 (by decide +kernel) (by decide +kernel)
theorem wd_47 : (Jvm.Cond.fieldLink "FrameVerifier$Code" (29 : Nat) "FrameVerifier$Code" "parameters" "[I") ∈ wG := wg_t 47 (by decide +kernel) (by decide +kernel)
theorem wd_48 : (Jvm.Cond.fieldLink "FrameVerifier$Code" (32 : Nat) "FrameVerifier$Code" "kinds" "[I") ∈ wG := wg_t 48 (by decide +kernel) (by decide +kernel)
theorem wd_251 : (Jvm.Cond.fieldLink "FrameVerifier$Code" (88 : Nat) "FrameVerifier$1" "$SwitchMap$FrameVerifier$Op" "[I") ∈ wG := wg_t 251 (by decide +kernel) (by decide +kernel)
theorem wd_268 : (Jvm.Cond.fieldLink "FrameVerifier$Op" (27 : Nat) "FrameVerifier$Op" "JUMP" "LFrameVerifier$Op;") ∈ wG := wg_t 268 (by decide +kernel) (by decide +kernel)
theorem wd_270 : (Jvm.Cond.fieldLink "FrameVerifier$Op" (30 : Nat) "FrameVerifier$Op" "ZERO" "LFrameVerifier$Op;") ∈ wG := wg_t 270 (by decide +kernel) (by decide +kernel)
theorem wd_272 : (Jvm.Cond.fieldLink "FrameVerifier$Op" (36 : Nat) "FrameVerifier$Op" "MISSING" "LFrameVerifier$Op;") ∈ wG := wg_t 272 (by decide +kernel) (by decide +kernel)
theorem wd_282 : (Jvm.Cond.fieldLink "FrameVerifier$Code" (119 : Nat) "FrameVerifier$Op" "CALL" "LFrameVerifier$Op;") ∈ wG := wg_t 282 (by decide +kernel) (by decide +kernel)
theorem wd_986 : (Jvm.Cond.fieldLink "FrameVerifier$Code" (57 : Nat) "FrameVerifier$Op" "goesBehind" "Z") ∈ wG := wg_t 986 (by decide +kernel) (by decide +kernel)
theorem wd_988 : (Jvm.Cond.fieldLink "FrameVerifier$Code" (123 : Nat) "FrameVerifier$Op" "takes" "Ljava/lang/String;") ∈ wG := wg_t 988 (by decide +kernel) (by decide +kernel)
theorem wd_991 : (Jvm.Cond.fieldLink "FrameVerifier$Op" (85 : Nat) "FrameVerifier$Op" "takes" "Ljava/lang/String;") ∈ wG := wg_t 991 (by decide +kernel) (by decide +kernel)
theorem wd_992 : (Jvm.Cond.fieldLink "FrameVerifier$Code" (106 : Nat) "FrameVerifier$Op" "gives" "I") ∈ wG := wg_t 992 (by decide +kernel) (by decide +kernel)
theorem k_Co_41 {R : Room} {s : State} {args : Array Value} {Ts : List Cond} (hts : ∀ w ∈ Ts, w.before args s = true) (hsub : ∀ w ∈ wG, w ∈ Ts) (hR : rm_Co_kindOf.frames + 1 ≤ R.frames ∧ 8 + (3 + 11) + rm_Co_kindOf.locals ≤ R.locals) : CallW R s args "FrameVerifier$Code" "FrameVerifier$Code" 41 y_Co_kindOf b_Co_kindOf 3 (some .int) w_Co_kindOf rm_Co_kindOf 0 0 2 := ⟨cb_G hts hsub m_Co_kindOf g_Co_kindOf (wg_t 200 (by decide +kernel) (by decide +kernel) : Cond.methodLink "FrameVerifier$Code" 41 y_Co_kindOf ∈ wG) q_Co_kindOf rfl rfl hR, hts _ (hsub _ s_Co_kindOf), hts _ (hsub _ e_Co_kindOf)⟩
theorem k_Co_45 {R : Room} {s : State} {args : Array Value} {Ts : List Cond} (hts : ∀ w ∈ Ts, w.before args s = true) (hsub : ∀ w ∈ wG, w ∈ Ts) (hR : rm_Ty_with.frames + 1 ≤ R.frames ∧ 8 + (4 + 11) + rm_Ty_with.locals ≤ R.locals) : CallB R s args "FrameVerifier$Code" 45 y_Ty_with b_Ty_with 4 (some .int) w_Ty_with rm_Ty_with 0 0 3 ∧ (Cond.static y_Ty_with).before args s = true := ⟨cb_G hts hsub m_Ty_with g_Ty_with (wg_t 204 (by decide +kernel) (by decide +kernel) : Cond.methodLink "FrameVerifier$Code" 45 y_Ty_with ∈ wG) q_Ty_with rfl rfl hR, hts _ (hsub _ s_Ty_with)⟩
theorem k_Co_49 {R : Room} {s : State} {args : Array Value} {Ts : List Cond} (hts : ∀ w ∈ Ts, w.before args s = true) (hsub : ∀ w ∈ wG, w ∈ Ts) (hR : rm_Co_hasOp.frames + 1 ≤ R.frames ∧ 8 + (2 + 11) + rm_Co_hasOp.locals ≤ R.locals) : CallW R s args "FrameVerifier$Code" "FrameVerifier$Code" 49 y_Co_hasOp b_Co_hasOp 2 (some .boolean) w_Co_hasOp rm_Co_hasOp 0 0 1 := ⟨cb_G hts hsub m_Co_hasOp g_Co_hasOp (wg_t 236 (by decide +kernel) (by decide +kernel) : Cond.methodLink "FrameVerifier$Code" 49 y_Co_hasOp ∈ wG) q_Co_hasOp rfl rfl hR, hts _ (hsub _ s_Co_hasOp), hts _ (hsub _ e_Co_hasOp)⟩
theorem k_Co_53 {R : Room} {s : State} {args : Array Value} {Ts : List Cond} (hts : ∀ w ∈ Ts, w.before args s = true) (hsub : ∀ w ∈ wG, w ∈ Ts) (hR : rm_Co_opAt.frames + 1 ≤ R.frames ∧ 8 + (2 + 11) + rm_Co_opAt.locals ≤ R.locals) : CallW R s args "FrameVerifier$Code" "FrameVerifier$Code" 53 y_Co_opAt b_Co_opAt 2 (some (.object "FrameVerifier$Op")) w_Co_opAt rm_Co_opAt 0 0 1 := ⟨cb_G hts hsub m_Co_opAt g_Co_opAt (wg_t 243 (by decide +kernel) (by decide +kernel) : Cond.methodLink "FrameVerifier$Code" 53 y_Co_opAt ∈ wG) q_Co_opAt rfl rfl hR, hts _ (hsub _ s_Co_opAt), hts _ (hsub _ e_Co_opAt)⟩
theorem k_Co_63 {R : Room} {s : State} {args : Array Value} {Ts : List Cond} (hts : ∀ w ∈ Ts, w.before args s = true) (hsub : ∀ w ∈ wG, w ∈ Ts) (hR : rm_Co_hasInstruction.frames + 1 ≤ R.frames ∧ 8 + (2 + 11) + rm_Co_hasInstruction.locals ≤ R.locals) : CallW R s args "FrameVerifier$Code" "FrameVerifier$Code" 63 y_Co_hasInstruction b_Co_hasInstruction 2 (some .boolean) w_Co_hasInstruction rm_Co_hasInstruction 0 0 1 := ⟨cb_G hts hsub m_Co_hasInstruction g_Co_hasInstruction (wg_t 240 (by decide +kernel) (by decide +kernel) : Cond.methodLink "FrameVerifier$Code" 63 y_Co_hasInstruction ∈ wG) q_Co_hasInstruction rfl rfl hR, hts _ (hsub _ s_Co_hasInstruction), hts _ (hsub _ e_Co_hasInstruction)⟩
theorem k_Co_66 {R : Room} {s : State} {args : Array Value} {Ts : List Cond} (hts : ∀ w ∈ Ts, w.before args s = true) (hsub : ∀ w ∈ wG, w ∈ Ts) (hR : rm_Co_numberFits.frames + 1 ≤ R.frames ∧ 8 + (4 + 11) + rm_Co_numberFits.locals ≤ R.locals) : CallW R s args "FrameVerifier$Code" "FrameVerifier$Code" 66 y_Co_numberFits b_Co_numberFits 4 (some .boolean) w_Co_numberFits rm_Co_numberFits 0 0 3 := ⟨cb_G hts hsub m_Co_numberFits g_Co_numberFits (wg_t 247 (by decide +kernel) (by decide +kernel) : Cond.methodLink "FrameVerifier$Code" 66 y_Co_numberFits ∈ wG) q_Co_numberFits rfl rfl hR, hts _ (hsub _ s_Co_numberFits), hts _ (hsub _ e_Co_numberFits)⟩
theorem k_Co_70 {R : Room} {s : State} {args : Array Value} {Ts : List Cond} (hts : ∀ w ∈ Ts, w.before args s = true) (hsub : ∀ w ∈ wG, w ∈ Ts) (hR : rm_Co_takenFits.frames + 1 ≤ R.frames ∧ 8 + (8 + 11) + rm_Co_takenFits.locals ≤ R.locals) : CallW R s args "FrameVerifier$Code" "FrameVerifier$Code" 70 y_Co_takenFits b_Co_takenFits 8 (some .boolean) w_Co_takenFits rm_Co_takenFits 0 0 4 := ⟨cb_G hts hsub m_Co_takenFits g_Co_takenFits (wg_t 274 (by decide +kernel) (by decide +kernel) : Cond.methodLink "FrameVerifier$Code" 70 y_Co_takenFits ∈ wG) q_Co_takenFits rfl rfl hR, hts _ (hsub _ s_Co_takenFits), hts _ (hsub _ e_Co_takenFits)⟩
theorem k_Co_74 {R : Room} {s : State} {args : Array Value} {Ts : List Cond} (hts : ∀ w ∈ Ts, w.before args s = true) (hsub : ∀ w ∈ wG, w ∈ Ts) (hR : rm_Co_after.frames + 1 ≤ R.frames ∧ 8 + (6 + 11) + rm_Co_after.locals ≤ R.locals) : CallW R s args "FrameVerifier$Code" "FrameVerifier$Code" 74 y_Co_after b_Co_after 6 (some .int) w_Co_after rm_Co_after 0 0 2 := ⟨cb_G hts hsub m_Co_after g_Co_after (wg_t 348 (by decide +kernel) (by decide +kernel) : Cond.methodLink "FrameVerifier$Code" 74 y_Co_after ∈ wG) q_Co_after rfl rfl hR, hts _ (hsub _ s_Co_after), hts _ (hsub _ e_Co_after)⟩
theorem k_Co_77 {R : Room} {s : State} {args : Array Value} {Ts : List Cond} (hts : ∀ w ∈ Ts, w.before args s = true) (hsub : ∀ w ∈ wG, w ∈ Ts) (hR : rm_Ty_height.frames + 1 ≤ R.frames ∧ 8 + (1 + 11) + rm_Ty_height.locals ≤ R.locals) : CallB R s args "FrameVerifier$Code" 77 y_Ty_height b_Ty_height 1 (some .int) w_Ty_height rm_Ty_height 0 0 1 ∧ (Cond.static y_Ty_height).before args s = true := ⟨cb_G hts hsub m_Ty_height g_Ty_height (wg_t 294 (by decide +kernel) (by decide +kernel) : Cond.methodLink "FrameVerifier$Code" 77 y_Ty_height ∈ wG) q_Ty_height rfl rfl hR, hts _ (hsub _ s_Ty_height)⟩
theorem k_Co_81 {R : Room} {s : State} {args : Array Value} {Ts : List Cond} (hts : ∀ w ∈ Ts, w.before args s = true) (hsub : ∀ w ∈ wG, w ∈ Ts) (hR : rm_Co_takenCount.frames + 1 ≤ R.frames ∧ 8 + (3 + 11) + rm_Co_takenCount.locals ≤ R.locals) : CallW R s args "FrameVerifier$Code" "FrameVerifier$Code" 81 y_Co_takenCount b_Co_takenCount 3 (some .int) w_Co_takenCount rm_Co_takenCount 0 0 2 := ⟨cb_G hts hsub m_Co_takenCount g_Co_takenCount (wg_t 278 (by decide +kernel) (by decide +kernel) : Cond.methodLink "FrameVerifier$Code" 81 y_Co_takenCount ∈ wG) q_Co_takenCount rfl rfl hR, hts _ (hsub _ s_Co_takenCount), hts _ (hsub _ e_Co_takenCount)⟩
theorem k_Co_85 {R : Room} {s : State} {args : Array Value} {Ts : List Cond} (hts : ∀ w ∈ Ts, w.before args s = true) (hsub : ∀ w ∈ wG, w ∈ Ts) (hR : rm_Ty_dropped.frames + 1 ≤ R.frames ∧ 8 + (4 + 11) + rm_Ty_dropped.locals ≤ R.locals) : CallB R s args "FrameVerifier$Code" 85 y_Ty_dropped b_Ty_dropped 4 (some .int) w_Ty_dropped rm_Ty_dropped 0 0 2 ∧ (Cond.static y_Ty_dropped).before args s = true := ⟨cb_G hts hsub m_Ty_dropped g_Ty_dropped (wg_t 352 (by decide +kernel) (by decide +kernel) : Cond.methodLink "FrameVerifier$Code" 85 y_Ty_dropped ∈ wG) q_Ty_dropped rfl rfl hR, hts _ (hsub _ s_Ty_dropped)⟩
theorem k_Co_97 {R : Room} {s : State} {args : Array Value} {Ts : List Cond} (hts : ∀ w ∈ Ts, w.before args s = true) (hsub : ∀ w ∈ wG, w ∈ Ts) (hR : rm_Ty_at.frames + 1 ≤ R.frames ∧ 8 + (2 + 11) + rm_Ty_at.locals ≤ R.locals) : CallB R s args "FrameVerifier$Code" 97 y_Ty_at b_Ty_at 2 (some .int) w_Ty_at rm_Ty_at 0 0 2 ∧ (Cond.static y_Ty_at).before args s = true := ⟨cb_G hts hsub m_Ty_at g_Ty_at (wg_t 262 (by decide +kernel) (by decide +kernel) : Cond.methodLink "FrameVerifier$Code" 97 y_Ty_at ∈ wG) q_Ty_at rfl rfl hR, hts _ (hsub _ s_Ty_at)⟩
theorem k_Co_100 {R : Room} {s : State} {args : Array Value} {Ts : List Cond} (hts : ∀ w ∈ Ts, w.before args s = true) (hsub : ∀ w ∈ wG, w ∈ Ts) (hR : rm_Ty_pushed.frames + 1 ≤ R.frames ∧ 8 + (2 + 11) + rm_Ty_pushed.locals ≤ R.locals) : CallB R s args "FrameVerifier$Code" 100 y_Ty_pushed b_Ty_pushed 2 (some .int) w_Ty_pushed rm_Ty_pushed 0 0 2 ∧ (Cond.static y_Ty_pushed).before args s = true := ⟨cb_G hts hsub m_Ty_pushed g_Ty_pushed (wg_t 355 (by decide +kernel) (by decide +kernel) : Cond.methodLink "FrameVerifier$Code" 100 y_Ty_pushed ∈ wG) q_Ty_pushed rfl rfl hR, hts _ (hsub _ s_Ty_pushed)⟩
theorem k_Co_103 {R : Room} {s : State} {args : Array Value} {Ts : List Cond} (hts : ∀ w ∈ Ts, w.before args s = true) (hsub : ∀ w ∈ wG, w ∈ Ts) (hR : rm_Ty_below.frames + 1 ≤ R.frames ∧ 8 + (2 + 11) + rm_Ty_below.locals ≤ R.locals) : CallB R s args "FrameVerifier$Code" 103 y_Ty_below b_Ty_below 2 (some .int) w_Ty_below rm_Ty_below 0 0 2 ∧ (Cond.static y_Ty_below).before args s = true := ⟨cb_G hts hsub m_Ty_below g_Ty_below (wg_t 342 (by decide +kernel) (by decide +kernel) : Cond.methodLink "FrameVerifier$Code" 103 y_Ty_below ∈ wG) q_Ty_below rfl rfl hR, hts _ (hsub _ s_Ty_below)⟩
theorem k_Co_112 {R : Room} {s : State} {args : Array Value} {Ts : List Cond} (hts : ∀ w ∈ Ts, w.before args s = true) (hsub : ∀ w ∈ wG, w ∈ Ts) (hR : rm_Co_hasRoutine.frames + 1 ≤ R.frames ∧ 8 + (2 + 11) + rm_Co_hasRoutine.locals ≤ R.locals) : CallW R s args "FrameVerifier$Code" "FrameVerifier$Code" 112 y_Co_hasRoutine b_Co_hasRoutine 2 (some .boolean) w_Co_hasRoutine rm_Co_hasRoutine 0 0 1 := ⟨cb_G hts hsub m_Co_hasRoutine g_Co_hasRoutine (wg_t 263 (by decide +kernel) (by decide +kernel) : Cond.methodLink "FrameVerifier$Code" 112 y_Co_hasRoutine ∈ wG) q_Co_hasRoutine rfl rfl hR, hts _ (hsub _ s_Co_hasRoutine), hts _ (hsub _ e_Co_hasRoutine)⟩
theorem k_Co_115 {R : Room} {s : State} {args : Array Value} {Ts : List Cond} (hts : ∀ w ∈ Ts, w.before args s = true) (hsub : ∀ w ∈ wG, w ∈ Ts) (hR : rm_Op_jumps.frames + 1 ≤ R.frames ∧ 8 + (1 + 11) + rm_Op_jumps.locals ≤ R.locals) : CallW R s args "FrameVerifier$Code" "FrameVerifier$Op" 115 y_Op_jumps b_Op_jumps 1 (some .boolean) w_Op_jumps rm_Op_jumps 0 0 0 := ⟨cb_G hts hsub m_Op_jumps g_Op_jumps (wg_t 264 (by decide +kernel) (by decide +kernel) : Cond.methodLink "FrameVerifier$Code" 115 y_Op_jumps ∈ wG) q_Op_jumps rfl rfl hR, hts _ (hsub _ s_Op_jumps), hts _ (hsub _ e_Op_jumps)⟩
theorem k_Co_127 {R : Room} {s : State} {args : Array Value} {Ts : List Cond} (hts : ∀ w ∈ Ts, w.before args s = true) (hsub : ∀ w ∈ wG, w ∈ Ts) (hR : rm_St_length.frames + 1 ≤ R.frames ∧ 8 + (1 + 11) + rm_St_length.locals ≤ R.locals) : CallW R s args "FrameVerifier$Code" "java/lang/String" 127 y_St_length b_St_length 1 (some .int) w_St_length rm_St_length 0 0 0 := ⟨cb_G hts hsub m_St_length g_St_length (wg_t 284 (by decide +kernel) (by decide +kernel) : Cond.methodLink "FrameVerifier$Code" 127 y_St_length ∈ wG) q_St_length rfl rfl hR, hts _ (hsub _ s_St_length), hts _ (hsub _ e_St_length)⟩
theorem k_Co_132 {R : Room} {s : State} {args : Array Value} {Ts : List Cond} (hts : ∀ w ∈ Ts, w.before args s = true) (hsub : ∀ w ∈ wG, w ∈ Ts) (hR : rm_Co_wantedBelow.frames + 1 ≤ R.frames ∧ 8 + (5 + 11) + rm_Co_wantedBelow.locals ≤ R.locals) : CallW R s args "FrameVerifier$Code" "FrameVerifier$Code" 132 y_Co_wantedBelow b_Co_wantedBelow 5 (some .int) w_Co_wantedBelow rm_Co_wantedBelow 0 0 4 := ⟨cb_G hts hsub m_Co_wantedBelow g_Co_wantedBelow (wg_t 295 (by decide +kernel) (by decide +kernel) : Cond.methodLink "FrameVerifier$Code" 132 y_Co_wantedBelow ∈ wG) q_Co_wantedBelow rfl rfl hR, hts _ (hsub _ s_Co_wantedBelow), hts _ (hsub _ e_Co_wantedBelow)⟩
theorem k_Co_136 {R : Room} {s : State} {args : Array Value} {Ts : List Cond} (hts : ∀ w ∈ Ts, w.before args s = true) (hsub : ∀ w ∈ wG, w ∈ Ts) (hR : rm_Op_wanted.frames + 1 ≤ R.frames ∧ 8 + (3 + 11) + rm_Op_wanted.locals ≤ R.locals) : CallW R s args "FrameVerifier$Code" "FrameVerifier$Op" 136 y_Op_wanted b_Op_wanted 3 (some .int) w_Op_wanted rm_Op_wanted 0 0 1 := ⟨cb_G hts hsub m_Op_wanted g_Op_wanted (wg_t 299 (by decide +kernel) (by decide +kernel) : Cond.methodLink "FrameVerifier$Code" 136 y_Op_wanted ∈ wG) q_Op_wanted rfl rfl hR, hts _ (hsub _ s_Op_wanted), hts _ (hsub _ e_Op_wanted)⟩
theorem k_Op_97 {R : Room} {s : State} {args : Array Value} {Ts : List Cond} (hts : ∀ w ∈ Ts, w.before args s = true) (hsub : ∀ w ∈ wG, w ∈ Ts) (hR : rm_St_length.frames + 1 ≤ R.frames ∧ 8 + (1 + 11) + rm_St_length.locals ≤ R.locals) : CallW R s args "FrameVerifier$Op" "java/lang/String" 97 y_St_length b_St_length 1 (some .int) w_St_length rm_St_length 0 0 0 := ⟨cb_G hts hsub m_St_length g_St_length (wg_t 303 (by decide +kernel) (by decide +kernel) : Cond.methodLink "FrameVerifier$Op" 97 y_St_length ∈ wG) q_St_length rfl rfl hR, hts _ (hsub _ s_St_length), hts _ (hsub _ e_St_length)⟩
theorem k_Op_103 {R : Room} {s : State} {args : Array Value} {Ts : List Cond} (hts : ∀ w ∈ Ts, w.before args s = true) (hsub : ∀ w ∈ wG, w ∈ Ts) (hR : rm_St_charAt.frames + 1 ≤ R.frames ∧ 8 + (2 + 11) + rm_St_charAt.locals ≤ R.locals) : CallW R s args "FrameVerifier$Op" "java/lang/String" 103 y_St_charAt b_St_charAt 2 (some .char) w_St_charAt rm_St_charAt 0 0 1 := ⟨cb_G hts hsub m_St_charAt g_St_charAt (wg_t 304 (by decide +kernel) (by decide +kernel) : Cond.methodLink "FrameVerifier$Op" 103 y_St_charAt ∈ wG) q_St_charAt rfl rfl hR, hts _ (hsub _ s_St_charAt), hts _ (hsub _ e_St_charAt)⟩
theorem k_Co_93 {R : Room} {s : State} {args : Array Value} {Ts : List Cond} (hts : ∀ w ∈ Ts, w.before args s = true) (hsub : ∀ w ∈ wG, w ∈ Ts) (hR : rm_En_ordinal.frames + 1 ≤ R.frames ∧ 8 + (1 + 11) + rm_En_ordinal.locals ≤ R.locals) : va_CU R s args "FrameVerifier$Code" "FrameVerifier$Op" "java/lang/Enum" 93 ⟨"FrameVerifier$Op", "ordinal", "()I"⟩ y_En_ordinal b_En_ordinal 1 (some .int) w_En_ordinal rm_En_ordinal 0 0 0 := by
  refine va_cwU 0 hts (fun w hw => ?_) rfl rfl rfl rfl (by decide +kernel) hR
  have h1 : w ∈ wG := by
    rcases List.mem_append.mp hw with h | h
    · simp only [List.mem_cons, List.not_mem_nil, or_false] at h
      rcases h with rfl | rfl | rfl | rfl | rfl
      · exact wg_t 253 (by decide +kernel) (by decide +kernel)
      · exact wg_t 254 (by decide +kernel) (by decide +kernel)
      · exact wg_t 256 (by decide +kernel) (by decide +kernel)
      · exact s_En_ordinal
      · exact g_En_ordinal
    · rcases List.mem_cons.mp h with rfl | h
      · exact m_En_ordinal
      · exact h
  exact ⟨hsub w h1, good_of_word (List.mem_filter.mp h1).2⟩
theorem k_nest {R : Room} {s : State} {args : Array Value} {Ts : List Cond} {D : va_G} {ca : Nat → ClassId} {ax : Nat → Nat → Nat} {b : Nat} (hKK : kC D ca ax b s) (hts : ∀ w ∈ Ts, w.before args s = true) (hsub : ∀ w ∈ wG, w ∈ Ts) (hR : rm_FV_isLocal.frames + 1 ≤ R.frames ∧ 8 + (1 + 11) + rm_FV_isLocal.locals ≤ R.locals) : va_CN R s args "FrameVerifier$Code" 109 y_FV_isLocal "FrameVerifier" b_FV_isLocal 1 (some .boolean) w_FV_isLocal rm_FV_isLocal 0 0 1 ∧ (Cond.static y_FV_isLocal).before args s = true ∧ True := ⟨va_cnB 1 hts (wg_in hsub m_FV_isLocal) rfl rfl rfl hKK.2.2.2 (hts _ (hsub _ g_FV_isLocal)) q_FV_isLocal hR, hts _ (hsub _ s_FV_isLocal), trivial⟩
end
section
/-! contracts of 08.code; written by wip/whole/make.py -/
def fn_Co_append (σ : mm_M) (a0 : Int32) (a1 : Int32) : Option (Int32 × mm_M) :=
    (nm (σ 1 0) (fun x1 =>
    (if (x1 < 0 ∨ 100 ≤ x1.toNatClampNeg) then none else (nm (mw σ 2 x1.toNatClampNeg a0) (fun σ3 =>
    (if (x1 < 0 ∨ 100 ≤ x1.toNatClampNeg) then none else (nm (mw σ3 3 x1.toNatClampNeg a1) (fun σ5 =>
    (nm (mw σ5 1 0 ((σ5 1 0) + (1 : Int32))) (fun σ6 =>
    (some (x1, σ6))))))))))))
set_option maxRecDepth 100000 in
set_option maxHeartbeats 40000000 in
theorem c_Co_append (l : Launch) (D : va_G) (ca : Nat → ClassId) (ax : Nat → Nat → Nat) (b : Nat) (σ : mm_M) (a0 : Int32) (a1 : Int32)  {r : Int32} {σ' : mm_M} (hf : fn_Co_append σ a0 a1 = some (r, σ')) : Met l y_Co_append w_Co_append rm_Co_append (pc_w D cls b N_C (ce_C ca b) (kC D ca ax b) [.ref (b + 1), .int a0, .int a1] σ) (qc_i D cls b N_C (ce_C ca b) r σ') 0 0 (mm_A b N_C) := by
  refine vv_go (cc := b_Co_append) (maxL := 4) (ret := (some .int)) (fin := (r, σ')) (k := fn_Co_append σ a0 a1) (by decide) rfl (by simp [Value.category]) (Nat.le_of_ble_eq_true rfl) hf ?_
  intro p e s m below meth c hlocks hret S hKK
  unfold fn_Co_append
  refine v_aload_n S d_Co_append_0 rfl rfl ?_
  refine v_get S (fun w h => List.mem_cons_of_mem _ (i_Co w h)) hKK.1 1 (by decide) rfl rfl 0 (by decide) (S.2.2.2.2 _ (List.mem_cons_of_mem _ (wd_40))) (fun _ h => h) rfl d_Co_append_1 ?_
  refine v_top (fun x1 ex1 => ?_)
  refine v_istore_nP S d_Co_append_4 rfl (by decide) (L2 := [some (.ref (b + 1)), some (.int a0), some (.int a1), some (.int x1)]) rfl ?_
  refine v_aload_n S d_Co_append_5 rfl rfl ?_
  refine v_get S (fun w h => List.mem_cons_of_mem _ (i_Co w h)) hKK.1 1 (by decide) rfl rfl 1 (by decide) (S.2.2.2.2 _ (List.mem_cons_of_mem _ (wd_43))) (fun _ h => h) rfl d_Co_append_6 ?_
  refine v_iload_n S d_Co_append_9 rfl rfl ?_
  refine v_iload_n S d_Co_append_10 rfl rfl ?_
  refine v_iast1 S hKK.1 2 0 (by decide) (fun _ => rfl) rfl d_Co_append_11 (fun h2 => ?_)
  refine v_sg (fun σ3 eσ3 => ?_)
  refine v_aload_n S d_Co_append_12 rfl rfl ?_
  refine v_get S (fun w h => List.mem_cons_of_mem _ (i_Co w h)) hKK.1 1 (by decide) rfl rfl 2 (by decide) (S.2.2.2.2 _ (List.mem_cons_of_mem _ (wd_44))) (fun _ h => h) rfl d_Co_append_13 ?_
  refine v_iload_n S d_Co_append_16 rfl rfl ?_
  refine v_iload_n S d_Co_append_17 rfl rfl ?_
  refine v_iast1 S hKK.1 3 0 (by decide) (fun _ => rfl) rfl d_Co_append_18 (fun h4 => ?_)
  refine v_sg (fun σ5 eσ5 => ?_)
  refine v_aload_n S d_Co_append_19 rfl rfl ?_
  refine v_dup S d_Co_append_20 rfl ?_
  refine v_get S (fun w h => List.mem_cons_of_mem _ (i_Co w h)) hKK.1 1 (by decide) rfl rfl 0 (by decide) (S.2.2.2.2 _ (List.mem_cons_of_mem _ (wd_40))) (fun _ h => h) rfl d_Co_append_21 ?_
  refine v_iconst S d_Co_append_24 (v := (1 : Int32)) (by decide) ?_
  refine v_iadd S d_Co_append_25 ?_
  refine v_puti S (fun w h => List.mem_cons_of_mem _ (i_Co w h)) hKK.1 1 (by decide) rfl rfl 0 (by decide) (S.2.2.2.2 _ (List.mem_cons_of_mem _ (wd_40))) (fun _ h => h) t_Co t_Co_ok n_Co rfl (ty := .int) rfl rfl rfl (Nat.le_of_ble_eq_true rfl) rfl d_Co_append_26 ?_
  refine v_sg (fun σ6 eσ6 => ?_)
  refine v_iload_n S d_Co_append_29 rfl rfl ?_
  exact v_iret S hret hlocks d_Co_append_30
def fn_Co_tell (σ : mm_M) (a0 : Int32) (a1 : Int32) (a2 : Int32) (a3 : Int32) : Option (mm_M) :=
    (if (a0 < 0 ∨ 4 ≤ a0.toNatClampNeg) then none else (nm (mw σ 4 a0.toNatClampNeg (1 : Int32)) (fun σ2 =>
    (if (a0 < 0 ∨ 4 ≤ a0.toNatClampNeg) then none else (nm (mw σ2 5 a0.toNatClampNeg a1) (fun σ4 =>
    (if (a0 < 0 ∨ 4 ≤ a0.toNatClampNeg) then none else (nm (mw σ4 6 a0.toNatClampNeg a2) (fun σ6 =>
    (if (a0 < 0 ∨ 4 ≤ a0.toNatClampNeg) then none else (nm (mw σ6 7 a0.toNatClampNeg a3) (fun σ8 =>
    (some σ8)))))))))))))
set_option maxRecDepth 100000 in
set_option maxHeartbeats 40000000 in
theorem c_Co_tell (l : Launch) (D : va_G) (ca : Nat → ClassId) (ax : Nat → Nat → Nat) (b : Nat) (σ : mm_M) (a0 : Int32) (a1 : Int32) (a2 : Int32) (a3 : Int32)  {σ' : mm_M} (hf : fn_Co_tell σ a0 a1 a2 a3 = some σ') : Met l y_Co_tell w_Co_tell rm_Co_tell (pc_w D cls b N_C (ce_C ca b) (kC D ca ax b) [.ref (b + 1), .int a0, .int a1, .int a2, .int a3] σ) (qc_v D cls b N_C (ce_C ca b) σ') 0 0 (mm_A b N_C) := by
  refine vv_go (cc := b_Co_tell) (maxL := 5) (ret := none) (fin := σ') (k := fn_Co_tell σ a0 a1 a2 a3) (by decide) rfl (by simp [Value.category]) (Nat.le_of_ble_eq_true rfl) hf ?_
  intro p e s m below meth c hlocks hret S hKK
  unfold fn_Co_tell
  refine v_aload_n S d_Co_tell_0 rfl rfl ?_
  refine v_get S (fun w h => List.mem_cons_of_mem _ (i_Co w h)) hKK.1 1 (by decide) rfl rfl 3 (by decide) (S.2.2.2.2 _ (List.mem_cons_of_mem _ (wd_45))) (fun _ h => h) rfl d_Co_tell_1 ?_
  refine v_iload_n S d_Co_tell_4 rfl rfl ?_
  refine v_iconst S d_Co_tell_5 (v := (1 : Int32)) (by decide) ?_
  refine v_zast1 S hKK.1 4 1 (by decide) (fun _ => rfl) rfl (Or.inr rfl) d_Co_tell_6 (fun h1 => ?_)
  refine v_sg (fun σ2 eσ2 => ?_)
  refine v_aload_n S d_Co_tell_7 rfl rfl ?_
  refine v_get S (fun w h => List.mem_cons_of_mem _ (i_Co w h)) hKK.1 1 (by decide) rfl rfl 4 (by decide) (S.2.2.2.2 _ (List.mem_cons_of_mem _ (wd_46))) (fun _ h => h) rfl d_Co_tell_8 ?_
  refine v_iload_n S d_Co_tell_11 rfl rfl ?_
  refine v_iload_n S d_Co_tell_12 rfl rfl ?_
  refine v_iast1 S hKK.1 5 0 (by decide) (fun _ => rfl) rfl d_Co_tell_13 (fun h3 => ?_)
  refine v_sg (fun σ4 eσ4 => ?_)
  refine v_aload_n S d_Co_tell_14 rfl rfl ?_
  refine v_get S (fun w h => List.mem_cons_of_mem _ (i_Co w h)) hKK.1 1 (by decide) rfl rfl 5 (by decide) (S.2.2.2.2 _ (List.mem_cons_of_mem _ (wd_47))) (fun _ h => h) rfl d_Co_tell_15 ?_
  refine v_iload_n S d_Co_tell_18 rfl rfl ?_
  refine v_iload_n S d_Co_tell_19 rfl rfl ?_
  refine v_iast1 S hKK.1 6 0 (by decide) (fun _ => rfl) rfl d_Co_tell_20 (fun h5 => ?_)
  refine v_sg (fun σ6 eσ6 => ?_)
  refine v_aload_n S d_Co_tell_21 rfl rfl ?_
  refine v_get S (fun w h => List.mem_cons_of_mem _ (i_Co w h)) hKK.1 1 (by decide) rfl rfl 6 (by decide) (S.2.2.2.2 _ (List.mem_cons_of_mem _ (wd_48))) (fun _ h => h) rfl d_Co_tell_22 ?_
  refine v_iload_n S d_Co_tell_25 rfl rfl ?_
  refine v_iload S d_Co_tell_26 rfl ?_
  refine v_iast1 S hKK.1 7 0 (by decide) (fun _ => rfl) rfl d_Co_tell_28 (fun h7 => ?_)
  refine v_sg (fun σ8 eσ8 => ?_)
  exact v_vret S hret hlocks d_Co_tell_29
def fn_Co_hasInstruction (σ : mm_M) (a0 : Int32) : Option (Int32 × mm_M) :=
    (if a0 < 0 then
    (if (0 : Int32) = 0 ∨ (0 : Int32) = 1 then some ((0 : Int32), σ) else none)
    else
    (if (σ 1 0) ≤ a0 then
    (if (0 : Int32) = 0 ∨ (0 : Int32) = 1 then some ((0 : Int32), σ) else none)
    else
    (if (1 : Int32) = 0 ∨ (1 : Int32) = 1 then some ((1 : Int32), σ) else none)))
set_option maxRecDepth 100000 in
set_option maxHeartbeats 40000000 in
theorem c_Co_hasInstruction (l : Launch) (D : va_G) (ca : Nat → ClassId) (ax : Nat → Nat → Nat) (b : Nat) (σ : mm_M) (a0 : Int32)  {r : Int32} {σ' : mm_M} (hf : fn_Co_hasInstruction σ a0 = some (r, σ')) : Met l y_Co_hasInstruction w_Co_hasInstruction rm_Co_hasInstruction (pc_w D cls b N_C (ce_C ca b) (kC D ca ax b) [.ref (b + 1), .int a0] σ) (qc_i D cls b N_C (ce_C ca b) r σ') 0 0 (mm_A b N_C) := by
  refine vv_go (cc := b_Co_hasInstruction) (maxL := 2) (ret := (some .boolean)) (fin := (r, σ')) (k := fn_Co_hasInstruction σ a0) (by decide) rfl (by simp [Value.category]) (Nat.le_of_ble_eq_true rfl) hf ?_
  intro p e s m below meth c hlocks hret S hKK
  unfold fn_Co_hasInstruction
  refine v_iload_n S d_Co_hasInstruction_0 rfl rfl ?_
  refine v_if_lt S d_Co_hasInstruction_1 (tgt := 16) (by decide) (fun h1 => ?_) (fun h1 => ?_)
  · refine v_iconst S d_Co_hasInstruction_16 (v := (0 : Int32)) (by decide) ?_
    exact v_zret S hret hlocks d_Co_hasInstruction_17
  · refine v_iload_n S d_Co_hasInstruction_4 rfl rfl ?_
    refine v_aload_n S d_Co_hasInstruction_5 rfl rfl ?_
    refine v_get S (fun w h => List.mem_cons_of_mem _ (i_Co w h)) hKK.1 1 (by decide) rfl rfl 0 (by decide) (S.2.2.2.2 _ (List.mem_cons_of_mem _ (wd_40))) (fun _ h => h) rfl d_Co_hasInstruction_6 ?_
    refine v_icmp_ge S d_Co_hasInstruction_9 (tgt := 16) (by decide) (fun h2 => ?_) (fun h2 => ?_)
    · refine v_iconst S d_Co_hasInstruction_16 (v := (0 : Int32)) (by decide) ?_
      exact v_zret S hret hlocks d_Co_hasInstruction_17
    · refine v_iconst S d_Co_hasInstruction_12 (v := (1 : Int32)) (by decide) ?_
      refine v_goto S d_Co_hasInstruction_13 (tgt := 17) (by decide) ?_
      exact v_zret S hret hlocks d_Co_hasInstruction_17
def fn_Co_hasRoutine (σ : mm_M) (a0 : Int32) : Option (Int32 × mm_M) :=
    (if a0 < 0 then
    (if (0 : Int32) = 0 ∨ (0 : Int32) = 1 then some ((0 : Int32), σ) else none)
    else
    (if (4 : Int32) ≤ a0 then
    (if (0 : Int32) = 0 ∨ (0 : Int32) = 1 then some ((0 : Int32), σ) else none)
    else
    (if (a0 < 0 ∨ 4 ≤ a0.toNatClampNeg) then none else
    (if (σ 4 a0.toNatClampNeg) = 0 then
    (if (0 : Int32) = 0 ∨ (0 : Int32) = 1 then some ((0 : Int32), σ) else none)
    else
    (if (1 : Int32) = 0 ∨ (1 : Int32) = 1 then some ((1 : Int32), σ) else none)))))
set_option maxRecDepth 100000 in
set_option maxHeartbeats 40000000 in
theorem c_Co_hasRoutine (l : Launch) (D : va_G) (ca : Nat → ClassId) (ax : Nat → Nat → Nat) (b : Nat) (σ : mm_M) (a0 : Int32)  {r : Int32} {σ' : mm_M} (hf : fn_Co_hasRoutine σ a0 = some (r, σ')) : Met l y_Co_hasRoutine w_Co_hasRoutine rm_Co_hasRoutine (pc_w D cls b N_C (ce_C ca b) (kC D ca ax b) [.ref (b + 1), .int a0] σ) (qc_i D cls b N_C (ce_C ca b) r σ') 0 0 (mm_A b N_C) := by
  refine vv_go (cc := b_Co_hasRoutine) (maxL := 2) (ret := (some .boolean)) (fin := (r, σ')) (k := fn_Co_hasRoutine σ a0) (by decide) rfl (by simp [Value.category]) (Nat.le_of_ble_eq_true rfl) hf ?_
  intro p e s m below meth c hlocks hret S hKK
  unfold fn_Co_hasRoutine
  refine v_iload_n S d_Co_hasRoutine_0 rfl rfl ?_
  refine v_if_lt S d_Co_hasRoutine_1 (tgt := 22) (by decide) (fun h1 => ?_) (fun h1 => ?_)
  · refine v_iconst S d_Co_hasRoutine_22 (v := (0 : Int32)) (by decide) ?_
    exact v_zret S hret hlocks d_Co_hasRoutine_23
  · refine v_iload_n S d_Co_hasRoutine_4 rfl rfl ?_
    refine v_iconst S d_Co_hasRoutine_5 (v := (4 : Int32)) (by decide) ?_
    refine v_icmp_ge S d_Co_hasRoutine_6 (tgt := 22) (by decide) (fun h2 => ?_) (fun h2 => ?_)
    · refine v_iconst S d_Co_hasRoutine_22 (v := (0 : Int32)) (by decide) ?_
      exact v_zret S hret hlocks d_Co_hasRoutine_23
    · refine v_aload_n S d_Co_hasRoutine_9 rfl rfl ?_
      refine v_get S (fun w h => List.mem_cons_of_mem _ (i_Co w h)) hKK.1 1 (by decide) rfl rfl 3 (by decide) (S.2.2.2.2 _ (List.mem_cons_of_mem _ (wd_45))) (fun _ h => h) rfl d_Co_hasRoutine_10 ?_
      refine v_iload_n S d_Co_hasRoutine_13 rfl rfl ?_
      refine v_zald S hKK.1 4 1 (by decide) rfl rfl d_Co_hasRoutine_14 (fun h3 => ?_)
      refine v_if_eq S d_Co_hasRoutine_15 (tgt := 22) (by decide) (fun h4 => ?_) (fun h4 => ?_)
      · refine v_iconst S d_Co_hasRoutine_22 (v := (0 : Int32)) (by decide) ?_
        exact v_zret S hret hlocks d_Co_hasRoutine_23
      · refine v_iconst S d_Co_hasRoutine_18 (v := (1 : Int32)) (by decide) ?_
        refine v_goto S d_Co_hasRoutine_19 (tgt := 23) (by decide) ?_
        exact v_zret S hret hlocks d_Co_hasRoutine_23
def fn_Co_startOf (σ : mm_M) (a0 : Int32) : Option (Int32 × mm_M) :=
    (if (a0 < 0 ∨ 4 ≤ a0.toNatClampNeg) then none else
    (some ((σ 5 a0.toNatClampNeg), σ)))
set_option maxRecDepth 100000 in
set_option maxHeartbeats 40000000 in
theorem c_Co_startOf (l : Launch) (D : va_G) (ca : Nat → ClassId) (ax : Nat → Nat → Nat) (b : Nat) (σ : mm_M) (a0 : Int32)  {r : Int32} {σ' : mm_M} (hf : fn_Co_startOf σ a0 = some (r, σ')) : Met l y_Co_startOf w_Co_startOf rm_Co_startOf (pc_w D cls b N_C (ce_C ca b) (kC D ca ax b) [.ref (b + 1), .int a0] σ) (qc_i D cls b N_C (ce_C ca b) r σ') 0 0 (mm_A b N_C) := by
  refine vv_go (cc := b_Co_startOf) (maxL := 2) (ret := (some .int)) (fin := (r, σ')) (k := fn_Co_startOf σ a0) (by decide) rfl (by simp [Value.category]) (Nat.le_of_ble_eq_true rfl) hf ?_
  intro p e s m below meth c hlocks hret S hKK
  unfold fn_Co_startOf
  refine v_aload_n S d_Co_startOf_0 rfl rfl ?_
  refine v_get S (fun w h => List.mem_cons_of_mem _ (i_Co w h)) hKK.1 1 (by decide) rfl rfl 4 (by decide) (S.2.2.2.2 _ (List.mem_cons_of_mem _ (wd_46))) (fun _ h => h) rfl d_Co_startOf_1 ?_
  refine v_iload_n S d_Co_startOf_4 rfl rfl ?_
  refine v_iald S hKK.1 5 0 (by decide) rfl rfl d_Co_startOf_5 (fun h1 => ?_)
  exact v_iret S hret hlocks d_Co_startOf_6
def fn_Co_parametersOf (σ : mm_M) (a0 : Int32) : Option (Int32 × mm_M) :=
    (if (a0 < 0 ∨ 4 ≤ a0.toNatClampNeg) then none else
    (some ((σ 6 a0.toNatClampNeg), σ)))
set_option maxRecDepth 100000 in
set_option maxHeartbeats 40000000 in
theorem c_Co_parametersOf (l : Launch) (D : va_G) (ca : Nat → ClassId) (ax : Nat → Nat → Nat) (b : Nat) (σ : mm_M) (a0 : Int32)  {r : Int32} {σ' : mm_M} (hf : fn_Co_parametersOf σ a0 = some (r, σ')) : Met l y_Co_parametersOf w_Co_parametersOf rm_Co_parametersOf (pc_w D cls b N_C (ce_C ca b) (kC D ca ax b) [.ref (b + 1), .int a0] σ) (qc_i D cls b N_C (ce_C ca b) r σ') 0 0 (mm_A b N_C) := by
  refine vv_go (cc := b_Co_parametersOf) (maxL := 2) (ret := (some .int)) (fin := (r, σ')) (k := fn_Co_parametersOf σ a0) (by decide) rfl (by simp [Value.category]) (Nat.le_of_ble_eq_true rfl) hf ?_
  intro p e s m below meth c hlocks hret S hKK
  unfold fn_Co_parametersOf
  refine v_aload_n S d_Co_parametersOf_0 rfl rfl ?_
  refine v_get S (fun w h => List.mem_cons_of_mem _ (i_Co w h)) hKK.1 1 (by decide) rfl rfl 5 (by decide) (S.2.2.2.2 _ (List.mem_cons_of_mem _ (wd_47))) (fun _ h => h) rfl d_Co_parametersOf_1 ?_
  refine v_iload_n S d_Co_parametersOf_4 rfl rfl ?_
  refine v_iald S hKK.1 6 0 (by decide) rfl rfl d_Co_parametersOf_5 (fun h1 => ?_)
  exact v_iret S hret hlocks d_Co_parametersOf_6
def fn_Co_opAt (σ : mm_M) (a0 : Int32) : Option (Nat × mm_M) :=
    (if (a0 < 0 ∨ 100 ≤ a0.toNatClampNeg) then none else
    (if ((σ 2 a0.toNatClampNeg) < 0 ∨ 20 ≤ (σ 2 a0.toNatClampNeg).toNatClampNeg) then none else
    (some (((σ 2 a0.toNatClampNeg).toNatClampNeg), σ))))
set_option maxRecDepth 100000 in
set_option maxHeartbeats 40000000 in
theorem c_Co_opAt (l : Launch) (D : va_G) (ca : Nat → ClassId) (ax : Nat → Nat → Nat) (b : Nat) (σ : mm_M) (a0 : Int32)  {r : Nat} {σ' : mm_M} (hf : fn_Co_opAt σ a0 = some (r, σ')) : Met l y_Co_opAt w_Co_opAt rm_Co_opAt (pc_w D cls b N_C (ce_C ca b) (kC D ca ax b) [.ref (b + 1), .int a0] σ) (qc_a D cls b N_C (ce_C ca b) (ax 0 r) σ') 0 0 (mm_A b N_C) := by
  refine vv_go (cc := b_Co_opAt) (maxL := 2) (ret := (some (.object "FrameVerifier$Op"))) (fin := (r, σ')) (k := fn_Co_opAt σ a0) (by decide) rfl (by simp [Value.category]) (Nat.le_of_ble_eq_true rfl) hf ?_
  intro p e s m below meth c hlocks hret S hKK
  unfold fn_Co_opAt
  refine v_getsN S (kc_zOps hKK) (va_Nw.use rfl hKK.2.2.1) (fun _ h => h) d_Co_opAt_0 ?_
  refine v_aload_n S d_Co_opAt_3 rfl rfl ?_
  refine v_get S (fun w h => List.mem_cons_of_mem _ (i_Co w h)) hKK.1 1 (by decide) rfl rfl 1 (by decide) (S.2.2.2.2 _ (List.mem_cons_of_mem _ (wd_43))) (fun _ h => h) rfl d_Co_opAt_4 ?_
  refine v_iload_n S d_Co_opAt_7 rfl rfl ?_
  refine v_iald S hKK.1 2 0 (by decide) rfl rfl d_Co_opAt_8 (fun h1 => ?_)
  refine v_ta S (kc_tOps hKK) rfl d_Co_opAt_9 (fun h2 => ?_)
  exact v_aret (ax 0) S hret hlocks d_Co_opAt_10
theorem rb_Co_opAt {σ : mm_M} {a0 : Int32} {r : Nat} {σ' : mm_M} (h : fn_Co_opAt σ a0 = some (r, σ')) : r < 20 := by
  unfold fn_Co_opAt at h
  try simp only [bd, bv, nm] at h
  repeat' (split at h)
  all_goals (first | (cases h; done) | (cases h; first | decide | exact ib (by assumption) ))
def fn_Co_numberAt (σ : mm_M) (a0 : Int32) : Option (Int32 × mm_M) :=
    (if (a0 < 0 ∨ 100 ≤ a0.toNatClampNeg) then none else
    (some ((σ 3 a0.toNatClampNeg), σ)))
set_option maxRecDepth 100000 in
set_option maxHeartbeats 40000000 in
theorem c_Co_numberAt (l : Launch) (D : va_G) (ca : Nat → ClassId) (ax : Nat → Nat → Nat) (b : Nat) (σ : mm_M) (a0 : Int32)  {r : Int32} {σ' : mm_M} (hf : fn_Co_numberAt σ a0 = some (r, σ')) : Met l y_Co_numberAt w_Co_numberAt rm_Co_numberAt (pc_w D cls b N_C (ce_C ca b) (kC D ca ax b) [.ref (b + 1), .int a0] σ) (qc_i D cls b N_C (ce_C ca b) r σ') 0 0 (mm_A b N_C) := by
  refine vv_go (cc := b_Co_numberAt) (maxL := 2) (ret := (some .int)) (fin := (r, σ')) (k := fn_Co_numberAt σ a0) (by decide) rfl (by simp [Value.category]) (Nat.le_of_ble_eq_true rfl) hf ?_
  intro p e s m below meth c hlocks hret S hKK
  unfold fn_Co_numberAt
  refine v_aload_n S d_Co_numberAt_0 rfl rfl ?_
  refine v_get S (fun w h => List.mem_cons_of_mem _ (i_Co w h)) hKK.1 1 (by decide) rfl rfl 2 (by decide) (S.2.2.2.2 _ (List.mem_cons_of_mem _ (wd_44))) (fun _ h => h) rfl d_Co_numberAt_1 ?_
  refine v_iload_n S d_Co_numberAt_4 rfl rfl ?_
  refine v_iald S hKK.1 3 0 (by decide) rfl rfl d_Co_numberAt_5 (fun h1 => ?_)
  exact v_iret S hret hlocks d_Co_numberAt_6
def fn_Co_kindOf (σ : mm_M) (a0 : Int32) (a1 : Int32) : Option (Int32 × mm_M) :=
    (if (a0 < 0 ∨ 4 ≤ a0.toNatClampNeg) then none else
    (if (((σ 7 a0.toNatClampNeg) >>> (a1 &&& 31)) &&& (1 : Int32)) = (1 : Int32) then
    (some ((2 : Int32), σ))
    else
    (some ((1 : Int32), σ))))
set_option maxRecDepth 100000 in
set_option maxHeartbeats 40000000 in
theorem c_Co_kindOf (l : Launch) (D : va_G) (ca : Nat → ClassId) (ax : Nat → Nat → Nat) (b : Nat) (σ : mm_M) (a0 : Int32) (a1 : Int32)  {r : Int32} {σ' : mm_M} (hf : fn_Co_kindOf σ a0 a1 = some (r, σ')) : Met l y_Co_kindOf w_Co_kindOf rm_Co_kindOf (pc_w D cls b N_C (ce_C ca b) (kC D ca ax b) [.ref (b + 1), .int a0, .int a1] σ) (qc_i D cls b N_C (ce_C ca b) r σ') 0 0 (mm_A b N_C) := by
  refine vv_go (cc := b_Co_kindOf) (maxL := 3) (ret := (some .int)) (fin := (r, σ')) (k := fn_Co_kindOf σ a0 a1) (by decide) rfl (by simp [Value.category]) (Nat.le_of_ble_eq_true rfl) hf ?_
  intro p e s m below meth c hlocks hret S hKK
  unfold fn_Co_kindOf
  refine v_aload_n S d_Co_kindOf_0 rfl rfl ?_
  refine v_get S (fun w h => List.mem_cons_of_mem _ (i_Co w h)) hKK.1 1 (by decide) rfl rfl 6 (by decide) (S.2.2.2.2 _ (List.mem_cons_of_mem _ (wd_48))) (fun _ h => h) rfl d_Co_kindOf_1 ?_
  refine v_iload_n S d_Co_kindOf_4 rfl rfl ?_
  refine v_iald S hKK.1 7 0 (by decide) rfl rfl d_Co_kindOf_5 (fun h1 => ?_)
  refine v_iload_n S d_Co_kindOf_6 rfl rfl ?_
  refine v_ishr S d_Co_kindOf_7 ?_
  refine v_iconst S d_Co_kindOf_8 (v := (1 : Int32)) (by decide) ?_
  refine v_iand S d_Co_kindOf_9 ?_
  refine v_iconst S d_Co_kindOf_10 (v := (1 : Int32)) (by decide) ?_
  refine v_icmp_ne S d_Co_kindOf_11 (tgt := 18) (by decide) (fun h2 => ?_) (fun h2 => ?_)
  · refine v_iconst S d_Co_kindOf_18 (v := (1 : Int32)) (by decide) ?_
    exact v_iret S hret hlocks d_Co_kindOf_19
  · refine v_iconst S d_Co_kindOf_14 (v := (2 : Int32)) (by decide) ?_
    refine v_goto S d_Co_kindOf_15 (tgt := 19) (by decide) ?_
    exact v_iret S hret hlocks d_Co_kindOf_19
def fn_Co_firstState_4 (a0 : Int32) : Nat → mm_M → Int32 → Int32 → Option (Int32 × mm_M)
  | 0, _, _, _ => none
  | n + 1, σ, l2, l3 =>
    (if (a0 < 0 ∨ 4 ≤ a0.toNatClampNeg) then none else
    (if (σ 6 a0.toNatClampNeg) ≤ l3 then
    (some (l2, σ))
    else
    (bd (fn_Co_kindOf σ a0 l3) (fun r4 σ3 =>
    (bd (fn_Ty_with σ3 l2 l3 r4) (fun r6 σ5 =>
    (fn_Co_firstState_4 a0 n σ5 r6 (l3 + (1 : Int32)))))))))
def fn_Co_firstState (σ : mm_M) (a0 : Int32) : Option (Int32 × mm_M) :=
    (fn_Co_firstState_4 a0 fuel0 σ (0 : Int32) (0 : Int32))
set_option maxRecDepth 100000 in
set_option maxHeartbeats 40000000 in
theorem c_Co_firstState (l : Launch) (D : va_G) (ca : Nat → ClassId) (ax : Nat → Nat → Nat) (b : Nat) (σ : mm_M) (a0 : Int32)  {r : Int32} {σ' : mm_M} (hf : fn_Co_firstState σ a0 = some (r, σ')) : Met l y_Co_firstState w_Co_firstState rm_Co_firstState (pc_w D cls b N_C (ce_C ca b) (kC D ca ax b) [.ref (b + 1), .int a0] σ) (qc_i D cls b N_C (ce_C ca b) r σ') 0 0 (mm_A b N_C) := by
  refine vv_go (cc := b_Co_firstState) (maxL := 4) (ret := (some .int)) (fin := (r, σ')) (k := fn_Co_firstState σ a0) (by decide) rfl (by simp [Value.category]) (Nat.le_of_ble_eq_true rfl) hf ?_
  intro p e s m below meth c hlocks hret S hKK
  have C4 : ∀ (n : Nat) (σ : mm_M) (l2 : Int32) (l3 : Int32), vv p l e (headSpec w_Co_firstState rm_Co_firstState).room s m [.ref (b + 1), .int a0].toArray below meth c D cls b N_C (ce_C ca b) 4 (MQ below (qc_i D cls b N_C (ce_C ca b) r σ') [.ref (b + 1), .int a0].toArray s 0 0 (mm_A b N_C)) (r, σ') (fn_Co_firstState_4 a0 n σ l2 l3) σ 4 [some (.ref (b + 1)), some (.int a0), some (.int l2), some (.int l3)] [] := by
    intro n
    induction n with
    | zero => intro σ l2 l3  h; cases h
    | succ n ih =>
      intro σ l2 l3
      show vv p l e (headSpec w_Co_firstState rm_Co_firstState).room s m [.ref (b + 1), .int a0].toArray below meth c D cls b N_C (ce_C ca b) 4 (MQ below (qc_i D cls b N_C (ce_C ca b) r σ') [.ref (b + 1), .int a0].toArray s 0 0 (mm_A b N_C)) (r, σ') (        (if (a0 < 0 ∨ 4 ≤ a0.toNatClampNeg) then none else
        (if (σ 6 a0.toNatClampNeg) ≤ l3 then
        (some (l2, σ))
        else
        (bd (fn_Co_kindOf σ a0 l3) (fun r4 σ3 =>
        (bd (fn_Ty_with σ3 l2 l3 r4) (fun r6 σ5 =>
        (fn_Co_firstState_4 a0 n σ5 r6 (l3 + (1 : Int32)))))))))) σ 4 [some (.ref (b + 1)), some (.int a0), some (.int l2), some (.int l3)] []
      refine v_iload_n S d_Co_firstState_4 rfl rfl ?_
      refine v_aload_n S d_Co_firstState_5 rfl rfl ?_
      refine v_get S (fun w h => List.mem_cons_of_mem _ (i_Co w h)) hKK.1 1 (by decide) rfl rfl 5 (by decide) (S.2.2.2.2 _ (List.mem_cons_of_mem _ (wd_47))) (fun _ h => h) rfl d_Co_firstState_6 ?_
      refine v_iload_n S d_Co_firstState_9 rfl rfl ?_
      refine v_iald S hKK.1 6 0 (by decide) rfl rfl d_Co_firstState_10 (fun h1 => ?_)
      refine v_icmp_ge S d_Co_firstState_11 (tgt := 32) (by decide) (fun h2 => ?_) (fun h2 => ?_)
      · refine v_iload_n S d_Co_firstState_32 rfl rfl ?_
        exact v_iret S hret hlocks d_Co_firstState_33
      · refine v_iload_n S d_Co_firstState_14 rfl rfl ?_
        refine v_iload_n S d_Co_firstState_15 rfl rfl ?_
        refine v_aload_n S d_Co_firstState_16 rfl rfl ?_
        refine v_iload_n S d_Co_firstState_17 rfl rfl ?_
        refine v_iload_n S d_Co_firstState_18 rfl rfl ?_
        refine v_ci (rest := [.int l3, .int l2]) (fun _ _ hg H locs ls hsz hP hS => run_V (As := [.int a0, .int l3]) (rest := [.int l3, .int l2]) S kC_ok hKK (c_Co_kindOf l D ca ax b σ a0 l3 hg) (k_Co_41 S.2.2.2.2 (fun _ => List.mem_cons_of_mem _) ⟨Nat.le_of_ble_eq_true rfl, Nat.le_of_ble_eq_true rfl⟩) (rc_w hKK.1 hP 1 (by decide) rfl rfl) rfl rfl (by simp [Value.category]) d_Co_firstState_19 hsz hP hS) (fun r4 σ3 _ => ?_)
        refine v_ci (rest := []) (fun _ _ hg H locs ls hsz hP hS => run_S (As := [.int l2, .int l3, .int r4]) (rest := []) S kC_ok hKK (c_Ty_with l D ca ax b σ3 l2 l3 r4 hg) (k_Co_45 S.2.2.2.2 (fun _ => List.mem_cons_of_mem _) ⟨Nat.le_of_ble_eq_true rfl, Nat.le_of_ble_eq_true rfl⟩) rfl rfl (Nat.zero_le _) d_Co_firstState_22 hsz hP hS) (fun r6 σ5 _ => ?_)
        refine v_istore_nP S d_Co_firstState_25 rfl (by decide) (L2 := [some (.ref (b + 1)), some (.int a0), some (.int r6), some (.int l3)]) rfl ?_
        refine v_iinc S d_Co_firstState_26 rfl (v := (l3 + (1 : Int32))) (by first | rfl | decide) (by decide) (L2 := [some (.ref (b + 1)), some (.int a0), some (.int r6), some (.int (l3 + (1 : Int32)))]) rfl ?_
        refine v_goto S d_Co_firstState_29 (tgt := 4) (by decide) ?_
        refine v_sub (L2 := [some (.ref (b + 1)), some (.int a0), some (.int r6), some (.int (l3 + (1 : Int32)))]) (And.intro rfl (And.intro rfl (And.intro rfl (And.intro rfl True.intro)))) ?_
        exact ih σ5 r6 (l3 + (1 : Int32))
  unfold fn_Co_firstState
  refine v_iconst S d_Co_firstState_0 (v := (0 : Int32)) (by decide) ?_
  refine v_istore_nP S d_Co_firstState_1 rfl (by decide) (L2 := [some (.ref (b + 1)), some (.int a0), some (.int (0 : Int32))]) rfl ?_
  refine v_iconst S d_Co_firstState_2 (v := (0 : Int32)) (by decide) ?_
  refine v_istore_nP S d_Co_firstState_3 rfl (by decide) (L2 := [some (.ref (b + 1)), some (.int a0), some (.int (0 : Int32)), some (.int (0 : Int32))]) rfl ?_
  refine v_sub (L2 := [some (.ref (b + 1)), some (.int a0), some (.int (0 : Int32)), some (.int (0 : Int32))]) (And.intro rfl (And.intro rfl (And.intro rfl (And.intro rfl True.intro)))) ?_
  exact C4 fuel0 σ (0 : Int32) (0 : Int32)
def fn_Co_hasOp (σ : mm_M) (a0 : Int32) : Option (Int32 × mm_M) :=
    (bd (fn_Co_hasInstruction σ a0) (fun r2 σ1 =>
    (if r2 = 0 then
    (if (0 : Int32) = 0 ∨ (0 : Int32) = 1 then some ((0 : Int32), σ1) else none)
    else
    (if (a0 < 0 ∨ 100 ≤ a0.toNatClampNeg) then none else
    (if (σ1 2 a0.toNatClampNeg) < 0 then
    (if (0 : Int32) = 0 ∨ (0 : Int32) = 1 then some ((0 : Int32), σ1) else none)
    else
    (if (a0 < 0 ∨ 100 ≤ a0.toNatClampNeg) then none else
    (if (20 : Int32) ≤ (σ1 2 a0.toNatClampNeg) then
    (if (0 : Int32) = 0 ∨ (0 : Int32) = 1 then some ((0 : Int32), σ1) else none)
    else
    (if (1 : Int32) = 0 ∨ (1 : Int32) = 1 then some ((1 : Int32), σ1) else none))))))))
set_option maxRecDepth 100000 in
set_option maxHeartbeats 40000000 in
theorem c_Co_hasOp (l : Launch) (D : va_G) (ca : Nat → ClassId) (ax : Nat → Nat → Nat) (b : Nat) (σ : mm_M) (a0 : Int32)  {r : Int32} {σ' : mm_M} (hf : fn_Co_hasOp σ a0 = some (r, σ')) : Met l y_Co_hasOp w_Co_hasOp rm_Co_hasOp (pc_w D cls b N_C (ce_C ca b) (kC D ca ax b) [.ref (b + 1), .int a0] σ) (qc_i D cls b N_C (ce_C ca b) r σ') 0 0 (mm_A b N_C) := by
  refine vv_go (cc := b_Co_hasOp) (maxL := 2) (ret := (some .boolean)) (fin := (r, σ')) (k := fn_Co_hasOp σ a0) (by decide) rfl (by simp [Value.category]) (Nat.le_of_ble_eq_true rfl) hf ?_
  intro p e s m below meth c hlocks hret S hKK
  unfold fn_Co_hasOp
  refine v_aload_n S d_Co_hasOp_0 rfl rfl ?_
  refine v_iload_n S d_Co_hasOp_1 rfl rfl ?_
  refine v_ci (rest := []) (fun _ _ hg H locs ls hsz hP hS => run_V (As := [.int a0]) (rest := []) S kC_ok hKK (c_Co_hasInstruction l D ca ax b σ a0 hg) (k_Co_63 S.2.2.2.2 (fun _ => List.mem_cons_of_mem _) ⟨Nat.le_of_ble_eq_true rfl, Nat.le_of_ble_eq_true rfl⟩) (rc_w hKK.1 hP 1 (by decide) rfl rfl) rfl rfl (Nat.zero_le _) d_Co_hasOp_2 hsz hP hS) (fun r2 σ1 _ => ?_)
  refine v_if_eq S d_Co_hasOp_5 (tgt := 34) (by decide) (fun h3 => ?_) (fun h3 => ?_)
  · refine v_iconst S d_Co_hasOp_34 (v := (0 : Int32)) (by decide) ?_
    exact v_zret S hret hlocks d_Co_hasOp_35
  · refine v_aload_n S d_Co_hasOp_8 rfl rfl ?_
    refine v_get S (fun w h => List.mem_cons_of_mem _ (i_Co w h)) hKK.1 1 (by decide) rfl rfl 1 (by decide) (S.2.2.2.2 _ (List.mem_cons_of_mem _ (wd_43))) (fun _ h => h) rfl d_Co_hasOp_9 ?_
    refine v_iload_n S d_Co_hasOp_12 rfl rfl ?_
    refine v_iald S hKK.1 2 0 (by decide) rfl rfl d_Co_hasOp_13 (fun h4 => ?_)
    refine v_if_lt S d_Co_hasOp_14 (tgt := 34) (by decide) (fun h5 => ?_) (fun h5 => ?_)
    · refine v_iconst S d_Co_hasOp_34 (v := (0 : Int32)) (by decide) ?_
      exact v_zret S hret hlocks d_Co_hasOp_35
    · refine v_aload_n S d_Co_hasOp_17 rfl rfl ?_
      refine v_get S (fun w h => List.mem_cons_of_mem _ (i_Co w h)) hKK.1 1 (by decide) rfl rfl 1 (by decide) (S.2.2.2.2 _ (List.mem_cons_of_mem _ (wd_43))) (fun _ h => h) rfl d_Co_hasOp_18 ?_
      refine v_iload_n S d_Co_hasOp_21 rfl rfl ?_
      refine v_iald S hKK.1 2 0 (by decide) rfl rfl d_Co_hasOp_22 (fun h6 => ?_)
      refine v_getsN S (kc_zOps hKK) (va_Nw.use rfl hKK.2.2.1) (fun _ h => h) d_Co_hasOp_23 ?_
      refine v_tlen S (kc_tOps hKK) (v := 20) rfl d_Co_hasOp_26 ?_
      refine v_icmp_ge S d_Co_hasOp_27 (tgt := 34) (by decide) (fun h7 => ?_) (fun h7 => ?_)
      · refine v_iconst S d_Co_hasOp_34 (v := (0 : Int32)) (by decide) ?_
        exact v_zret S hret hlocks d_Co_hasOp_35
      · refine v_iconst S d_Co_hasOp_30 (v := (1 : Int32)) (by decide) ?_
        refine v_goto S d_Co_hasOp_31 (tgt := 35) (by decide) ?_
        exact v_zret S hret hlocks d_Co_hasOp_35
def fn_FV_isLocal (σ : mm_M) (a0 : Int32) : Option (Int32 × mm_M) :=
    (if a0 < 0 then
    (if (0 : Int32) = 0 ∨ (0 : Int32) = 1 then some ((0 : Int32), σ) else none)
    else
    (if (6 : Int32) ≤ a0 then
    (if (0 : Int32) = 0 ∨ (0 : Int32) = 1 then some ((0 : Int32), σ) else none)
    else
    (if (1 : Int32) = 0 ∨ (1 : Int32) = 1 then some ((1 : Int32), σ) else none)))
set_option maxRecDepth 100000 in
set_option maxHeartbeats 40000000 in
theorem c_FV_isLocal (l : Launch) (D : va_G) (ca : Nat → ClassId) (ax : Nat → Nat → Nat) (b : Nat) (σ : mm_M) (a0 : Int32)  {r : Int32} {σ' : mm_M} (hf : fn_FV_isLocal σ a0 = some (r, σ')) : Met l y_FV_isLocal w_FV_isLocal rm_FV_isLocal (pc_w D cls b N_C (ce_C ca b) (kC D ca ax b) [.int a0] σ) (qc_i D cls b N_C (ce_C ca b) r σ') 0 0 (mm_A b N_C) := by
  refine vv_go (cc := b_FV_isLocal) (maxL := 1) (ret := (some .boolean)) (fin := (r, σ')) (k := fn_FV_isLocal σ a0) (by decide) rfl (by simp [Value.category]) (Nat.le_of_ble_eq_true rfl) hf ?_
  intro p e s m below meth c hlocks hret S hKK
  unfold fn_FV_isLocal
  refine v_iload_n S d_FV_isLocal_0 rfl rfl ?_
  refine v_if_lt S d_FV_isLocal_1 (tgt := 14) (by decide) (fun h1 => ?_) (fun h1 => ?_)
  · refine v_iconst S d_FV_isLocal_14 (v := (0 : Int32)) (by decide) ?_
    exact v_zret S hret hlocks d_FV_isLocal_15
  · refine v_iload_n S d_FV_isLocal_4 rfl rfl ?_
    refine v_bipush S d_FV_isLocal_5 (v := (6 : Int32)) (by decide) ?_
    refine v_icmp_ge S d_FV_isLocal_7 (tgt := 14) (by decide) (fun h2 => ?_) (fun h2 => ?_)
    · refine v_iconst S d_FV_isLocal_14 (v := (0 : Int32)) (by decide) ?_
      exact v_zret S hret hlocks d_FV_isLocal_15
    · refine v_iconst S d_FV_isLocal_10 (v := (1 : Int32)) (by decide) ?_
      refine v_goto S d_FV_isLocal_11 (tgt := 15) (by decide) ?_
      exact v_zret S hret hlocks d_FV_isLocal_15
def fn_Op_jumps (σ : mm_M) (o : Nat) : Option (Int32 × mm_M) :=
    (if o = 7 then
    (if (1 : Int32) = 0 ∨ (1 : Int32) = 1 then some ((1 : Int32), σ) else none)
    else
    (if o = 8 then
    (if (1 : Int32) = 0 ∨ (1 : Int32) = 1 then some ((1 : Int32), σ) else none)
    else
    (if o = 10 then
    (if (1 : Int32) = 0 ∨ (1 : Int32) = 1 then some ((1 : Int32), σ) else none)
    else
    (if (0 : Int32) = 0 ∨ (0 : Int32) = 1 then some ((0 : Int32), σ) else none))))
set_option maxRecDepth 100000 in
set_option maxHeartbeats 40000000 in
theorem c_Op_jumps (l : Launch) (D : va_G) (ca : Nat → ClassId) (ax : Nat → Nat → Nat) (b : Nat) (σ : mm_M) (o : Nat) (ho : o < 20) {r : Int32} {σ' : mm_M} (hf : fn_Op_jumps σ o = some (r, σ')) : Met l y_Op_jumps w_Op_jumps rm_Op_jumps (pc_w D cls b N_C (ce_C ca b) (kC D ca ax b) [.ref (ax 0 o)] σ) (qc_i D cls b N_C (ce_C ca b) r σ') 0 0 (mm_A b N_C) := by
  refine vv_go (cc := b_Op_jumps) (maxL := 1) (ret := (some .boolean)) (fin := (r, σ')) (k := fn_Op_jumps σ o) (by decide) rfl (by simp [Value.category]) (Nat.le_of_ble_eq_true rfl) hf ?_
  intro p e s m below meth c hlocks hret S hKK
  unfold fn_Op_jumps
  refine v_aload_n S d_Op_jumps_0 rfl rfl ?_
  refine v_gets S (kc_zO hKK (i := 7) (by decide)) (S.2.2.2.2 _ (List.mem_cons_of_mem _ (wd_268))) (fun _ h => h) d_Op_jumps_1 ?_
  refine v_acmp_eq S d_Op_jumps_4 (tgt := 21) (by decide) (op_inj hKK ho (by decide)) (fun h1 => ?_) (fun h1 => ?_)
  · refine v_iconst S d_Op_jumps_21 (v := (1 : Int32)) (by decide) ?_
    refine v_goto S d_Op_jumps_22 (tgt := 26) (by decide) ?_
    exact v_zret S hret hlocks d_Op_jumps_26
  · refine v_aload_n S d_Op_jumps_7 rfl rfl ?_
    refine v_gets S (kc_zO hKK (i := 8) (by decide)) (S.2.2.2.2 _ (List.mem_cons_of_mem _ (wd_270))) (fun _ h => h) d_Op_jumps_8 ?_
    refine v_acmp_eq S d_Op_jumps_11 (tgt := 21) (by decide) (op_inj hKK ho (by decide)) (fun h2 => ?_) (fun h2 => ?_)
    · refine v_iconst S d_Op_jumps_21 (v := (1 : Int32)) (by decide) ?_
      refine v_goto S d_Op_jumps_22 (tgt := 26) (by decide) ?_
      exact v_zret S hret hlocks d_Op_jumps_26
    · refine v_aload_n S d_Op_jumps_14 rfl rfl ?_
      refine v_gets S (kc_zO hKK (i := 10) (by decide)) (S.2.2.2.2 _ (List.mem_cons_of_mem _ (wd_272))) (fun _ h => h) d_Op_jumps_15 ?_
      refine v_acmp_ne S d_Op_jumps_18 (tgt := 25) (by decide) (op_inj hKK ho (by decide)) (fun h3 => ?_) (fun h3 => ?_)
      · refine v_iconst S d_Op_jumps_25 (v := (0 : Int32)) (by decide) ?_
        exact v_zret S hret hlocks d_Op_jumps_26
      · refine v_iconst S d_Op_jumps_21 (v := (1 : Int32)) (by decide) ?_
        refine v_goto S d_Op_jumps_22 (tgt := 26) (by decide) ?_
        exact v_zret S hret hlocks d_Op_jumps_26
def fn_Co_numberFits (σ : mm_M) (o0 : Nat) (a1 : Int32) (a2 : Int32) : Option (Int32 × mm_M) :=
    (if ((nI o0) < 0 ∨ 20 ≤ (nI o0).toNatClampNeg) then none else
    (if (sw_op (nI o0).toNatClampNeg) = (1 : Int32) then
    (bd (fn_FV_isLocal σ a1) (fun r4 σ3 =>
    (if r4 = 0 then
    (if (0 : Int32) = 0 ∨ (0 : Int32) = 1 then some ((0 : Int32), σ3) else none)
    else
    (bd (fn_Ty_at σ3 a2 a1) (fun r7 σ6 =>
    (if r7 = (1 : Int32) then
    (if (1 : Int32) = 0 ∨ (1 : Int32) = 1 then some ((1 : Int32), σ6) else none)
    else
    (bd (fn_Ty_at σ6 a2 a1) (fun r10 σ9 =>
    (if r10 = (2 : Int32) then
    (if (1 : Int32) = 0 ∨ (1 : Int32) = 1 then some ((1 : Int32), σ9) else none)
    else
    (if (0 : Int32) = 0 ∨ (0 : Int32) = 1 then some ((0 : Int32), σ9) else none))))))))))
    else
    (if (sw_op (nI o0).toNatClampNeg) = (2 : Int32) then
    (bd (fn_FV_isLocal σ a1) (fun r14 σ13 =>
    (if r14 = 0 ∨ r14 = 1 then some (r14, σ13) else none)))
    else
    (if (sw_op (nI o0).toNatClampNeg) = (5 : Int32) then
    (bd (fn_Co_hasRoutine σ a1) (fun r17 σ16 =>
    (if r17 = 0 ∨ r17 = 1 then some (r17, σ16) else none)))
    else
    (bd (fn_Op_jumps σ o0) (fun r21 σ20 =>
    (if r21 = 0 then
    (if (1 : Int32) = 0 ∨ (1 : Int32) = 1 then some ((1 : Int32), σ20) else none)
    else
    (bd (fn_Co_hasInstruction σ20 a1) (fun r24 σ23 =>
    (if r24 = 0 then
    (if (0 : Int32) = 0 ∨ (0 : Int32) = 1 then some ((0 : Int32), σ23) else none)
    else
    (if (1 : Int32) = 0 ∨ (1 : Int32) = 1 then some ((1 : Int32), σ23) else none)))))))))))
set_option maxRecDepth 100000 in
set_option maxHeartbeats 40000000 in
theorem c_Co_numberFits (l : Launch) (D : va_G) (ca : Nat → ClassId) (ax : Nat → Nat → Nat) (b : Nat) (σ : mm_M) (o0 : Nat) (a1 : Int32) (a2 : Int32) (ho0 : o0 < 20) {r : Int32} {σ' : mm_M} (hf : fn_Co_numberFits σ o0 a1 a2 = some (r, σ')) : Met l y_Co_numberFits w_Co_numberFits rm_Co_numberFits (pc_w D cls b N_C (ce_C ca b) (kC D ca ax b) [.ref (b + 1), .ref (ax 0 o0), .int a1, .int a2] σ) (qc_i D cls b N_C (ce_C ca b) r σ') 0 0 (mm_A b N_C) := by
  refine vv_go (cc := b_Co_numberFits) (maxL := 4) (ret := (some .boolean)) (fin := (r, σ')) (k := fn_Co_numberFits σ o0 a1 a2) (by decide) rfl (by simp [Value.category]) (Nat.le_of_ble_eq_true rfl) hf ?_
  intro p e s m below meth c hlocks hret S hKK
  unfold fn_Co_numberFits
  refine v_gets S (kc_zOp hKK) (S.2.2.2.2 _ (List.mem_cons_of_mem _ (wd_251))) (fun _ h => h) d_Co_numberFits_0 ?_
  refine v_aload_n S d_Co_numberFits_3 rfl rfl ?_
  refine v_ordO (rest := [.ref (ax 3 0)]) S hKK ho0 (k_Co_93 S.2.2.2.2 (fun _ => List.mem_cons_of_mem _) ⟨Nat.le_of_ble_eq_true rfl, Nat.le_of_ble_eq_true rfl⟩) (by simp [Value.category]) d_Co_numberFits_4 ?_
  refine v_ti0 S (kc_swOp hKK) d_Co_numberFits_7 (fun h1 => ?_)
  refine v_tsw S (1 : Int32) (tgt := 44) d_Co_numberFits_8 (by decide) (by decide) (off := 36) rfl (by decide) (fun h2 => ?_) (fun h2 => ?_)
  · refine v_iload_n S d_Co_numberFits_44 rfl rfl ?_
    refine v_ci (rest := []) (fun _ _ hg H locs ls hsz hP hS => run_SN (As := [.int a1]) (rest := []) S kC_ok hKK (c_FV_isLocal l D ca ax b σ a1 hg) (k_nest hKK S.2.2.2.2 (fun _ => List.mem_cons_of_mem _) ⟨Nat.le_of_ble_eq_true rfl, Nat.le_of_ble_eq_true rfl⟩) rfl rfl (Nat.zero_le _) d_Co_numberFits_45 hsz hP hS) (fun r4 σ3 _ => ?_)
    refine v_if_eq S d_Co_numberFits_48 (tgt := 73) (by decide) (fun h5 => ?_) (fun h5 => ?_)
    · refine v_iconst S d_Co_numberFits_73 (v := (0 : Int32)) (by decide) ?_
      exact v_zret S hret hlocks d_Co_numberFits_74
    · refine v_iload_n S d_Co_numberFits_51 rfl rfl ?_
      refine v_iload_n S d_Co_numberFits_52 rfl rfl ?_
      refine v_ci (rest := []) (fun _ _ hg H locs ls hsz hP hS => run_S (As := [.int a2, .int a1]) (rest := []) S kC_ok hKK (c_Ty_at l D ca ax b σ3 a2 a1 hg) (k_Co_97 S.2.2.2.2 (fun _ => List.mem_cons_of_mem _) ⟨Nat.le_of_ble_eq_true rfl, Nat.le_of_ble_eq_true rfl⟩) rfl rfl (Nat.zero_le _) d_Co_numberFits_53 hsz hP hS) (fun r7 σ6 _ => ?_)
      refine v_iconst S d_Co_numberFits_56 (v := (1 : Int32)) (by decide) ?_
      refine v_icmp_eq S d_Co_numberFits_57 (tgt := 69) (by decide) (fun h8 => ?_) (fun h8 => ?_)
      · refine v_iconst S d_Co_numberFits_69 (v := (1 : Int32)) (by decide) ?_
        refine v_goto S d_Co_numberFits_70 (tgt := 74) (by decide) ?_
        exact v_zret S hret hlocks d_Co_numberFits_74
      · refine v_iload_n S d_Co_numberFits_60 rfl rfl ?_
        refine v_iload_n S d_Co_numberFits_61 rfl rfl ?_
        refine v_ci (rest := []) (fun _ _ hg H locs ls hsz hP hS => run_S (As := [.int a2, .int a1]) (rest := []) S kC_ok hKK (c_Ty_at l D ca ax b σ6 a2 a1 hg) (k_Co_97 S.2.2.2.2 (fun _ => List.mem_cons_of_mem _) ⟨Nat.le_of_ble_eq_true rfl, Nat.le_of_ble_eq_true rfl⟩) rfl rfl (Nat.zero_le _) d_Co_numberFits_62 hsz hP hS) (fun r10 σ9 _ => ?_)
        refine v_iconst S d_Co_numberFits_65 (v := (2 : Int32)) (by decide) ?_
        refine v_icmp_ne S d_Co_numberFits_66 (tgt := 73) (by decide) (fun h11 => ?_) (fun h11 => ?_)
        · refine v_iconst S d_Co_numberFits_73 (v := (0 : Int32)) (by decide) ?_
          exact v_zret S hret hlocks d_Co_numberFits_74
        · refine v_iconst S d_Co_numberFits_69 (v := (1 : Int32)) (by decide) ?_
          refine v_goto S d_Co_numberFits_70 (tgt := 74) (by decide) ?_
          exact v_zret S hret hlocks d_Co_numberFits_74
  · refine v_tsw S (2 : Int32) (tgt := 75) d_Co_numberFits_8 (by decide) (by decide) (off := 67) rfl (by decide) (fun h12 => ?_) (fun h12 => ?_)
    · refine v_iload_n S d_Co_numberFits_75 rfl rfl ?_
      refine v_ci (rest := []) (fun _ _ hg H locs ls hsz hP hS => run_SN (As := [.int a1]) (rest := []) S kC_ok hKK (c_FV_isLocal l D ca ax b σ a1 hg) (k_nest hKK S.2.2.2.2 (fun _ => List.mem_cons_of_mem _) ⟨Nat.le_of_ble_eq_true rfl, Nat.le_of_ble_eq_true rfl⟩) rfl rfl (Nat.zero_le _) d_Co_numberFits_76 hsz hP hS) (fun r14 σ13 _ => ?_)
      exact v_zret S hret hlocks d_Co_numberFits_79
    · refine v_tsw S (5 : Int32) (tgt := 80) d_Co_numberFits_8 (by decide) (by decide) (off := 72) rfl (by decide) (fun h15 => ?_) (fun h15 => ?_)
      · refine v_aload_n S d_Co_numberFits_80 rfl rfl ?_
        refine v_iload_n S d_Co_numberFits_81 rfl rfl ?_
        refine v_ci (rest := []) (fun _ _ hg H locs ls hsz hP hS => run_V (As := [.int a1]) (rest := []) S kC_ok hKK (c_Co_hasRoutine l D ca ax b σ a1 hg) (k_Co_112 S.2.2.2.2 (fun _ => List.mem_cons_of_mem _) ⟨Nat.le_of_ble_eq_true rfl, Nat.le_of_ble_eq_true rfl⟩) (rc_w hKK.1 hP 1 (by decide) rfl rfl) rfl rfl (Nat.zero_le _) d_Co_numberFits_82 hsz hP hS) (fun r17 σ16 _ => ?_)
        exact v_zret S hret hlocks d_Co_numberFits_85
      · refine v_tswQ S (3 : Int32) (tgt := 86) d_Co_numberFits_8 (by decide) (by decide) (off := 78) rfl (by decide) ?_ (fun h18 => ?_)
        · refine v_aload_n S d_Co_numberFits_86 rfl rfl ?_
          refine v_ci (rest := []) (fun _ _ hg H locs ls hsz hP hS => run_V (As := []) (rest := []) S kC_ok hKK (c_Op_jumps l D ca ax b σ o0 ho0 hg) (k_Co_115 S.2.2.2.2 (fun _ => List.mem_cons_of_mem _) ⟨Nat.le_of_ble_eq_true rfl, Nat.le_of_ble_eq_true rfl⟩) (rc_op hKK ho0 hS) rfl rfl (Nat.zero_le _) d_Co_numberFits_87 hsz hP hS) (fun r21 σ20 _ => ?_)
          refine v_if_eq S d_Co_numberFits_90 (tgt := 101) (by decide) (fun h22 => ?_) (fun h22 => ?_)
          · refine v_iconst S d_Co_numberFits_101 (v := (1 : Int32)) (by decide) ?_
            refine v_goto S d_Co_numberFits_102 (tgt := 106) (by decide) ?_
            exact v_zret S hret hlocks d_Co_numberFits_106
          · refine v_aload_n S d_Co_numberFits_93 rfl rfl ?_
            refine v_iload_n S d_Co_numberFits_94 rfl rfl ?_
            refine v_ci (rest := []) (fun _ _ hg H locs ls hsz hP hS => run_V (As := [.int a1]) (rest := []) S kC_ok hKK (c_Co_hasInstruction l D ca ax b σ20 a1 hg) (k_Co_63 S.2.2.2.2 (fun _ => List.mem_cons_of_mem _) ⟨Nat.le_of_ble_eq_true rfl, Nat.le_of_ble_eq_true rfl⟩) (rc_w hKK.1 hP 1 (by decide) rfl rfl) rfl rfl (Nat.zero_le _) d_Co_numberFits_95 hsz hP hS) (fun r24 σ23 _ => ?_)
            refine v_if_eq S d_Co_numberFits_98 (tgt := 105) (by decide) (fun h25 => ?_) (fun h25 => ?_)
            · refine v_iconst S d_Co_numberFits_105 (v := (0 : Int32)) (by decide) ?_
              exact v_zret S hret hlocks d_Co_numberFits_106
            · refine v_iconst S d_Co_numberFits_101 (v := (1 : Int32)) (by decide) ?_
              refine v_goto S d_Co_numberFits_102 (tgt := 106) (by decide) ?_
              exact v_zret S hret hlocks d_Co_numberFits_106
        · refine v_tswQ S (4 : Int32) (tgt := 86) d_Co_numberFits_8 (by decide) (by decide) (off := 78) rfl (by decide) ?_ (fun h19 => ?_)
          · refine v_aload_n S d_Co_numberFits_86 rfl rfl ?_
            refine v_ci (rest := []) (fun _ _ hg H locs ls hsz hP hS => run_V (As := []) (rest := []) S kC_ok hKK (c_Op_jumps l D ca ax b σ o0 ho0 hg) (k_Co_115 S.2.2.2.2 (fun _ => List.mem_cons_of_mem _) ⟨Nat.le_of_ble_eq_true rfl, Nat.le_of_ble_eq_true rfl⟩) (rc_op hKK ho0 hS) rfl rfl (Nat.zero_le _) d_Co_numberFits_87 hsz hP hS) (fun r21 σ20 _ => ?_)
            refine v_if_eq S d_Co_numberFits_90 (tgt := 101) (by decide) (fun h22 => ?_) (fun h22 => ?_)
            · refine v_iconst S d_Co_numberFits_101 (v := (1 : Int32)) (by decide) ?_
              refine v_goto S d_Co_numberFits_102 (tgt := 106) (by decide) ?_
              exact v_zret S hret hlocks d_Co_numberFits_106
            · refine v_aload_n S d_Co_numberFits_93 rfl rfl ?_
              refine v_iload_n S d_Co_numberFits_94 rfl rfl ?_
              refine v_ci (rest := []) (fun _ _ hg H locs ls hsz hP hS => run_V (As := [.int a1]) (rest := []) S kC_ok hKK (c_Co_hasInstruction l D ca ax b σ20 a1 hg) (k_Co_63 S.2.2.2.2 (fun _ => List.mem_cons_of_mem _) ⟨Nat.le_of_ble_eq_true rfl, Nat.le_of_ble_eq_true rfl⟩) (rc_w hKK.1 hP 1 (by decide) rfl rfl) rfl rfl (Nat.zero_le _) d_Co_numberFits_95 hsz hP hS) (fun r24 σ23 _ => ?_)
              refine v_if_eq S d_Co_numberFits_98 (tgt := 105) (by decide) (fun h25 => ?_) (fun h25 => ?_)
              · refine v_iconst S d_Co_numberFits_105 (v := (0 : Int32)) (by decide) ?_
                exact v_zret S hret hlocks d_Co_numberFits_106
              · refine v_iconst S d_Co_numberFits_101 (v := (1 : Int32)) (by decide) ?_
                refine v_goto S d_Co_numberFits_102 (tgt := 106) (by decide) ?_
                exact v_zret S hret hlocks d_Co_numberFits_106
          · refine v_tswD S (tgt := 86) d_Co_numberFits_8 (by have nh2 := i32_ne (n := 1) h2 (by decide); have nh12 := i32_ne (n := 2) h12 (by decide); have nh15 := i32_ne (n := 5) h15 (by decide); have nh18 := i32_ne (n := 3) h18 (by decide); have nh19 := i32_ne (n := 4) h19 (by decide); omega) (by decide) ?_
            refine v_aload_n S d_Co_numberFits_86 rfl rfl ?_
            refine v_ci (rest := []) (fun _ _ hg H locs ls hsz hP hS => run_V (As := []) (rest := []) S kC_ok hKK (c_Op_jumps l D ca ax b σ o0 ho0 hg) (k_Co_115 S.2.2.2.2 (fun _ => List.mem_cons_of_mem _) ⟨Nat.le_of_ble_eq_true rfl, Nat.le_of_ble_eq_true rfl⟩) (rc_op hKK ho0 hS) rfl rfl (Nat.zero_le _) d_Co_numberFits_87 hsz hP hS) (fun r21 σ20 _ => ?_)
            refine v_if_eq S d_Co_numberFits_90 (tgt := 101) (by decide) (fun h22 => ?_) (fun h22 => ?_)
            · refine v_iconst S d_Co_numberFits_101 (v := (1 : Int32)) (by decide) ?_
              refine v_goto S d_Co_numberFits_102 (tgt := 106) (by decide) ?_
              exact v_zret S hret hlocks d_Co_numberFits_106
            · refine v_aload_n S d_Co_numberFits_93 rfl rfl ?_
              refine v_iload_n S d_Co_numberFits_94 rfl rfl ?_
              refine v_ci (rest := []) (fun _ _ hg H locs ls hsz hP hS => run_V (As := [.int a1]) (rest := []) S kC_ok hKK (c_Co_hasInstruction l D ca ax b σ20 a1 hg) (k_Co_63 S.2.2.2.2 (fun _ => List.mem_cons_of_mem _) ⟨Nat.le_of_ble_eq_true rfl, Nat.le_of_ble_eq_true rfl⟩) (rc_w hKK.1 hP 1 (by decide) rfl rfl) rfl rfl (Nat.zero_le _) d_Co_numberFits_95 hsz hP hS) (fun r24 σ23 _ => ?_)
              refine v_if_eq S d_Co_numberFits_98 (tgt := 105) (by decide) (fun h25 => ?_) (fun h25 => ?_)
              · refine v_iconst S d_Co_numberFits_105 (v := (0 : Int32)) (by decide) ?_
                exact v_zret S hret hlocks d_Co_numberFits_106
              · refine v_iconst S d_Co_numberFits_101 (v := (1 : Int32)) (by decide) ?_
                refine v_goto S d_Co_numberFits_102 (tgt := 106) (by decide) ?_
                exact v_zret S hret hlocks d_Co_numberFits_106
def fn_Co_takenCount (σ : mm_M) (o0 : Nat) (a1 : Int32) : Option (Int32 × mm_M) :=
    (if o0 = 18 then
    (if (a1 < 0 ∨ 4 ≤ a1.toNatClampNeg) then none else
    (some ((σ 6 a1.toNatClampNeg), σ)))
    else
    (some ((st_len o0), σ)))
set_option maxRecDepth 100000 in
set_option maxHeartbeats 40000000 in
theorem c_Co_takenCount (l : Launch) (D : va_G) (ca : Nat → ClassId) (ax : Nat → Nat → Nat) (b : Nat) (σ : mm_M) (o0 : Nat) (a1 : Int32) (ho0 : o0 < 20) {r : Int32} {σ' : mm_M} (hf : fn_Co_takenCount σ o0 a1 = some (r, σ')) : Met l y_Co_takenCount w_Co_takenCount rm_Co_takenCount (pc_w D cls b N_C (ce_C ca b) (kC D ca ax b) [.ref (b + 1), .ref (ax 0 o0), .int a1] σ) (qc_i D cls b N_C (ce_C ca b) r σ') 0 0 (mm_A b N_C) := by
  refine vv_go (cc := b_Co_takenCount) (maxL := 3) (ret := (some .int)) (fin := (r, σ')) (k := fn_Co_takenCount σ o0 a1) (by decide) rfl (by simp [Value.category]) (Nat.le_of_ble_eq_true rfl) hf ?_
  intro p e s m below meth c hlocks hret S hKK
  unfold fn_Co_takenCount
  refine v_aload_n S d_Co_takenCount_0 rfl rfl ?_
  refine v_gets S (kc_zO hKK (i := 18) (by decide)) (S.2.2.2.2 _ (List.mem_cons_of_mem _ (wd_282))) (fun _ h => h) d_Co_takenCount_1 ?_
  refine v_acmp_ne S d_Co_takenCount_4 (tgt := 16) (by decide) (op_inj hKK ho0 (by decide)) (fun h1 => ?_) (fun h1 => ?_)
  · refine v_aload_n S d_Co_takenCount_16 rfl rfl ?_
    refine v_of S (kc_fT hKK ho0) (S.2.2.2.2 _ (List.mem_cons_of_mem _ (wd_988))) (fun _ h => h) d_Co_takenCount_17 ?_
    refine v_strLen (rest := []) S hKK ho0 (k_Co_127 S.2.2.2.2 (fun _ => List.mem_cons_of_mem _) ⟨Nat.le_of_ble_eq_true rfl, Nat.le_of_ble_eq_true rfl⟩) (Nat.zero_le _) d_Co_takenCount_20 ?_
    exact v_iret S hret hlocks d_Co_takenCount_23
  · refine v_aload_n S d_Co_takenCount_7 rfl rfl ?_
    refine v_get S (fun w h => List.mem_cons_of_mem _ (i_Co w h)) hKK.1 1 (by decide) rfl rfl 5 (by decide) (S.2.2.2.2 _ (List.mem_cons_of_mem _ (wd_47))) (fun _ h => h) rfl d_Co_takenCount_8 ?_
    refine v_iload_n S d_Co_takenCount_11 rfl rfl ?_
    refine v_iald S hKK.1 6 0 (by decide) rfl rfl d_Co_takenCount_12 (fun h2 => ?_)
    refine v_goto S d_Co_takenCount_13 (tgt := 23) (by decide) ?_
    exact v_iret S hret hlocks d_Co_takenCount_23
def fn_Op_wanted (σ : mm_M) (o : Nat) (a0 : Int32) : Option (Int32 × mm_M) :=
    (if ((((st_len o) - (1 : Int32)) - a0) < 0 ∨ st_n o ≤ (((st_len o) - (1 : Int32)) - a0).toNatClampNeg) then none else
    (nm (st_at o (((st_len o) - (1 : Int32)) - a0).toNatClampNeg) (fun x2 =>
    (if x2 = (105 : Int32) then
    (some ((1 : Int32), σ))
    else
    (if x2 = (114 : Int32) then
    (some ((2 : Int32), σ))
    else
    (some ((3 : Int32), σ)))))))
set_option maxRecDepth 100000 in
set_option maxHeartbeats 40000000 in
theorem c_Op_wanted (l : Launch) (D : va_G) (ca : Nat → ClassId) (ax : Nat → Nat → Nat) (b : Nat) (σ : mm_M) (o : Nat) (a0 : Int32) (ho : o < 20) {r : Int32} {σ' : mm_M} (hf : fn_Op_wanted σ o a0 = some (r, σ')) : Met l y_Op_wanted w_Op_wanted rm_Op_wanted (pc_w D cls b N_C (ce_C ca b) (kC D ca ax b) [.ref (ax 0 o), .int a0] σ) (qc_i D cls b N_C (ce_C ca b) r σ') 0 0 (mm_A b N_C) := by
  refine vv_go (cc := b_Op_wanted) (maxL := 3) (ret := (some .int)) (fin := (r, σ')) (k := fn_Op_wanted σ o a0) (by decide) rfl (by simp [Value.category]) (Nat.le_of_ble_eq_true rfl) hf ?_
  intro p e s m below meth c hlocks hret S hKK
  unfold fn_Op_wanted
  refine v_aload_n S d_Op_wanted_0 rfl rfl ?_
  refine v_of S (kc_fT hKK ho) (S.2.2.2.2 _ (List.mem_cons_of_mem _ (wd_991))) (fun _ h => h) d_Op_wanted_1 ?_
  refine v_aload_n S d_Op_wanted_4 rfl rfl ?_
  refine v_of S (kc_fT hKK ho) (S.2.2.2.2 _ (List.mem_cons_of_mem _ (wd_991))) (fun _ h => h) d_Op_wanted_5 ?_
  refine v_strLen (rest := [.ref (ax 5 (st_of o))]) S hKK ho (k_Op_97 S.2.2.2.2 (fun _ => List.mem_cons_of_mem _) ⟨Nat.le_of_ble_eq_true rfl, Nat.le_of_ble_eq_true rfl⟩) (by simp [Value.category]) d_Op_wanted_8 ?_
  refine v_iconst S d_Op_wanted_11 (v := (1 : Int32)) (by decide) ?_
  refine v_isub S d_Op_wanted_12 ?_
  refine v_iload_n S d_Op_wanted_13 rfl rfl ?_
  refine v_isub S d_Op_wanted_14 ?_
  refine v_strAt (rest := []) S hKK ho (k_Op_103 S.2.2.2.2 (fun _ => List.mem_cons_of_mem _) ⟨Nat.le_of_ble_eq_true rfl, Nat.le_of_ble_eq_true rfl⟩) (Nat.zero_le _) d_Op_wanted_15 (fun h1 => ?_)
  refine v_top (fun x2 ex2 => ?_)
  refine v_istore_nP S d_Op_wanted_18 rfl (by decide) (L2 := [some (.ref (ax 0 o)), some (.int a0), some (.int x2)]) rfl ?_
  refine v_iload_n S d_Op_wanted_19 rfl rfl ?_
  refine v_bipush S d_Op_wanted_20 (v := (105 : Int32)) (by decide) ?_
  refine v_icmp_ne S d_Op_wanted_22 (tgt := 27) (by decide) (fun h3 => ?_) (fun h3 => ?_)
  · refine v_iload_n S d_Op_wanted_27 rfl rfl ?_
    refine v_bipush S d_Op_wanted_28 (v := (114 : Int32)) (by decide) ?_
    refine v_icmp_ne S d_Op_wanted_30 (tgt := 37) (by decide) (fun h4 => ?_) (fun h4 => ?_)
    · refine v_iconst S d_Op_wanted_37 (v := (3 : Int32)) (by decide) ?_
      exact v_iret S hret hlocks d_Op_wanted_38
    · refine v_iconst S d_Op_wanted_33 (v := (2 : Int32)) (by decide) ?_
      refine v_goto S d_Op_wanted_34 (tgt := 38) (by decide) ?_
      exact v_iret S hret hlocks d_Op_wanted_38
  · refine v_iconst S d_Op_wanted_25 (v := (1 : Int32)) (by decide) ?_
    exact v_iret S hret hlocks d_Op_wanted_26
end
section
/-! contracts of 08.code; written by wip/whole/make.py -/
def fn_Co_wantedBelow (σ : mm_M) (a0 : Int32) (o1 : Nat) (a2 : Int32) (a3 : Int32) : Option (Int32 × mm_M) :=
    (if ((nI o1) < 0 ∨ 20 ≤ (nI o1).toNatClampNeg) then none else
    (if (sw_op (nI o1).toNatClampNeg) = (5 : Int32) then
    (if (a2 < 0 ∨ 4 ≤ a2.toNatClampNeg) then none else
    (bd (fn_Co_kindOf σ a2 (((σ 6 a2.toNatClampNeg) - (1 : Int32)) - a3)) (fun r5 σ4 =>
    (some (r5, σ4)))))
    else
    (if (sw_op (nI o1).toNatClampNeg) = (6 : Int32) then
    (bd (fn_Co_kindOf σ a0 (3 : Int32)) (fun r8 σ7 =>
    (some (r8, σ7))))
    else
    (bd (fn_Op_wanted σ o1 a3) (fun r10 σ9 =>
    (some (r10, σ9)))))))
set_option maxRecDepth 100000 in
set_option maxHeartbeats 40000000 in
theorem c_Co_wantedBelow (l : Launch) (D : va_G) (ca : Nat → ClassId) (ax : Nat → Nat → Nat) (b : Nat) (σ : mm_M) (a0 : Int32) (o1 : Nat) (a2 : Int32) (a3 : Int32) (ho1 : o1 < 20) {r : Int32} {σ' : mm_M} (hf : fn_Co_wantedBelow σ a0 o1 a2 a3 = some (r, σ')) : Met l y_Co_wantedBelow w_Co_wantedBelow rm_Co_wantedBelow (pc_w D cls b N_C (ce_C ca b) (kC D ca ax b) [.ref (b + 1), .int a0, .ref (ax 0 o1), .int a2, .int a3] σ) (qc_i D cls b N_C (ce_C ca b) r σ') 0 0 (mm_A b N_C) := by
  refine vv_go (cc := b_Co_wantedBelow) (maxL := 5) (ret := (some .int)) (fin := (r, σ')) (k := fn_Co_wantedBelow σ a0 o1 a2 a3) (by decide) rfl (by simp [Value.category]) (Nat.le_of_ble_eq_true rfl) hf ?_
  intro p e s m below meth c hlocks hret S hKK
  unfold fn_Co_wantedBelow
  refine v_gets S (kc_zOp hKK) (S.2.2.2.2 _ (List.mem_cons_of_mem _ (wd_251))) (fun _ h => h) d_Co_wantedBelow_0 ?_
  refine v_aload_n S d_Co_wantedBelow_3 rfl rfl ?_
  refine v_ordO (rest := [.ref (ax 3 0)]) S hKK ho1 (k_Co_93 S.2.2.2.2 (fun _ => List.mem_cons_of_mem _) ⟨Nat.le_of_ble_eq_true rfl, Nat.le_of_ble_eq_true rfl⟩) (by simp [Value.category]) d_Co_wantedBelow_4 ?_
  refine v_ti0 S (kc_swOp hKK) d_Co_wantedBelow_7 (fun h1 => ?_)
  refine v_lsw S (5 : Int32) (tgt := 36) d_Co_wantedBelow_8 (by decide) (off := 28) (by decide) (by decide) (fun h2 => ?_) (fun h2 => ?_)
  · refine v_aload_n S d_Co_wantedBelow_36 rfl rfl ?_
    refine v_iload_n S d_Co_wantedBelow_37 rfl rfl ?_
    refine v_aload_n S d_Co_wantedBelow_38 rfl rfl ?_
    refine v_get S (fun w h => List.mem_cons_of_mem _ (i_Co w h)) hKK.1 1 (by decide) rfl rfl 5 (by decide) (S.2.2.2.2 _ (List.mem_cons_of_mem _ (wd_47))) (fun _ h => h) rfl d_Co_wantedBelow_39 ?_
    refine v_iload_n S d_Co_wantedBelow_42 rfl rfl ?_
    refine v_iald S hKK.1 6 0 (by decide) rfl rfl d_Co_wantedBelow_43 (fun h3 => ?_)
    refine v_iconst S d_Co_wantedBelow_44 (v := (1 : Int32)) (by decide) ?_
    refine v_isub S d_Co_wantedBelow_45 ?_
    refine v_iload S d_Co_wantedBelow_46 rfl ?_
    refine v_isub S d_Co_wantedBelow_48 ?_
    refine v_ci (rest := []) (fun _ _ hg H locs ls hsz hP hS => run_V (As := [.int a2, .int (((σ 6 a2.toNatClampNeg) - (1 : Int32)) - a3)]) (rest := []) S kC_ok hKK (c_Co_kindOf l D ca ax b σ a2 (((σ 6 a2.toNatClampNeg) - (1 : Int32)) - a3) hg) (k_Co_41 S.2.2.2.2 (fun _ => List.mem_cons_of_mem _) ⟨Nat.le_of_ble_eq_true rfl, Nat.le_of_ble_eq_true rfl⟩) (rc_w hKK.1 hP 1 (by decide) rfl rfl) rfl rfl (Nat.zero_le _) d_Co_wantedBelow_49 hsz hP hS) (fun r5 σ4 _ => ?_)
    exact v_iret S hret hlocks d_Co_wantedBelow_52
  · refine v_lsw S (6 : Int32) (tgt := 53) d_Co_wantedBelow_8 (by decide) (off := 45) (by decide) (by decide) (fun h6 => ?_) (fun h6 => ?_)
    · refine v_aload_n S d_Co_wantedBelow_53 rfl rfl ?_
      refine v_iload_n S d_Co_wantedBelow_54 rfl rfl ?_
      refine v_iconst S d_Co_wantedBelow_55 (v := (3 : Int32)) (by decide) ?_
      refine v_ci (rest := []) (fun _ _ hg H locs ls hsz hP hS => run_V (As := [.int a0, .int (3 : Int32)]) (rest := []) S kC_ok hKK (c_Co_kindOf l D ca ax b σ a0 (3 : Int32) hg) (k_Co_41 S.2.2.2.2 (fun _ => List.mem_cons_of_mem _) ⟨Nat.le_of_ble_eq_true rfl, Nat.le_of_ble_eq_true rfl⟩) (rc_w hKK.1 hP 1 (by decide) rfl rfl) rfl rfl (Nat.zero_le _) d_Co_wantedBelow_56 hsz hP hS) (fun r8 σ7 _ => ?_)
      exact v_iret S hret hlocks d_Co_wantedBelow_59
    · refine v_lswD S (tgt := 60) d_Co_wantedBelow_8 (by decide) (by rw [lv_osw h2 (by decide)]; rw [lv_osw h6 (by decide)]; rfl) (by decide) ?_
      refine v_aload_n S d_Co_wantedBelow_60 rfl rfl ?_
      refine v_iload S d_Co_wantedBelow_61 rfl ?_
      refine v_ci (rest := []) (fun _ _ hg H locs ls hsz hP hS => run_V (As := [.int a3]) (rest := []) S kC_ok hKK (c_Op_wanted l D ca ax b σ o1 a3 ho1 hg) (k_Co_136 S.2.2.2.2 (fun _ => List.mem_cons_of_mem _) ⟨Nat.le_of_ble_eq_true rfl, Nat.le_of_ble_eq_true rfl⟩) (rc_op hKK ho1 hS) rfl rfl (Nat.zero_le _) d_Co_wantedBelow_63 hsz hP hS) (fun r10 σ9 _ => ?_)
      exact v_iret S hret hlocks d_Co_wantedBelow_66
def fn_Co_takenFits_23 (a0 : Int32) (o1 : Nat) (a2 : Int32) (a3 : Int32) : Nat → mm_M → Int32 → Int32 → Option (Int32 × mm_M)
  | 0, _, _, _ => none
  | n + 1, σ, l5, l6 =>
    (if l5 ≤ l6 then
    (if (1 : Int32) = 0 ∨ (1 : Int32) = 1 then some ((1 : Int32), σ) else none)
    else
    (bd (fn_Co_wantedBelow σ a0 o1 a2 l6) (fun r8 σ7 =>
    (if r8 = (3 : Int32) then
    (fn_Co_takenFits_23 a0 o1 a2 a3 n σ7 l5 (l6 + (1 : Int32)))
    else
    (bd (fn_Ty_below σ7 a3 l6) (fun r12 σ11 =>
    (if r8 = r12 then
    (fn_Co_takenFits_23 a0 o1 a2 a3 n σ11 l5 (l6 + (1 : Int32)))
    else
    (if (0 : Int32) = 0 ∨ (0 : Int32) = 1 then some ((0 : Int32), σ11) else none))))))))
def fn_Co_takenFits (σ : mm_M) (a0 : Int32) (o1 : Nat) (a2 : Int32) (a3 : Int32) : Option (Int32 × mm_M) :=
    (bd (fn_Co_takenCount σ o1 a2) (fun r2 σ1 =>
    (bd (fn_Ty_height σ1 a3) (fun r4 σ3 =>
    (if r2 ≤ r4 then
    (fn_Co_takenFits_23 a0 o1 a2 a3 fuel0 σ3 r2 (0 : Int32))
    else
    (if (0 : Int32) = 0 ∨ (0 : Int32) = 1 then some ((0 : Int32), σ3) else none))))))
set_option maxRecDepth 100000 in
set_option maxHeartbeats 40000000 in
theorem c_Co_takenFits (l : Launch) (D : va_G) (ca : Nat → ClassId) (ax : Nat → Nat → Nat) (b : Nat) (σ : mm_M) (a0 : Int32) (o1 : Nat) (a2 : Int32) (a3 : Int32) (ho1 : o1 < 20) {r : Int32} {σ' : mm_M} (hf : fn_Co_takenFits σ a0 o1 a2 a3 = some (r, σ')) : Met l y_Co_takenFits w_Co_takenFits rm_Co_takenFits (pc_w D cls b N_C (ce_C ca b) (kC D ca ax b) [.ref (b + 1), .int a0, .ref (ax 0 o1), .int a2, .int a3] σ) (qc_i D cls b N_C (ce_C ca b) r σ') 0 0 (mm_A b N_C) := by
  refine vv_go (cc := b_Co_takenFits) (maxL := 8) (ret := (some .boolean)) (fin := (r, σ')) (k := fn_Co_takenFits σ a0 o1 a2 a3) (by decide) rfl (by simp [Value.category]) (Nat.le_of_ble_eq_true rfl) hf ?_
  intro p e s m below meth c hlocks hret S hKK
  have C23 : ∀ (n : Nat) (σ : mm_M) (l5 : Int32) (l6 : Int32), vv p l e (headSpec w_Co_takenFits rm_Co_takenFits).room s m [.ref (b + 1), .int a0, .ref (ax 0 o1), .int a2, .int a3].toArray below meth c D cls b N_C (ce_C ca b) 8 (MQ below (qc_i D cls b N_C (ce_C ca b) r σ') [.ref (b + 1), .int a0, .ref (ax 0 o1), .int a2, .int a3].toArray s 0 0 (mm_A b N_C)) (r, σ') (fn_Co_takenFits_23 a0 o1 a2 a3 n σ l5 l6) σ 23 [some (.ref (b + 1)), some (.int a0), some (.ref (ax 0 o1)), some (.int a2), some (.int a3), some (.int l5), some (.int l6)] [] := by
    intro n
    induction n with
    | zero => intro σ l5 l6  h; cases h
    | succ n ih =>
      intro σ l5 l6
      show vv p l e (headSpec w_Co_takenFits rm_Co_takenFits).room s m [.ref (b + 1), .int a0, .ref (ax 0 o1), .int a2, .int a3].toArray below meth c D cls b N_C (ce_C ca b) 8 (MQ below (qc_i D cls b N_C (ce_C ca b) r σ') [.ref (b + 1), .int a0, .ref (ax 0 o1), .int a2, .int a3].toArray s 0 0 (mm_A b N_C)) (r, σ') (        (if l5 ≤ l6 then
        (if (1 : Int32) = 0 ∨ (1 : Int32) = 1 then some ((1 : Int32), σ) else none)
        else
        (bd (fn_Co_wantedBelow σ a0 o1 a2 l6) (fun r8 σ7 =>
        (if r8 = (3 : Int32) then
        (fn_Co_takenFits_23 a0 o1 a2 a3 n σ7 l5 (l6 + (1 : Int32)))
        else
        (bd (fn_Ty_below σ7 a3 l6) (fun r12 σ11 =>
        (if r8 = r12 then
        (fn_Co_takenFits_23 a0 o1 a2 a3 n σ11 l5 (l6 + (1 : Int32)))
        else
        (if (0 : Int32) = 0 ∨ (0 : Int32) = 1 then some ((0 : Int32), σ11) else none))))))))) σ 23 [some (.ref (b + 1)), some (.int a0), some (.ref (ax 0 o1)), some (.int a2), some (.int a3), some (.int l5), some (.int l6)] []
      refine v_iload S d_Co_takenFits_23 rfl ?_
      refine v_iload S d_Co_takenFits_25 rfl ?_
      refine v_icmp_ge S d_Co_takenFits_27 (tgt := 67) (by decide) (fun h6 => ?_) (fun h6 => ?_)
      · refine v_iconst S d_Co_takenFits_67 (v := (1 : Int32)) (by decide) ?_
        exact v_zret S hret hlocks d_Co_takenFits_68
      · refine v_aload_n S d_Co_takenFits_30 rfl rfl ?_
        refine v_iload_n S d_Co_takenFits_31 rfl rfl ?_
        refine v_aload_n S d_Co_takenFits_32 rfl rfl ?_
        refine v_iload_n S d_Co_takenFits_33 rfl rfl ?_
        refine v_iload S d_Co_takenFits_34 rfl ?_
        refine v_ci (rest := []) (fun _ _ hg H locs ls hsz hP hS => run_V (As := [.int a0, .ref (ax 0 o1), .int a2, .int l6]) (rest := []) S kC_ok hKK (c_Co_wantedBelow l D ca ax b σ a0 o1 a2 l6 ho1 hg) (k_Co_132 S.2.2.2.2 (fun _ => List.mem_cons_of_mem _) ⟨Nat.le_of_ble_eq_true rfl, Nat.le_of_ble_eq_true rfl⟩) (rc_w hKK.1 hP 1 (by decide) rfl rfl) rfl rfl (Nat.zero_le _) d_Co_takenFits_36 hsz hP hS) (fun r8 σ7 _ => ?_)
        refine v_istoreP S d_Co_takenFits_39 (by decide) (L2 := [some (.ref (b + 1)), some (.int a0), some (.ref (ax 0 o1)), some (.int a2), some (.int a3), some (.int l5), some (.int l6), some (.int r8)]) rfl ?_
        refine v_iload S d_Co_takenFits_41 rfl ?_
        refine v_iconst S d_Co_takenFits_43 (v := (3 : Int32)) (by decide) ?_
        refine v_icmp_eq S d_Co_takenFits_44 (tgt := 61) (by decide) (fun h9 => ?_) (fun h9 => ?_)
        · refine v_iinc S d_Co_takenFits_61 rfl (v := (l6 + (1 : Int32))) (by first | rfl | decide) (by decide) (L2 := [some (.ref (b + 1)), some (.int a0), some (.ref (ax 0 o1)), some (.int a2), some (.int a3), some (.int l5), some (.int (l6 + (1 : Int32))), some (.int r8)]) rfl ?_
          refine v_goto S d_Co_takenFits_64 (tgt := 23) (by decide) ?_
          refine v_sub (L2 := [some (.ref (b + 1)), some (.int a0), some (.ref (ax 0 o1)), some (.int a2), some (.int a3), some (.int l5), some (.int (l6 + (1 : Int32)))]) (And.intro rfl (And.intro rfl (And.intro rfl (And.intro rfl (And.intro rfl (And.intro rfl (And.intro rfl True.intro))))))) ?_
          exact ih σ7 l5 (l6 + (1 : Int32))
        · refine v_iload S d_Co_takenFits_47 rfl ?_
          refine v_iload S d_Co_takenFits_49 rfl ?_
          refine v_iload S d_Co_takenFits_51 rfl ?_
          refine v_ci (rest := [.int r8]) (fun _ _ hg H locs ls hsz hP hS => run_S (As := [.int a3, .int l6]) (rest := [.int r8]) S kC_ok hKK (c_Ty_below l D ca ax b σ7 a3 l6 hg) (k_Co_103 S.2.2.2.2 (fun _ => List.mem_cons_of_mem _) ⟨Nat.le_of_ble_eq_true rfl, Nat.le_of_ble_eq_true rfl⟩) rfl rfl (by simp [Value.category]) d_Co_takenFits_53 hsz hP hS) (fun r12 σ11 _ => ?_)
          refine v_icmp_eq S d_Co_takenFits_56 (tgt := 61) (by decide) (fun h13 => ?_) (fun h13 => ?_)
          · refine v_iinc S d_Co_takenFits_61 rfl (v := (l6 + (1 : Int32))) (by first | rfl | decide) (by decide) (L2 := [some (.ref (b + 1)), some (.int a0), some (.ref (ax 0 o1)), some (.int a2), some (.int a3), some (.int l5), some (.int (l6 + (1 : Int32))), some (.int r8)]) rfl ?_
            refine v_goto S d_Co_takenFits_64 (tgt := 23) (by decide) ?_
            refine v_sub (L2 := [some (.ref (b + 1)), some (.int a0), some (.ref (ax 0 o1)), some (.int a2), some (.int a3), some (.int l5), some (.int (l6 + (1 : Int32)))]) (And.intro rfl (And.intro rfl (And.intro rfl (And.intro rfl (And.intro rfl (And.intro rfl (And.intro rfl True.intro))))))) ?_
            exact ih σ11 l5 (l6 + (1 : Int32))
          · refine v_iconst S d_Co_takenFits_59 (v := (0 : Int32)) (by decide) ?_
            exact v_zret S hret hlocks d_Co_takenFits_60
  unfold fn_Co_takenFits
  refine v_aload_n S d_Co_takenFits_0 rfl rfl ?_
  refine v_aload_n S d_Co_takenFits_1 rfl rfl ?_
  refine v_iload_n S d_Co_takenFits_2 rfl rfl ?_
  refine v_ci (rest := []) (fun _ _ hg H locs ls hsz hP hS => run_V (As := [.ref (ax 0 o1), .int a2]) (rest := []) S kC_ok hKK (c_Co_takenCount l D ca ax b σ o1 a2 ho1 hg) (k_Co_81 S.2.2.2.2 (fun _ => List.mem_cons_of_mem _) ⟨Nat.le_of_ble_eq_true rfl, Nat.le_of_ble_eq_true rfl⟩) (rc_w hKK.1 hP 1 (by decide) rfl rfl) rfl rfl (Nat.zero_le _) d_Co_takenFits_3 hsz hP hS) (fun r2 σ1 _ => ?_)
  refine v_istoreP S d_Co_takenFits_6 (by decide) (L2 := [some (.ref (b + 1)), some (.int a0), some (.ref (ax 0 o1)), some (.int a2), some (.int a3), some (.int r2)]) rfl ?_
  refine v_iload S d_Co_takenFits_8 rfl ?_
  refine v_ci (rest := []) (fun _ _ hg H locs ls hsz hP hS => run_S (As := [.int a3]) (rest := []) S kC_ok hKK (c_Ty_height l D ca ax b σ1 a3 hg) (k_Co_77 S.2.2.2.2 (fun _ => List.mem_cons_of_mem _) ⟨Nat.le_of_ble_eq_true rfl, Nat.le_of_ble_eq_true rfl⟩) rfl rfl (Nat.zero_le _) d_Co_takenFits_10 hsz hP hS) (fun r4 σ3 _ => ?_)
  refine v_iload S d_Co_takenFits_13 rfl ?_
  refine v_icmp_ge S d_Co_takenFits_15 (tgt := 20) (by decide) (fun h5 => ?_) (fun h5 => ?_)
  · refine v_iconst S d_Co_takenFits_20 (v := (0 : Int32)) (by decide) ?_
    refine v_istoreP S d_Co_takenFits_21 (by decide) (L2 := [some (.ref (b + 1)), some (.int a0), some (.ref (ax 0 o1)), some (.int a2), some (.int a3), some (.int r2), some (.int (0 : Int32))]) rfl ?_
    refine v_sub (L2 := [some (.ref (b + 1)), some (.int a0), some (.ref (ax 0 o1)), some (.int a2), some (.int a3), some (.int r2), some (.int (0 : Int32))]) (And.intro rfl (And.intro rfl (And.intro rfl (And.intro rfl (And.intro rfl (And.intro rfl (And.intro rfl True.intro))))))) ?_
    exact C23 fuel0 σ3 r2 (0 : Int32)
  · refine v_iconst S d_Co_takenFits_18 (v := (0 : Int32)) (by decide) ?_
    exact v_zret S hret hlocks d_Co_takenFits_19
def fn_Co_after (σ : mm_M) (a0 : Int32) (a1 : Int32) : Option (Int32 × mm_M) :=
    (bd (fn_Co_opAt σ a0) (fun r2 σ1 =>
    (if (a0 < 0 ∨ 100 ≤ a0.toNatClampNeg) then none else
    (nm (σ1 3 a0.toNatClampNeg) (fun x5 =>
    (bd (fn_Co_takenCount σ1 r2 x5) (fun r7 σ6 =>
    (bd (fn_Ty_dropped σ6 a1 r7) (fun r9 σ8 =>
    (if ((nI r2) < 0 ∨ 20 ≤ (nI r2).toNatClampNeg) then none else
    (if (sw_op (nI r2).toNatClampNeg) = (1 : Int32) then
    (bd (fn_Ty_at σ8 a1 x5) (fun r13 σ12 =>
    (bd (fn_Ty_pushed σ12 r9 r13) (fun r15 σ14 =>
    (some (r15, σ14))))))
    else
    (if (sw_op (nI r2).toNatClampNeg) = (2 : Int32) then
    (bd (fn_Ty_below σ8 a1 (0 : Int32)) (fun r18 σ17 =>
    (bd (fn_Ty_with σ17 r9 x5 r18) (fun r20 σ19 =>
    (some (r20, σ19))))))
    else
    (if (sw_op (nI r2).toNatClampNeg) = (3 : Int32) then
    (bd (fn_Ty_below σ8 a1 (0 : Int32)) (fun r23 σ22 =>
    (bd (fn_Ty_pushed σ22 a1 r23) (fun r25 σ24 =>
    (some (r25, σ24))))))
    else
    (if (sw_op (nI r2).toNatClampNeg) = (4 : Int32) then
    (bd (fn_Ty_below σ8 a1 (0 : Int32)) (fun r28 σ27 =>
    (bd (fn_Ty_pushed σ27 r9 r28) (fun r30 σ29 =>
    (bd (fn_Ty_below σ29 a1 (1 : Int32)) (fun r32 σ31 =>
    (bd (fn_Ty_pushed σ31 r30 r32) (fun r34 σ33 =>
    (some (r34, σ33))))))))))
    else
    (if (sw_op (nI r2).toNatClampNeg) = (5 : Int32) then
    (bd (fn_Co_kindOf σ8 x5 (3 : Int32)) (fun r37 σ36 =>
    (bd (fn_Ty_pushed σ36 r9 r37) (fun r39 σ38 =>
    (some (r39, σ38))))))
    else
    (if (op_gives r2) = 0 then
    (some (r9, σ8))
    else
    (bd (fn_Ty_pushed σ8 r9 (op_gives r2)) (fun r42 σ41 =>
    (some (r42, σ41))))))))))))))))))))
set_option maxRecDepth 100000 in
set_option maxHeartbeats 40000000 in
theorem c_Co_after (l : Launch) (D : va_G) (ca : Nat → ClassId) (ax : Nat → Nat → Nat) (b : Nat) (σ : mm_M) (a0 : Int32) (a1 : Int32)  {r : Int32} {σ' : mm_M} (hf : fn_Co_after σ a0 a1 = some (r, σ')) : Met l y_Co_after w_Co_after rm_Co_after (pc_w D cls b N_C (ce_C ca b) (kC D ca ax b) [.ref (b + 1), .int a0, .int a1] σ) (qc_i D cls b N_C (ce_C ca b) r σ') 0 0 (mm_A b N_C) := by
  refine vv_go (cc := b_Co_after) (maxL := 6) (ret := (some .int)) (fin := (r, σ')) (k := fn_Co_after σ a0 a1) (by decide) rfl (by simp [Value.category]) (Nat.le_of_ble_eq_true rfl) hf ?_
  intro p e s m below meth c hlocks hret S hKK
  unfold fn_Co_after
  refine v_aload_n S d_Co_after_0 rfl rfl ?_
  refine v_iload_n S d_Co_after_1 rfl rfl ?_
  refine v_ca (ax 0) (rest := []) (fun _ _ hg H locs ls hsz hP hS => run_V (As := [.int a0]) (rest := []) S kC_ok hKK (c_Co_opAt l D ca ax b σ a0 hg) (k_Co_53 S.2.2.2.2 (fun _ => List.mem_cons_of_mem _) ⟨Nat.le_of_ble_eq_true rfl, Nat.le_of_ble_eq_true rfl⟩) (rc_w hKK.1 hP 1 (by decide) rfl rfl) rfl rfl (Nat.zero_le _) d_Co_after_2 hsz hP hS) (fun r2 σ1 g3 => ?_)
  refine v_astore_nP S d_Co_after_5 rfl (by decide) (L2 := [some (.ref (b + 1)), some (.int a0), some (.int a1), some (.ref (ax 0 r2))]) rfl ?_
  refine v_aload_n S d_Co_after_6 rfl rfl ?_
  refine v_get S (fun w h => List.mem_cons_of_mem _ (i_Co w h)) hKK.1 1 (by decide) rfl rfl 2 (by decide) (S.2.2.2.2 _ (List.mem_cons_of_mem _ (wd_44))) (fun _ h => h) rfl d_Co_after_7 ?_
  refine v_iload_n S d_Co_after_10 rfl rfl ?_
  refine v_iald S hKK.1 3 0 (by decide) rfl rfl d_Co_after_11 (fun h4 => ?_)
  refine v_top (fun x5 ex5 => ?_)
  refine v_istoreP S d_Co_after_12 (by decide) (L2 := [some (.ref (b + 1)), some (.int a0), some (.int a1), some (.ref (ax 0 r2)), some (.int x5)]) rfl ?_
  refine v_iload_n S d_Co_after_14 rfl rfl ?_
  refine v_aload_n S d_Co_after_15 rfl rfl ?_
  refine v_aload_n S d_Co_after_16 rfl rfl ?_
  refine v_iload S d_Co_after_17 rfl ?_
  refine v_ci (rest := [.int a1]) (fun _ _ hg H locs ls hsz hP hS => run_V (As := [.ref (ax 0 r2), .int x5]) (rest := [.int a1]) S kC_ok hKK (c_Co_takenCount l D ca ax b σ1 r2 x5 (rb_Co_opAt g3) hg) (k_Co_81 S.2.2.2.2 (fun _ => List.mem_cons_of_mem _) ⟨Nat.le_of_ble_eq_true rfl, Nat.le_of_ble_eq_true rfl⟩) (rc_w hKK.1 hP 1 (by decide) rfl rfl) rfl rfl (by simp [Value.category]) d_Co_after_19 hsz hP hS) (fun r7 σ6 _ => ?_)
  refine v_ci (rest := []) (fun _ _ hg H locs ls hsz hP hS => run_S (As := [.int a1, .int r7]) (rest := []) S kC_ok hKK (c_Ty_dropped l D ca ax b σ6 a1 r7 hg) (k_Co_85 S.2.2.2.2 (fun _ => List.mem_cons_of_mem _) ⟨Nat.le_of_ble_eq_true rfl, Nat.le_of_ble_eq_true rfl⟩) rfl rfl (Nat.zero_le _) d_Co_after_22 hsz hP hS) (fun r9 σ8 _ => ?_)
  refine v_istoreP S d_Co_after_25 (by decide) (L2 := [some (.ref (b + 1)), some (.int a0), some (.int a1), some (.ref (ax 0 r2)), some (.int x5), some (.int r9)]) rfl ?_
  refine v_gets S (kc_zOp hKK) (S.2.2.2.2 _ (List.mem_cons_of_mem _ (wd_251))) (fun _ h => h) d_Co_after_27 ?_
  refine v_aload_n S d_Co_after_30 rfl rfl ?_
  refine v_ordO (rest := [.ref (ax 3 0)]) S hKK (rb_Co_opAt g3) (k_Co_93 S.2.2.2.2 (fun _ => List.mem_cons_of_mem _) ⟨Nat.le_of_ble_eq_true rfl, Nat.le_of_ble_eq_true rfl⟩) (by simp [Value.category]) d_Co_after_31 ?_
  refine v_ti0 S (kc_swOp hKK) d_Co_after_34 (fun h10 => ?_)
  refine v_tsw S (1 : Int32) (tgt := 68) d_Co_after_35 (by decide) (by decide) (off := 33) rfl (by decide) (fun h11 => ?_) (fun h11 => ?_)
  · refine v_iload S d_Co_after_68 rfl ?_
    refine v_iload_n S d_Co_after_70 rfl rfl ?_
    refine v_iload S d_Co_after_71 rfl ?_
    refine v_ci (rest := [.int r9]) (fun _ _ hg H locs ls hsz hP hS => run_S (As := [.int a1, .int x5]) (rest := [.int r9]) S kC_ok hKK (c_Ty_at l D ca ax b σ8 a1 x5 hg) (k_Co_97 S.2.2.2.2 (fun _ => List.mem_cons_of_mem _) ⟨Nat.le_of_ble_eq_true rfl, Nat.le_of_ble_eq_true rfl⟩) rfl rfl (by simp [Value.category]) d_Co_after_73 hsz hP hS) (fun r13 σ12 _ => ?_)
    refine v_ci (rest := []) (fun _ _ hg H locs ls hsz hP hS => run_S (As := [.int r9, .int r13]) (rest := []) S kC_ok hKK (c_Ty_pushed l D ca ax b σ12 r9 r13 hg) (k_Co_100 S.2.2.2.2 (fun _ => List.mem_cons_of_mem _) ⟨Nat.le_of_ble_eq_true rfl, Nat.le_of_ble_eq_true rfl⟩) rfl rfl (Nat.zero_le _) d_Co_after_76 hsz hP hS) (fun r15 σ14 _ => ?_)
    exact v_iret S hret hlocks d_Co_after_79
  · refine v_tsw S (2 : Int32) (tgt := 80) d_Co_after_35 (by decide) (by decide) (off := 45) rfl (by decide) (fun h16 => ?_) (fun h16 => ?_)
    · refine v_iload S d_Co_after_80 rfl ?_
      refine v_iload S d_Co_after_82 rfl ?_
      refine v_iload_n S d_Co_after_84 rfl rfl ?_
      refine v_iconst S d_Co_after_85 (v := (0 : Int32)) (by decide) ?_
      refine v_ci (rest := [.int x5, .int r9]) (fun _ _ hg H locs ls hsz hP hS => run_S (As := [.int a1, .int (0 : Int32)]) (rest := [.int x5, .int r9]) S kC_ok hKK (c_Ty_below l D ca ax b σ8 a1 (0 : Int32) hg) (k_Co_103 S.2.2.2.2 (fun _ => List.mem_cons_of_mem _) ⟨Nat.le_of_ble_eq_true rfl, Nat.le_of_ble_eq_true rfl⟩) rfl rfl (by simp [Value.category]) d_Co_after_86 hsz hP hS) (fun r18 σ17 _ => ?_)
      refine v_ci (rest := []) (fun _ _ hg H locs ls hsz hP hS => run_S (As := [.int r9, .int x5, .int r18]) (rest := []) S kC_ok hKK (c_Ty_with l D ca ax b σ17 r9 x5 r18 hg) (k_Co_45 S.2.2.2.2 (fun _ => List.mem_cons_of_mem _) ⟨Nat.le_of_ble_eq_true rfl, Nat.le_of_ble_eq_true rfl⟩) rfl rfl (Nat.zero_le _) d_Co_after_89 hsz hP hS) (fun r20 σ19 _ => ?_)
      exact v_iret S hret hlocks d_Co_after_92
    · refine v_tsw S (3 : Int32) (tgt := 93) d_Co_after_35 (by decide) (by decide) (off := 58) rfl (by decide) (fun h21 => ?_) (fun h21 => ?_)
      · refine v_iload_n S d_Co_after_93 rfl rfl ?_
        refine v_iload_n S d_Co_after_94 rfl rfl ?_
        refine v_iconst S d_Co_after_95 (v := (0 : Int32)) (by decide) ?_
        refine v_ci (rest := [.int a1]) (fun _ _ hg H locs ls hsz hP hS => run_S (As := [.int a1, .int (0 : Int32)]) (rest := [.int a1]) S kC_ok hKK (c_Ty_below l D ca ax b σ8 a1 (0 : Int32) hg) (k_Co_103 S.2.2.2.2 (fun _ => List.mem_cons_of_mem _) ⟨Nat.le_of_ble_eq_true rfl, Nat.le_of_ble_eq_true rfl⟩) rfl rfl (by simp [Value.category]) d_Co_after_96 hsz hP hS) (fun r23 σ22 _ => ?_)
        refine v_ci (rest := []) (fun _ _ hg H locs ls hsz hP hS => run_S (As := [.int a1, .int r23]) (rest := []) S kC_ok hKK (c_Ty_pushed l D ca ax b σ22 a1 r23 hg) (k_Co_100 S.2.2.2.2 (fun _ => List.mem_cons_of_mem _) ⟨Nat.le_of_ble_eq_true rfl, Nat.le_of_ble_eq_true rfl⟩) rfl rfl (Nat.zero_le _) d_Co_after_99 hsz hP hS) (fun r25 σ24 _ => ?_)
        exact v_iret S hret hlocks d_Co_after_102
      · refine v_tsw S (4 : Int32) (tgt := 103) d_Co_after_35 (by decide) (by decide) (off := 68) rfl (by decide) (fun h26 => ?_) (fun h26 => ?_)
        · refine v_iload S d_Co_after_103 rfl ?_
          refine v_iload_n S d_Co_after_105 rfl rfl ?_
          refine v_iconst S d_Co_after_106 (v := (0 : Int32)) (by decide) ?_
          refine v_ci (rest := [.int r9]) (fun _ _ hg H locs ls hsz hP hS => run_S (As := [.int a1, .int (0 : Int32)]) (rest := [.int r9]) S kC_ok hKK (c_Ty_below l D ca ax b σ8 a1 (0 : Int32) hg) (k_Co_103 S.2.2.2.2 (fun _ => List.mem_cons_of_mem _) ⟨Nat.le_of_ble_eq_true rfl, Nat.le_of_ble_eq_true rfl⟩) rfl rfl (by simp [Value.category]) d_Co_after_107 hsz hP hS) (fun r28 σ27 _ => ?_)
          refine v_ci (rest := []) (fun _ _ hg H locs ls hsz hP hS => run_S (As := [.int r9, .int r28]) (rest := []) S kC_ok hKK (c_Ty_pushed l D ca ax b σ27 r9 r28 hg) (k_Co_100 S.2.2.2.2 (fun _ => List.mem_cons_of_mem _) ⟨Nat.le_of_ble_eq_true rfl, Nat.le_of_ble_eq_true rfl⟩) rfl rfl (Nat.zero_le _) d_Co_after_110 hsz hP hS) (fun r30 σ29 _ => ?_)
          refine v_istoreP S d_Co_after_113 (by decide) (L2 := [some (.ref (b + 1)), some (.int a0), some (.int a1), some (.ref (ax 0 r2)), some (.int x5), some (.int r30)]) rfl ?_
          refine v_iload S d_Co_after_115 rfl ?_
          refine v_iload_n S d_Co_after_117 rfl rfl ?_
          refine v_iconst S d_Co_after_118 (v := (1 : Int32)) (by decide) ?_
          refine v_ci (rest := [.int r30]) (fun _ _ hg H locs ls hsz hP hS => run_S (As := [.int a1, .int (1 : Int32)]) (rest := [.int r30]) S kC_ok hKK (c_Ty_below l D ca ax b σ29 a1 (1 : Int32) hg) (k_Co_103 S.2.2.2.2 (fun _ => List.mem_cons_of_mem _) ⟨Nat.le_of_ble_eq_true rfl, Nat.le_of_ble_eq_true rfl⟩) rfl rfl (by simp [Value.category]) d_Co_after_119 hsz hP hS) (fun r32 σ31 _ => ?_)
          refine v_ci (rest := []) (fun _ _ hg H locs ls hsz hP hS => run_S (As := [.int r30, .int r32]) (rest := []) S kC_ok hKK (c_Ty_pushed l D ca ax b σ31 r30 r32 hg) (k_Co_100 S.2.2.2.2 (fun _ => List.mem_cons_of_mem _) ⟨Nat.le_of_ble_eq_true rfl, Nat.le_of_ble_eq_true rfl⟩) rfl rfl (Nat.zero_le _) d_Co_after_122 hsz hP hS) (fun r34 σ33 _ => ?_)
          exact v_iret S hret hlocks d_Co_after_125
        · refine v_tsw S (5 : Int32) (tgt := 126) d_Co_after_35 (by decide) (by decide) (off := 91) rfl (by decide) (fun h35 => ?_) (fun h35 => ?_)
          · refine v_iload S d_Co_after_126 rfl ?_
            refine v_aload_n S d_Co_after_128 rfl rfl ?_
            refine v_iload S d_Co_after_129 rfl ?_
            refine v_iconst S d_Co_after_131 (v := (3 : Int32)) (by decide) ?_
            refine v_ci (rest := [.int r9]) (fun _ _ hg H locs ls hsz hP hS => run_V (As := [.int x5, .int (3 : Int32)]) (rest := [.int r9]) S kC_ok hKK (c_Co_kindOf l D ca ax b σ8 x5 (3 : Int32) hg) (k_Co_41 S.2.2.2.2 (fun _ => List.mem_cons_of_mem _) ⟨Nat.le_of_ble_eq_true rfl, Nat.le_of_ble_eq_true rfl⟩) (rc_w hKK.1 hP 1 (by decide) rfl rfl) rfl rfl (by simp [Value.category]) d_Co_after_132 hsz hP hS) (fun r37 σ36 _ => ?_)
            refine v_ci (rest := []) (fun _ _ hg H locs ls hsz hP hS => run_S (As := [.int r9, .int r37]) (rest := []) S kC_ok hKK (c_Ty_pushed l D ca ax b σ36 r9 r37 hg) (k_Co_100 S.2.2.2.2 (fun _ => List.mem_cons_of_mem _) ⟨Nat.le_of_ble_eq_true rfl, Nat.le_of_ble_eq_true rfl⟩) rfl rfl (Nat.zero_le _) d_Co_after_135 hsz hP hS) (fun r39 σ38 _ => ?_)
            exact v_iret S hret hlocks d_Co_after_138
          · refine v_tswD S (tgt := 139) d_Co_after_35 (by have nh11 := i32_ne (n := 1) h11 (by decide); have nh16 := i32_ne (n := 2) h16 (by decide); have nh21 := i32_ne (n := 3) h21 (by decide); have nh26 := i32_ne (n := 4) h26 (by decide); have nh35 := i32_ne (n := 5) h35 (by decide); omega) (by decide) ?_
            refine v_aload_n S d_Co_after_139 rfl rfl ?_
            refine v_of S (kc_fG hKK (rb_Co_opAt g3)) (S.2.2.2.2 _ (List.mem_cons_of_mem _ (wd_992))) (fun _ h => h) d_Co_after_140 ?_
            refine v_if_ne S d_Co_after_143 (tgt := 151) (by decide) (fun h40 => ?_) (fun h40 => ?_)
            · refine v_iload S d_Co_after_151 rfl ?_
              refine v_aload_n S d_Co_after_153 rfl rfl ?_
              refine v_of S (kc_fG hKK (rb_Co_opAt g3)) (S.2.2.2.2 _ (List.mem_cons_of_mem _ (wd_992))) (fun _ h => h) d_Co_after_154 ?_
              refine v_ci (rest := []) (fun _ _ hg H locs ls hsz hP hS => run_S (As := [.int r9, .int (op_gives r2)]) (rest := []) S kC_ok hKK (c_Ty_pushed l D ca ax b σ8 r9 (op_gives r2) hg) (k_Co_100 S.2.2.2.2 (fun _ => List.mem_cons_of_mem _) ⟨Nat.le_of_ble_eq_true rfl, Nat.le_of_ble_eq_true rfl⟩) rfl rfl (Nat.zero_le _) d_Co_after_157 hsz hP hS) (fun r42 σ41 _ => ?_)
              exact v_iret S hret hlocks d_Co_after_160
            · refine v_iload S d_Co_after_146 rfl ?_
              refine v_goto S d_Co_after_148 (tgt := 160) (by decide) ?_
              exact v_iret S hret hlocks d_Co_after_160
def fn_Co_fits_54 (a0 : Int32) (a1 : Int32) (a2 : Int32) (σ : mm_M) (l4 : Nat) (l5 : Int32) : Option (Int32 × mm_M) :=
    (bd (fn_Co_numberFits σ l4 l5 a2) (fun r13 σ12 =>
    (if r13 = 0 then
    (if (0 : Int32) = 0 ∨ (0 : Int32) = 1 then some ((0 : Int32), σ12) else none)
    else
    (bd (fn_Co_takenFits σ12 a0 l4 l5 a2) (fun r16 σ15 =>
    (if r16 = 0 then
    (if (0 : Int32) = 0 ∨ (0 : Int32) = 1 then some ((0 : Int32), σ15) else none)
    else
    (bd (fn_Co_after σ15 a1 a2) (fun r19 σ18 =>
    (bd (fn_Ty_height σ18 r19) (fun r21 σ20 =>
    (if (6 : Int32) < r21 then
    (if (0 : Int32) = 0 ∨ (0 : Int32) = 1 then some ((0 : Int32), σ20) else none)
    else
    (if (1 : Int32) = 0 ∨ (1 : Int32) = 1 then some ((1 : Int32), σ20) else none))))))))))))
def fn_Co_fits (σ : mm_M) (a0 : Int32) (a1 : Int32) (a2 : Int32) : Option (Int32 × mm_M) :=
    (if a2 = (-1 : Int32) then
    (if (0 : Int32) = 0 ∨ (0 : Int32) = 1 then some ((0 : Int32), σ) else none)
    else
    (if a2 = (-2 : Int32) then
    (if (0 : Int32) = 0 ∨ (0 : Int32) = 1 then some ((0 : Int32), σ) else none)
    else
    (bd (fn_Co_hasOp σ a1) (fun r4 σ3 =>
    (if r4 = 0 then
    (if (0 : Int32) = 0 ∨ (0 : Int32) = 1 then some ((0 : Int32), σ3) else none)
    else
    (bd (fn_Co_opAt σ3 a1) (fun r7 σ6 =>
    (if (a1 < 0 ∨ 100 ≤ a1.toNatClampNeg) then none else
    (nm (σ6 3 a1.toNatClampNeg) (fun x10 =>
    (if (op_behind r7) = 0 then
    (fn_Co_fits_54 a0 a1 a2 σ6 r7 x10)
    else
    (bd (fn_Co_hasInstruction σ6 (a1 + (1 : Int32))) (fun r24 σ23 =>
    (if r24 = 0 then
    (if (0 : Int32) = 0 ∨ (0 : Int32) = 1 then some ((0 : Int32), σ23) else none)
    else
    (fn_Co_fits_54 a0 a1 a2 σ23 r7 x10)))))))))))))))
set_option maxRecDepth 100000 in
set_option maxHeartbeats 40000000 in
theorem c_Co_fits (l : Launch) (D : va_G) (ca : Nat → ClassId) (ax : Nat → Nat → Nat) (b : Nat) (σ : mm_M) (a0 : Int32) (a1 : Int32) (a2 : Int32)  {r : Int32} {σ' : mm_M} (hf : fn_Co_fits σ a0 a1 a2 = some (r, σ')) : Met l y_Co_fits w_Co_fits rm_Co_fits (pc_w D cls b N_C (ce_C ca b) (kC D ca ax b) [.ref (b + 1), .int a0, .int a1, .int a2] σ) (qc_i D cls b N_C (ce_C ca b) r σ') 0 0 (mm_A b N_C) := by
  refine vv_go (cc := b_Co_fits) (maxL := 6) (ret := (some .boolean)) (fin := (r, σ')) (k := fn_Co_fits σ a0 a1 a2) (by decide) rfl (by simp [Value.category]) (Nat.le_of_ble_eq_true rfl) hf ?_
  intro p e s m below meth c hlocks hret S hKK
  have C54 : ∀ (σ : mm_M) (l4 : Nat) (l5 : Int32) (hl4 : l4 < 20), vv p l e (headSpec w_Co_fits rm_Co_fits).room s m [.ref (b + 1), .int a0, .int a1, .int a2].toArray below meth c D cls b N_C (ce_C ca b) 6 (MQ below (qc_i D cls b N_C (ce_C ca b) r σ') [.ref (b + 1), .int a0, .int a1, .int a2].toArray s 0 0 (mm_A b N_C)) (r, σ') (fn_Co_fits_54 a0 a1 a2 σ l4 l5) σ 54 [some (.ref (b + 1)), some (.int a0), some (.int a1), some (.int a2), some (.ref (ax 0 l4)), some (.int l5)] [] := by
    intro σ l4 l5 hl4
    unfold fn_Co_fits_54
    refine v_aload_n S d_Co_fits_54 rfl rfl ?_
    refine v_aload S d_Co_fits_55 rfl ?_
    refine v_iload S d_Co_fits_57 rfl ?_
    refine v_iload_n S d_Co_fits_59 rfl rfl ?_
    refine v_ci (rest := []) (fun _ _ hg H locs ls hsz hP hS => run_V (As := [.ref (ax 0 l4), .int l5, .int a2]) (rest := []) S kC_ok hKK (c_Co_numberFits l D ca ax b σ l4 l5 a2 hl4 hg) (k_Co_66 S.2.2.2.2 (fun _ => List.mem_cons_of_mem _) ⟨Nat.le_of_ble_eq_true rfl, Nat.le_of_ble_eq_true rfl⟩) (rc_w hKK.1 hP 1 (by decide) rfl rfl) rfl rfl (Nat.zero_le _) d_Co_fits_60 hsz hP hS) (fun r13 σ12 _ => ?_)
    refine v_if_eq S d_Co_fits_63 (tgt := 97) (by decide) (fun h14 => ?_) (fun h14 => ?_)
    · refine v_iconst S d_Co_fits_97 (v := (0 : Int32)) (by decide) ?_
      exact v_zret S hret hlocks d_Co_fits_98
    · refine v_aload_n S d_Co_fits_66 rfl rfl ?_
      refine v_iload_n S d_Co_fits_67 rfl rfl ?_
      refine v_aload S d_Co_fits_68 rfl ?_
      refine v_iload S d_Co_fits_70 rfl ?_
      refine v_iload_n S d_Co_fits_72 rfl rfl ?_
      refine v_ci (rest := []) (fun _ _ hg H locs ls hsz hP hS => run_V (As := [.int a0, .ref (ax 0 l4), .int l5, .int a2]) (rest := []) S kC_ok hKK (c_Co_takenFits l D ca ax b σ12 a0 l4 l5 a2 hl4 hg) (k_Co_70 S.2.2.2.2 (fun _ => List.mem_cons_of_mem _) ⟨Nat.le_of_ble_eq_true rfl, Nat.le_of_ble_eq_true rfl⟩) (rc_w hKK.1 hP 1 (by decide) rfl rfl) rfl rfl (Nat.zero_le _) d_Co_fits_73 hsz hP hS) (fun r16 σ15 _ => ?_)
      refine v_if_eq S d_Co_fits_76 (tgt := 97) (by decide) (fun h17 => ?_) (fun h17 => ?_)
      · refine v_iconst S d_Co_fits_97 (v := (0 : Int32)) (by decide) ?_
        exact v_zret S hret hlocks d_Co_fits_98
      · refine v_aload_n S d_Co_fits_79 rfl rfl ?_
        refine v_iload_n S d_Co_fits_80 rfl rfl ?_
        refine v_iload_n S d_Co_fits_81 rfl rfl ?_
        refine v_ci (rest := []) (fun _ _ hg H locs ls hsz hP hS => run_V (As := [.int a1, .int a2]) (rest := []) S kC_ok hKK (c_Co_after l D ca ax b σ15 a1 a2 hg) (k_Co_74 S.2.2.2.2 (fun _ => List.mem_cons_of_mem _) ⟨Nat.le_of_ble_eq_true rfl, Nat.le_of_ble_eq_true rfl⟩) (rc_w hKK.1 hP 1 (by decide) rfl rfl) rfl rfl (Nat.zero_le _) d_Co_fits_82 hsz hP hS) (fun r19 σ18 _ => ?_)
        refine v_ci (rest := []) (fun _ _ hg H locs ls hsz hP hS => run_S (As := [.int r19]) (rest := []) S kC_ok hKK (c_Ty_height l D ca ax b σ18 r19 hg) (k_Co_77 S.2.2.2.2 (fun _ => List.mem_cons_of_mem _) ⟨Nat.le_of_ble_eq_true rfl, Nat.le_of_ble_eq_true rfl⟩) rfl rfl (Nat.zero_le _) d_Co_fits_85 hsz hP hS) (fun r21 σ20 _ => ?_)
        refine v_bipush S d_Co_fits_88 (v := (6 : Int32)) (by decide) ?_
        refine v_icmp_gt S d_Co_fits_90 (tgt := 97) (by decide) (fun h22 => ?_) (fun h22 => ?_)
        · refine v_iconst S d_Co_fits_97 (v := (0 : Int32)) (by decide) ?_
          exact v_zret S hret hlocks d_Co_fits_98
        · refine v_iconst S d_Co_fits_93 (v := (1 : Int32)) (by decide) ?_
          refine v_goto S d_Co_fits_94 (tgt := 98) (by decide) ?_
          exact v_zret S hret hlocks d_Co_fits_98
  unfold fn_Co_fits
  refine v_iload_n S d_Co_fits_0 rfl rfl ?_
  refine v_iconst S d_Co_fits_1 (v := (-1 : Int32)) (by decide) ?_
  refine v_icmp_eq S d_Co_fits_2 (tgt := 19) (by decide) (fun h1 => ?_) (fun h1 => ?_)
  · refine v_iconst S d_Co_fits_19 (v := (0 : Int32)) (by decide) ?_
    exact v_zret S hret hlocks d_Co_fits_20
  · refine v_iload_n S d_Co_fits_5 rfl rfl ?_
    refine v_bipush S d_Co_fits_6 (v := (-2 : Int32)) (by decide) ?_
    refine v_icmp_eq S d_Co_fits_8 (tgt := 19) (by decide) (fun h2 => ?_) (fun h2 => ?_)
    · refine v_iconst S d_Co_fits_19 (v := (0 : Int32)) (by decide) ?_
      exact v_zret S hret hlocks d_Co_fits_20
    · refine v_aload_n S d_Co_fits_11 rfl rfl ?_
      refine v_iload_n S d_Co_fits_12 rfl rfl ?_
      refine v_ci (rest := []) (fun _ _ hg H locs ls hsz hP hS => run_V (As := [.int a1]) (rest := []) S kC_ok hKK (c_Co_hasOp l D ca ax b σ a1 hg) (k_Co_49 S.2.2.2.2 (fun _ => List.mem_cons_of_mem _) ⟨Nat.le_of_ble_eq_true rfl, Nat.le_of_ble_eq_true rfl⟩) (rc_w hKK.1 hP 1 (by decide) rfl rfl) rfl rfl (Nat.zero_le _) d_Co_fits_13 hsz hP hS) (fun r4 σ3 _ => ?_)
      refine v_if_ne S d_Co_fits_16 (tgt := 21) (by decide) (fun h5 => ?_) (fun h5 => ?_)
      · refine v_aload_n S d_Co_fits_21 rfl rfl ?_
        refine v_iload_n S d_Co_fits_22 rfl rfl ?_
        refine v_ca (ax 0) (rest := []) (fun _ _ hg H locs ls hsz hP hS => run_V (As := [.int a1]) (rest := []) S kC_ok hKK (c_Co_opAt l D ca ax b σ3 a1 hg) (k_Co_53 S.2.2.2.2 (fun _ => List.mem_cons_of_mem _) ⟨Nat.le_of_ble_eq_true rfl, Nat.le_of_ble_eq_true rfl⟩) (rc_w hKK.1 hP 1 (by decide) rfl rfl) rfl rfl (Nat.zero_le _) d_Co_fits_23 hsz hP hS) (fun r7 σ6 g8 => ?_)
        refine v_astoreP S d_Co_fits_26 (by decide) (L2 := [some (.ref (b + 1)), some (.int a0), some (.int a1), some (.int a2), some (.ref (ax 0 r7))]) rfl ?_
        refine v_aload_n S d_Co_fits_28 rfl rfl ?_
        refine v_get S (fun w h => List.mem_cons_of_mem _ (i_Co w h)) hKK.1 1 (by decide) rfl rfl 2 (by decide) (S.2.2.2.2 _ (List.mem_cons_of_mem _ (wd_44))) (fun _ h => h) rfl d_Co_fits_29 ?_
        refine v_iload_n S d_Co_fits_32 rfl rfl ?_
        refine v_iald S hKK.1 3 0 (by decide) rfl rfl d_Co_fits_33 (fun h9 => ?_)
        refine v_top (fun x10 ex10 => ?_)
        refine v_istoreP S d_Co_fits_34 (by decide) (L2 := [some (.ref (b + 1)), some (.int a0), some (.int a1), some (.int a2), some (.ref (ax 0 r7)), some (.int x10)]) rfl ?_
        refine v_aload S d_Co_fits_36 rfl ?_
        refine v_of S (kc_fB hKK (rb_Co_opAt g8)) (S.2.2.2.2 _ (List.mem_cons_of_mem _ (wd_986))) (fun _ h => h) d_Co_fits_38 ?_
        refine v_if_eq S d_Co_fits_41 (tgt := 54) (by decide) (fun h11 => ?_) (fun h11 => ?_)
        · refine v_sub (L2 := [some (.ref (b + 1)), some (.int a0), some (.int a1), some (.int a2), some (.ref (ax 0 r7)), some (.int x10)]) (And.intro rfl (And.intro rfl (And.intro rfl (And.intro rfl (And.intro rfl (And.intro rfl True.intro)))))) ?_
          exact C54 σ6 r7 x10 (rb_Co_opAt g8)
        · refine v_aload_n S d_Co_fits_44 rfl rfl ?_
          refine v_iload_n S d_Co_fits_45 rfl rfl ?_
          refine v_iconst S d_Co_fits_46 (v := (1 : Int32)) (by decide) ?_
          refine v_iadd S d_Co_fits_47 ?_
          refine v_ci (rest := []) (fun _ _ hg H locs ls hsz hP hS => run_V (As := [.int (a1 + (1 : Int32))]) (rest := []) S kC_ok hKK (c_Co_hasInstruction l D ca ax b σ6 (a1 + (1 : Int32)) hg) (k_Co_63 S.2.2.2.2 (fun _ => List.mem_cons_of_mem _) ⟨Nat.le_of_ble_eq_true rfl, Nat.le_of_ble_eq_true rfl⟩) (rc_w hKK.1 hP 1 (by decide) rfl rfl) rfl rfl (Nat.zero_le _) d_Co_fits_48 hsz hP hS) (fun r24 σ23 _ => ?_)
          refine v_if_eq S d_Co_fits_51 (tgt := 97) (by decide) (fun h25 => ?_) (fun h25 => ?_)
          · refine v_iconst S d_Co_fits_97 (v := (0 : Int32)) (by decide) ?_
            exact v_zret S hret hlocks d_Co_fits_98
          · refine v_sub (L2 := [some (.ref (b + 1)), some (.int a0), some (.int a1), some (.int a2), some (.ref (ax 0 r7)), some (.int x10)]) (And.intro rfl (And.intro rfl (And.intro rfl (And.intro rfl (And.intro rfl (And.intro rfl True.intro)))))) ?_
            exact C54 σ23 r7 x10 (rb_Co_opAt g8)
      · refine v_iconst S d_Co_fits_19 (v := (0 : Int32)) (by decide) ?_
        exact v_zret S hret hlocks d_Co_fits_20
end
section
/-! names of 09.flow -/
def y_Fl_forget : MethodName := ⟨"FrameVerifier$Flow", "forget", "()V"⟩
abbrev b_Fl_forget : ByteArray := prog_4_method_2_code
def rm_Fl_forget : Room := { frames := 0, cells := 0, slots := 0, locals := 0 }
abbrev w_Fl_forget : List Cond := Cond.code y_Fl_forget b_Fl_forget 2 none :: wG
theorem m_Fl_forget : Cond.code y_Fl_forget b_Fl_forget 2 none ∈ wG := wg_t 167 (by decide +kernel) (by decide +kernel)
theorem q_Fl_forget : y_Fl_forget.cls ≠ "java/lang/invoke/MethodHandle" ∧ y_Fl_forget.cls ≠ "java/lang/invoke/VarHandle" ∧ (parseMethodDescriptor y_Fl_forget.desc).map (fun d => d.parameters.length) = some 0 := by decide +kernel
theorem g_Fl_forget : Cond.initialized y_Fl_forget.cls ∈ wG := wg_t 3 (by decide +kernel) (by decide +kernel)
theorem s_Fl_forget : Cond.instanceMethod y_Fl_forget ∈ wG := wg_t 165 (by decide +kernel) (by decide +kernel)
theorem e_Fl_forget : Cond.selects "FrameVerifier$Flow" y_Fl_forget y_Fl_forget ∈ wG := wg_t 166 (by decide +kernel) (by decide +kernel)
theorem d_Fl_forget_0 : decode b_Fl_forget 0 = .ok (.iconst 0, 1) := by decide +kernel
theorem d_Fl_forget_1 : decode b_Fl_forget 1 = .ok (.istore_n 1, 1) := by decide +kernel
theorem d_Fl_forget_2 : decode b_Fl_forget 2 = .ok (.iload_n 1, 1) := by decide +kernel
theorem d_Fl_forget_3 : decode b_Fl_forget 3 = .ok (.iconst 4, 1) := by decide +kernel
theorem d_Fl_forget_4 : decode b_Fl_forget 4 = .ok (.if_icmp .ge (16), 3) := by decide +kernel
theorem d_Fl_forget_7 : decode b_Fl_forget 7 = .ok (.aload_n 0, 1) := by decide +kernel
theorem d_Fl_forget_8 : decode b_Fl_forget 8 = .ok (.getfield 15, 3) := by decide +kernel
theorem d_Fl_forget_11 : decode b_Fl_forget 11 = .ok (.iload_n 1, 1) := by decide +kernel
theorem d_Fl_forget_12 : decode b_Fl_forget 12 = .ok (.iconst 0, 1) := by decide +kernel
theorem d_Fl_forget_13 : decode b_Fl_forget 13 = .ok (.bastore, 1) := by decide +kernel
theorem d_Fl_forget_14 : decode b_Fl_forget 14 = .ok (.iinc 1 (1), 3) := by decide +kernel
theorem d_Fl_forget_17 : decode b_Fl_forget 17 = .ok (.goto (-15), 3) := by decide +kernel
theorem d_Fl_forget_20 : decode b_Fl_forget 20 = .ok (.return_, 1) := by decide +kernel
def y_Fl_clear : MethodName := ⟨"FrameVerifier$Flow", "clear", "(I)V"⟩
abbrev b_Fl_clear : ByteArray := prog_4_method_6_code
def rm_Fl_clear : Room := { frames := 0, cells := 0, slots := 0, locals := 0 }
abbrev w_Fl_clear : List Cond := Cond.code y_Fl_clear b_Fl_clear 3 none :: wG
theorem m_Fl_clear : Cond.code y_Fl_clear b_Fl_clear 3 none ∈ wG := wg_t 187 (by decide +kernel) (by decide +kernel)
theorem q_Fl_clear : y_Fl_clear.cls ≠ "java/lang/invoke/MethodHandle" ∧ y_Fl_clear.cls ≠ "java/lang/invoke/VarHandle" ∧ (parseMethodDescriptor y_Fl_clear.desc).map (fun d => d.parameters.length) = some 1 := by decide +kernel
theorem g_Fl_clear : Cond.initialized y_Fl_clear.cls ∈ wG := wg_t 3 (by decide +kernel) (by decide +kernel)
theorem s_Fl_clear : Cond.instanceMethod y_Fl_clear ∈ wG := wg_t 186 (by decide +kernel) (by decide +kernel)
theorem e_Fl_clear : Cond.selects "FrameVerifier$Flow" y_Fl_clear y_Fl_clear ∈ wG := wg_s (q := (y_Fl_clear, 5)) 1 (by decide +kernel) (by decide +kernel)
theorem d_Fl_clear_0 : decode b_Fl_clear 0 = .ok (.iconst 0, 1) := by decide +kernel
theorem d_Fl_clear_1 : decode b_Fl_clear 1 = .ok (.istore_n 2, 1) := by decide +kernel
theorem d_Fl_clear_2 : decode b_Fl_clear 2 = .ok (.iload_n 2, 1) := by decide +kernel
theorem d_Fl_clear_3 : decode b_Fl_clear 3 = .ok (.bipush (100), 2) := by decide +kernel
theorem d_Fl_clear_5 : decode b_Fl_clear 5 = .ok (.if_icmp .ge (25), 3) := by decide +kernel
theorem d_Fl_clear_8 : decode b_Fl_clear 8 = .ok (.aload_n 0, 1) := by decide +kernel
theorem d_Fl_clear_9 : decode b_Fl_clear 9 = .ok (.getfield 21, 3) := by decide +kernel
theorem d_Fl_clear_12 : decode b_Fl_clear 12 = .ok (.iload_n 1, 1) := by decide +kernel
theorem d_Fl_clear_13 : decode b_Fl_clear 13 = .ok (.aaload, 1) := by decide +kernel
theorem d_Fl_clear_14 : decode b_Fl_clear 14 = .ok (.iload_n 2, 1) := by decide +kernel
theorem d_Fl_clear_15 : decode b_Fl_clear 15 = .ok (.iconst (-1), 1) := by decide +kernel
theorem d_Fl_clear_16 : decode b_Fl_clear 16 = .ok (.iastore, 1) := by decide +kernel
theorem d_Fl_clear_17 : decode b_Fl_clear 17 = .ok (.aload_n 0, 1) := by decide +kernel
theorem d_Fl_clear_18 : decode b_Fl_clear 18 = .ok (.getfield 24, 3) := by decide +kernel
theorem d_Fl_clear_21 : decode b_Fl_clear 21 = .ok (.iload_n 2, 1) := by decide +kernel
theorem d_Fl_clear_22 : decode b_Fl_clear 22 = .ok (.iconst 0, 1) := by decide +kernel
theorem d_Fl_clear_23 : decode b_Fl_clear 23 = .ok (.bastore, 1) := by decide +kernel
theorem d_Fl_clear_24 : decode b_Fl_clear 24 = .ok (.iinc 2 (1), 3) := by decide +kernel
theorem d_Fl_clear_27 : decode b_Fl_clear 27 = .ok (.goto (-25), 3) := by decide +kernel
theorem d_Fl_clear_30 : decode b_Fl_clear 30 = .ok (.aload_n 0, 1) := by decide +kernel
theorem d_Fl_clear_31 : decode b_Fl_clear 31 = .ok (.bipush (100), 2) := by decide +kernel
theorem d_Fl_clear_33 : decode b_Fl_clear 33 = .ok (.putfield 27, 3) := by decide +kernel
theorem d_Fl_clear_36 : decode b_Fl_clear 36 = .ok (.return_, 1) := by decide +kernel
def y_Fl_meet : MethodName := ⟨"FrameVerifier$Flow", "meet", "(III)V"⟩
abbrev b_Fl_meet : ByteArray := prog_4_method_9_code
def rm_Fl_meet : Room := { frames := 2, cells := 0, slots := 0, locals := 46 }
abbrev w_Fl_meet : List Cond := Cond.code y_Fl_meet b_Fl_meet 5 none :: wG
theorem m_Fl_meet : Cond.code y_Fl_meet b_Fl_meet 5 none ∈ wG := wg_t 210 (by decide +kernel) (by decide +kernel)
theorem q_Fl_meet : y_Fl_meet.cls ≠ "java/lang/invoke/MethodHandle" ∧ y_Fl_meet.cls ≠ "java/lang/invoke/VarHandle" ∧ (parseMethodDescriptor y_Fl_meet.desc).map (fun d => d.parameters.length) = some 3 := by decide +kernel
theorem g_Fl_meet : Cond.initialized y_Fl_meet.cls ∈ wG := wg_t 3 (by decide +kernel) (by decide +kernel)
theorem s_Fl_meet : Cond.instanceMethod y_Fl_meet ∈ wG := wg_t 209 (by decide +kernel) (by decide +kernel)
theorem e_Fl_meet : Cond.selects "FrameVerifier$Flow" y_Fl_meet y_Fl_meet ∈ wG := wg_s (q := (y_Fl_meet, 5)) 3 (by decide +kernel) (by decide +kernel)
theorem d_Fl_meet_0 : decode b_Fl_meet 0 = .ok (.aload_n 0, 1) := by decide +kernel
theorem d_Fl_meet_1 : decode b_Fl_meet 1 = .ok (.getfield 21, 3) := by decide +kernel
theorem d_Fl_meet_4 : decode b_Fl_meet 4 = .ok (.iload_n 1, 1) := by decide +kernel
theorem d_Fl_meet_5 : decode b_Fl_meet 5 = .ok (.aaload, 1) := by decide +kernel
theorem d_Fl_meet_6 : decode b_Fl_meet 6 = .ok (.iload_n 2, 1) := by decide +kernel
theorem d_Fl_meet_7 : decode b_Fl_meet 7 = .ok (.iaload, 1) := by decide +kernel
theorem d_Fl_meet_8 : decode b_Fl_meet 8 = .ok (.iload_n 3, 1) := by decide +kernel
theorem d_Fl_meet_9 : decode b_Fl_meet 9 = .ok (.invokestatic 88, 3) := by decide +kernel
theorem d_Fl_meet_12 : decode b_Fl_meet 12 = .ok (.istore 4, 2) := by decide +kernel
theorem d_Fl_meet_14 : decode b_Fl_meet 14 = .ok (.iload 4, 2) := by decide +kernel
theorem d_Fl_meet_16 : decode b_Fl_meet 16 = .ok (.aload_n 0, 1) := by decide +kernel
theorem d_Fl_meet_17 : decode b_Fl_meet 17 = .ok (.getfield 21, 3) := by decide +kernel
theorem d_Fl_meet_20 : decode b_Fl_meet 20 = .ok (.iload_n 1, 1) := by decide +kernel
theorem d_Fl_meet_21 : decode b_Fl_meet 21 = .ok (.aaload, 1) := by decide +kernel
theorem d_Fl_meet_22 : decode b_Fl_meet 22 = .ok (.iload_n 2, 1) := by decide +kernel
theorem d_Fl_meet_23 : decode b_Fl_meet 23 = .ok (.iaload, 1) := by decide +kernel
theorem d_Fl_meet_24 : decode b_Fl_meet 24 = .ok (.if_icmp .eq (32), 3) := by decide +kernel
theorem d_Fl_meet_27 : decode b_Fl_meet 27 = .ok (.aload_n 0, 1) := by decide +kernel
theorem d_Fl_meet_28 : decode b_Fl_meet 28 = .ok (.getfield 21, 3) := by decide +kernel
theorem d_Fl_meet_31 : decode b_Fl_meet 31 = .ok (.iload_n 1, 1) := by decide +kernel
theorem d_Fl_meet_32 : decode b_Fl_meet 32 = .ok (.aaload, 1) := by decide +kernel
theorem d_Fl_meet_33 : decode b_Fl_meet 33 = .ok (.iload_n 2, 1) := by decide +kernel
theorem d_Fl_meet_34 : decode b_Fl_meet 34 = .ok (.iload 4, 2) := by decide +kernel
theorem d_Fl_meet_36 : decode b_Fl_meet 36 = .ok (.iastore, 1) := by decide +kernel
theorem d_Fl_meet_37 : decode b_Fl_meet 37 = .ok (.aload_n 0, 1) := by decide +kernel
theorem d_Fl_meet_38 : decode b_Fl_meet 38 = .ok (.getfield 24, 3) := by decide +kernel
theorem d_Fl_meet_41 : decode b_Fl_meet 41 = .ok (.iload_n 2, 1) := by decide +kernel
theorem d_Fl_meet_42 : decode b_Fl_meet 42 = .ok (.iconst 1, 1) := by decide +kernel
theorem d_Fl_meet_43 : decode b_Fl_meet 43 = .ok (.bastore, 1) := by decide +kernel
theorem d_Fl_meet_44 : decode b_Fl_meet 44 = .ok (.aload_n 0, 1) := by decide +kernel
theorem d_Fl_meet_45 : decode b_Fl_meet 45 = .ok (.aload_n 0, 1) := by decide +kernel
theorem d_Fl_meet_46 : decode b_Fl_meet 46 = .ok (.getfield 27, 3) := by decide +kernel
theorem d_Fl_meet_49 : decode b_Fl_meet 49 = .ok (.iload_n 2, 1) := by decide +kernel
theorem d_Fl_meet_50 : decode b_Fl_meet 50 = .ok (.invokestatic 93, 3) := by decide +kernel
theorem d_Fl_meet_53 : decode b_Fl_meet 53 = .ok (.putfield 27, 3) := by decide +kernel
theorem d_Fl_meet_56 : decode b_Fl_meet 56 = .ok (.return_, 1) := by decide +kernel
def y_Fl_takeLeastWaiting : MethodName := ⟨"FrameVerifier$Flow", "takeLeastWaiting", "()I"⟩
abbrev b_Fl_takeLeastWaiting : ByteArray := prog_4_method_7_code
def rm_Fl_takeLeastWaiting : Room := { frames := 0, cells := 0, slots := 0, locals := 0 }
abbrev w_Fl_takeLeastWaiting : List Cond := Cond.code y_Fl_takeLeastWaiting b_Fl_takeLeastWaiting 2 (some .int) :: wG
theorem m_Fl_takeLeastWaiting : Cond.code y_Fl_takeLeastWaiting b_Fl_takeLeastWaiting 2 (some .int) ∈ wG := wg_t 227 (by decide +kernel) (by decide +kernel)
theorem q_Fl_takeLeastWaiting : y_Fl_takeLeastWaiting.cls ≠ "java/lang/invoke/MethodHandle" ∧ y_Fl_takeLeastWaiting.cls ≠ "java/lang/invoke/VarHandle" ∧ (parseMethodDescriptor y_Fl_takeLeastWaiting.desc).map (fun d => d.parameters.length) = some 0 := by decide +kernel
theorem g_Fl_takeLeastWaiting : Cond.initialized y_Fl_takeLeastWaiting.cls ∈ wG := wg_t 3 (by decide +kernel) (by decide +kernel)
theorem s_Fl_takeLeastWaiting : Cond.instanceMethod y_Fl_takeLeastWaiting ∈ wG := wg_t 226 (by decide +kernel) (by decide +kernel)
theorem e_Fl_takeLeastWaiting : Cond.selects "FrameVerifier$Flow" y_Fl_takeLeastWaiting y_Fl_takeLeastWaiting ∈ wG := wg_s (q := (y_Fl_takeLeastWaiting, 5)) 4 (by decide +kernel) (by decide +kernel)
theorem d_Fl_takeLeastWaiting_0 : decode b_Fl_takeLeastWaiting 0 = .ok (.aload_n 0, 1) := by decide +kernel
theorem d_Fl_takeLeastWaiting_1 : decode b_Fl_takeLeastWaiting 1 = .ok (.getfield 27, 3) := by decide +kernel
theorem d_Fl_takeLeastWaiting_4 : decode b_Fl_takeLeastWaiting 4 = .ok (.istore_n 1, 1) := by decide +kernel
theorem d_Fl_takeLeastWaiting_5 : decode b_Fl_takeLeastWaiting 5 = .ok (.iload_n 1, 1) := by decide +kernel
theorem d_Fl_takeLeastWaiting_6 : decode b_Fl_takeLeastWaiting 6 = .ok (.bipush (100), 2) := by decide +kernel
theorem d_Fl_takeLeastWaiting_8 : decode b_Fl_takeLeastWaiting 8 = .ok (.if_icmp .ge (34), 3) := by decide +kernel
theorem d_Fl_takeLeastWaiting_11 : decode b_Fl_takeLeastWaiting 11 = .ok (.aload_n 0, 1) := by decide +kernel
theorem d_Fl_takeLeastWaiting_12 : decode b_Fl_takeLeastWaiting 12 = .ok (.getfield 24, 3) := by decide +kernel
theorem d_Fl_takeLeastWaiting_15 : decode b_Fl_takeLeastWaiting 15 = .ok (.iload_n 1, 1) := by decide +kernel
theorem d_Fl_takeLeastWaiting_16 : decode b_Fl_takeLeastWaiting 16 = .ok (.baload, 1) := by decide +kernel
theorem d_Fl_takeLeastWaiting_17 : decode b_Fl_takeLeastWaiting 17 = .ok (.ifCond .eq (19), 3) := by decide +kernel
theorem d_Fl_takeLeastWaiting_20 : decode b_Fl_takeLeastWaiting 20 = .ok (.aload_n 0, 1) := by decide +kernel
theorem d_Fl_takeLeastWaiting_21 : decode b_Fl_takeLeastWaiting 21 = .ok (.getfield 24, 3) := by decide +kernel
theorem d_Fl_takeLeastWaiting_24 : decode b_Fl_takeLeastWaiting 24 = .ok (.iload_n 1, 1) := by decide +kernel
theorem d_Fl_takeLeastWaiting_25 : decode b_Fl_takeLeastWaiting 25 = .ok (.iconst 0, 1) := by decide +kernel
theorem d_Fl_takeLeastWaiting_26 : decode b_Fl_takeLeastWaiting 26 = .ok (.bastore, 1) := by decide +kernel
theorem d_Fl_takeLeastWaiting_27 : decode b_Fl_takeLeastWaiting 27 = .ok (.aload_n 0, 1) := by decide +kernel
theorem d_Fl_takeLeastWaiting_28 : decode b_Fl_takeLeastWaiting 28 = .ok (.iload_n 1, 1) := by decide +kernel
theorem d_Fl_takeLeastWaiting_29 : decode b_Fl_takeLeastWaiting 29 = .ok (.iconst 1, 1) := by decide +kernel
theorem d_Fl_takeLeastWaiting_30 : decode b_Fl_takeLeastWaiting 30 = .ok (.iadd, 1) := by decide +kernel
theorem d_Fl_takeLeastWaiting_31 : decode b_Fl_takeLeastWaiting 31 = .ok (.putfield 27, 3) := by decide +kernel
theorem d_Fl_takeLeastWaiting_34 : decode b_Fl_takeLeastWaiting 34 = .ok (.iload_n 1, 1) := by decide +kernel
theorem d_Fl_takeLeastWaiting_35 : decode b_Fl_takeLeastWaiting 35 = .ok (.ireturn, 1) := by decide +kernel
theorem d_Fl_takeLeastWaiting_36 : decode b_Fl_takeLeastWaiting 36 = .ok (.iinc 1 (1), 3) := by decide +kernel
theorem d_Fl_takeLeastWaiting_39 : decode b_Fl_takeLeastWaiting 39 = .ok (.goto (-34), 3) := by decide +kernel
theorem d_Fl_takeLeastWaiting_42 : decode b_Fl_takeLeastWaiting 42 = .ok (.aload_n 0, 1) := by decide +kernel
theorem d_Fl_takeLeastWaiting_43 : decode b_Fl_takeLeastWaiting 43 = .ok (.bipush (100), 2) := by decide +kernel
theorem d_Fl_takeLeastWaiting_45 : decode b_Fl_takeLeastWaiting 45 = .ok (.putfield 27, 3) := by decide +kernel
theorem d_Fl_takeLeastWaiting_48 : decode b_Fl_takeLeastWaiting 48 = .ok (.iconst (-1), 1) := by decide +kernel
theorem d_Fl_takeLeastWaiting_49 : decode b_Fl_takeLeastWaiting 49 = .ok (.ireturn, 1) := by decide +kernel
def y_Fl_goOn : MethodName := ⟨"FrameVerifier$Flow", "goOn", "(II)V"⟩
abbrev b_Fl_goOn : ByteArray := prog_4_method_8_code
def rm_Fl_goOn : Room := { frames := 8, cells := 0, slots := 0, locals := 183 }
abbrev w_Fl_goOn : List Cond := Cond.code y_Fl_goOn b_Fl_goOn 6 none :: wG
theorem m_Fl_goOn : Cond.code y_Fl_goOn b_Fl_goOn 6 none ∈ wG := wg_t 231 (by decide +kernel) (by decide +kernel)
theorem q_Fl_goOn : y_Fl_goOn.cls ≠ "java/lang/invoke/MethodHandle" ∧ y_Fl_goOn.cls ≠ "java/lang/invoke/VarHandle" ∧ (parseMethodDescriptor y_Fl_goOn.desc).map (fun d => d.parameters.length) = some 2 := by decide +kernel
theorem g_Fl_goOn : Cond.initialized y_Fl_goOn.cls ∈ wG := wg_t 3 (by decide +kernel) (by decide +kernel)
theorem s_Fl_goOn : Cond.instanceMethod y_Fl_goOn ∈ wG := wg_t 230 (by decide +kernel) (by decide +kernel)
theorem e_Fl_goOn : Cond.selects "FrameVerifier$Flow" y_Fl_goOn y_Fl_goOn ∈ wG := wg_s (q := (y_Fl_goOn, 5)) 5 (by decide +kernel) (by decide +kernel)
theorem d_Fl_goOn_0 : decode b_Fl_goOn 0 = .ok (.aload_n 0, 1) := by decide +kernel
theorem d_Fl_goOn_1 : decode b_Fl_goOn 1 = .ok (.getfield 21, 3) := by decide +kernel
theorem d_Fl_goOn_4 : decode b_Fl_goOn 4 = .ok (.iload_n 1, 1) := by decide +kernel
theorem d_Fl_goOn_5 : decode b_Fl_goOn 5 = .ok (.aaload, 1) := by decide +kernel
theorem d_Fl_goOn_6 : decode b_Fl_goOn 6 = .ok (.iload_n 2, 1) := by decide +kernel
theorem d_Fl_goOn_7 : decode b_Fl_goOn 7 = .ok (.iaload, 1) := by decide +kernel
theorem d_Fl_goOn_8 : decode b_Fl_goOn 8 = .ok (.istore_n 3, 1) := by decide +kernel
theorem d_Fl_goOn_9 : decode b_Fl_goOn 9 = .ok (.aload_n 0, 1) := by decide +kernel
theorem d_Fl_goOn_10 : decode b_Fl_goOn 10 = .ok (.getfield 9, 3) := by decide +kernel
theorem d_Fl_goOn_13 : decode b_Fl_goOn 13 = .ok (.iload_n 1, 1) := by decide +kernel
theorem d_Fl_goOn_14 : decode b_Fl_goOn 14 = .ok (.iload_n 2, 1) := by decide +kernel
theorem d_Fl_goOn_15 : decode b_Fl_goOn 15 = .ok (.iload_n 3, 1) := by decide +kernel
theorem d_Fl_goOn_16 : decode b_Fl_goOn 16 = .ok (.invokevirtual 63, 3) := by decide +kernel
theorem d_Fl_goOn_19 : decode b_Fl_goOn 19 = .ok (.ifCond .ne (4), 3) := by decide +kernel
theorem d_Fl_goOn_22 : decode b_Fl_goOn 22 = .ok (.return_, 1) := by decide +kernel
theorem d_Fl_goOn_23 : decode b_Fl_goOn 23 = .ok (.aload_n 0, 1) := by decide +kernel
theorem d_Fl_goOn_24 : decode b_Fl_goOn 24 = .ok (.getfield 9, 3) := by decide +kernel
theorem d_Fl_goOn_27 : decode b_Fl_goOn 27 = .ok (.iload_n 2, 1) := by decide +kernel
theorem d_Fl_goOn_28 : decode b_Fl_goOn 28 = .ok (.invokevirtual 67, 3) := by decide +kernel
theorem d_Fl_goOn_31 : decode b_Fl_goOn 31 = .ok (.astore 4, 2) := by decide +kernel
theorem d_Fl_goOn_33 : decode b_Fl_goOn 33 = .ok (.aload_n 0, 1) := by decide +kernel
theorem d_Fl_goOn_34 : decode b_Fl_goOn 34 = .ok (.getfield 9, 3) := by decide +kernel
theorem d_Fl_goOn_37 : decode b_Fl_goOn 37 = .ok (.iload_n 2, 1) := by decide +kernel
theorem d_Fl_goOn_38 : decode b_Fl_goOn 38 = .ok (.iload_n 3, 1) := by decide +kernel
theorem d_Fl_goOn_39 : decode b_Fl_goOn 39 = .ok (.invokevirtual 71, 3) := by decide +kernel
theorem d_Fl_goOn_42 : decode b_Fl_goOn 42 = .ok (.istore 5, 2) := by decide +kernel
theorem d_Fl_goOn_44 : decode b_Fl_goOn 44 = .ok (.aload 4, 2) := by decide +kernel
theorem d_Fl_goOn_46 : decode b_Fl_goOn 46 = .ok (.getfield 75, 3) := by decide +kernel
theorem d_Fl_goOn_49 : decode b_Fl_goOn 49 = .ok (.ifCond .eq (13), 3) := by decide +kernel
theorem d_Fl_goOn_52 : decode b_Fl_goOn 52 = .ok (.aload_n 0, 1) := by decide +kernel
theorem d_Fl_goOn_53 : decode b_Fl_goOn 53 = .ok (.iload_n 1, 1) := by decide +kernel
theorem d_Fl_goOn_54 : decode b_Fl_goOn 54 = .ok (.iload_n 2, 1) := by decide +kernel
theorem d_Fl_goOn_55 : decode b_Fl_goOn 55 = .ok (.iconst 1, 1) := by decide +kernel
theorem d_Fl_goOn_56 : decode b_Fl_goOn 56 = .ok (.iadd, 1) := by decide +kernel
theorem d_Fl_goOn_57 : decode b_Fl_goOn 57 = .ok (.iload 5, 2) := by decide +kernel
theorem d_Fl_goOn_59 : decode b_Fl_goOn 59 = .ok (.invokevirtual 48, 3) := by decide +kernel
theorem d_Fl_goOn_62 : decode b_Fl_goOn 62 = .ok (.aload 4, 2) := by decide +kernel
theorem d_Fl_goOn_64 : decode b_Fl_goOn 64 = .ok (.invokevirtual 81, 3) := by decide +kernel
theorem d_Fl_goOn_67 : decode b_Fl_goOn 67 = .ok (.ifCond .eq (18), 3) := by decide +kernel
theorem d_Fl_goOn_70 : decode b_Fl_goOn 70 = .ok (.aload_n 0, 1) := by decide +kernel
theorem d_Fl_goOn_71 : decode b_Fl_goOn 71 = .ok (.iload_n 1, 1) := by decide +kernel
theorem d_Fl_goOn_72 : decode b_Fl_goOn 72 = .ok (.aload_n 0, 1) := by decide +kernel
theorem d_Fl_goOn_73 : decode b_Fl_goOn 73 = .ok (.getfield 9, 3) := by decide +kernel
theorem d_Fl_goOn_76 : decode b_Fl_goOn 76 = .ok (.iload_n 2, 1) := by decide +kernel
theorem d_Fl_goOn_77 : decode b_Fl_goOn 77 = .ok (.invokevirtual 85, 3) := by decide +kernel
theorem d_Fl_goOn_80 : decode b_Fl_goOn 80 = .ok (.iload 5, 2) := by decide +kernel
theorem d_Fl_goOn_82 : decode b_Fl_goOn 82 = .ok (.invokevirtual 48, 3) := by decide +kernel
theorem d_Fl_goOn_85 : decode b_Fl_goOn 85 = .ok (.return_, 1) := by decide +kernel
def y_Fl_workOut : MethodName := ⟨"FrameVerifier$Flow", "workOut", "(I)V"⟩
abbrev b_Fl_workOut : ByteArray := prog_4_method_3_code
def rm_Fl_workOut : Room := { frames := 9, cells := 0, slots := 0, locals := 208 }
abbrev w_Fl_workOut : List Cond := Cond.code y_Fl_workOut b_Fl_workOut 4 none :: wG
theorem m_Fl_workOut : Cond.code y_Fl_workOut b_Fl_workOut 4 none ∈ wG := wg_t 183 (by decide +kernel) (by decide +kernel)
theorem q_Fl_workOut : y_Fl_workOut.cls ≠ "java/lang/invoke/MethodHandle" ∧ y_Fl_workOut.cls ≠ "java/lang/invoke/VarHandle" ∧ (parseMethodDescriptor y_Fl_workOut.desc).map (fun d => d.parameters.length) = some 1 := by decide +kernel
theorem g_Fl_workOut : Cond.initialized y_Fl_workOut.cls ∈ wG := wg_t 3 (by decide +kernel) (by decide +kernel)
theorem s_Fl_workOut : Cond.instanceMethod y_Fl_workOut ∈ wG := wg_t 181 (by decide +kernel) (by decide +kernel)
theorem e_Fl_workOut : Cond.selects "FrameVerifier$Flow" y_Fl_workOut y_Fl_workOut ∈ wG := wg_t 182 (by decide +kernel) (by decide +kernel)
theorem d_Fl_workOut_0 : decode b_Fl_workOut 0 = .ok (.aload_n 0, 1) := by decide +kernel
theorem d_Fl_workOut_1 : decode b_Fl_workOut 1 = .ok (.getfield 15, 3) := by decide +kernel
theorem d_Fl_workOut_4 : decode b_Fl_workOut 4 = .ok (.iload_n 1, 1) := by decide +kernel
theorem d_Fl_workOut_5 : decode b_Fl_workOut 5 = .ok (.baload, 1) := by decide +kernel
theorem d_Fl_workOut_6 : decode b_Fl_workOut 6 = .ok (.ifCond .eq (4), 3) := by decide +kernel
theorem d_Fl_workOut_9 : decode b_Fl_workOut 9 = .ok (.return_, 1) := by decide +kernel
theorem d_Fl_workOut_10 : decode b_Fl_workOut 10 = .ok (.aload_n 0, 1) := by decide +kernel
theorem d_Fl_workOut_11 : decode b_Fl_workOut 11 = .ok (.iload_n 1, 1) := by decide +kernel
theorem d_Fl_workOut_12 : decode b_Fl_workOut 12 = .ok (.invokevirtual 31, 3) := by decide +kernel
theorem d_Fl_workOut_15 : decode b_Fl_workOut 15 = .ok (.aload_n 0, 1) := by decide +kernel
theorem d_Fl_workOut_16 : decode b_Fl_workOut 16 = .ok (.getfield 9, 3) := by decide +kernel
theorem d_Fl_workOut_19 : decode b_Fl_workOut 19 = .ok (.aload_n 0, 1) := by decide +kernel
theorem d_Fl_workOut_20 : decode b_Fl_workOut 20 = .ok (.getfield 9, 3) := by decide +kernel
theorem d_Fl_workOut_23 : decode b_Fl_workOut 23 = .ok (.iload_n 1, 1) := by decide +kernel
theorem d_Fl_workOut_24 : decode b_Fl_workOut 24 = .ok (.invokevirtual 35, 3) := by decide +kernel
theorem d_Fl_workOut_27 : decode b_Fl_workOut 27 = .ok (.invokevirtual 41, 3) := by decide +kernel
theorem d_Fl_workOut_30 : decode b_Fl_workOut 30 = .ok (.ifCond .eq (24), 3) := by decide +kernel
theorem d_Fl_workOut_33 : decode b_Fl_workOut 33 = .ok (.aload_n 0, 1) := by decide +kernel
theorem d_Fl_workOut_34 : decode b_Fl_workOut 34 = .ok (.iload_n 1, 1) := by decide +kernel
theorem d_Fl_workOut_35 : decode b_Fl_workOut 35 = .ok (.aload_n 0, 1) := by decide +kernel
theorem d_Fl_workOut_36 : decode b_Fl_workOut 36 = .ok (.getfield 9, 3) := by decide +kernel
theorem d_Fl_workOut_39 : decode b_Fl_workOut 39 = .ok (.iload_n 1, 1) := by decide +kernel
theorem d_Fl_workOut_40 : decode b_Fl_workOut 40 = .ok (.invokevirtual 35, 3) := by decide +kernel
theorem d_Fl_workOut_43 : decode b_Fl_workOut 43 = .ok (.aload_n 0, 1) := by decide +kernel
theorem d_Fl_workOut_44 : decode b_Fl_workOut 44 = .ok (.getfield 9, 3) := by decide +kernel
theorem d_Fl_workOut_47 : decode b_Fl_workOut 47 = .ok (.iload_n 1, 1) := by decide +kernel
theorem d_Fl_workOut_48 : decode b_Fl_workOut 48 = .ok (.invokevirtual 45, 3) := by decide +kernel
theorem d_Fl_workOut_51 : decode b_Fl_workOut 51 = .ok (.invokevirtual 48, 3) := by decide +kernel
theorem d_Fl_workOut_54 : decode b_Fl_workOut 54 = .ok (.iconst 0, 1) := by decide +kernel
theorem d_Fl_workOut_55 : decode b_Fl_workOut 55 = .ok (.istore_n 2, 1) := by decide +kernel
theorem d_Fl_workOut_56 : decode b_Fl_workOut 56 = .ok (.iload_n 2, 1) := by decide +kernel
theorem d_Fl_workOut_57 : decode b_Fl_workOut 57 = .ok (.sipush (1400), 3) := by decide +kernel
theorem d_Fl_workOut_60 : decode b_Fl_workOut 60 = .ok (.if_icmp .gt (28), 3) := by decide +kernel
theorem d_Fl_workOut_63 : decode b_Fl_workOut 63 = .ok (.aload_n 0, 1) := by decide +kernel
theorem d_Fl_workOut_64 : decode b_Fl_workOut 64 = .ok (.invokevirtual 52, 3) := by decide +kernel
theorem d_Fl_workOut_67 : decode b_Fl_workOut 67 = .ok (.istore_n 3, 1) := by decide +kernel
theorem d_Fl_workOut_68 : decode b_Fl_workOut 68 = .ok (.iload_n 3, 1) := by decide +kernel
theorem d_Fl_workOut_69 : decode b_Fl_workOut 69 = .ok (.iconst (-1), 1) := by decide +kernel
theorem d_Fl_workOut_70 : decode b_Fl_workOut 70 = .ok (.if_icmp .ne (6), 3) := by decide +kernel
theorem d_Fl_workOut_73 : decode b_Fl_workOut 73 = .ok (.goto (15), 3) := by decide +kernel
theorem d_Fl_workOut_76 : decode b_Fl_workOut 76 = .ok (.aload_n 0, 1) := by decide +kernel
theorem d_Fl_workOut_77 : decode b_Fl_workOut 77 = .ok (.iload_n 1, 1) := by decide +kernel
theorem d_Fl_workOut_78 : decode b_Fl_workOut 78 = .ok (.iload_n 3, 1) := by decide +kernel
theorem d_Fl_workOut_79 : decode b_Fl_workOut 79 = .ok (.invokevirtual 56, 3) := by decide +kernel
theorem d_Fl_workOut_82 : decode b_Fl_workOut 82 = .ok (.iinc 2 (1), 3) := by decide +kernel
theorem d_Fl_workOut_85 : decode b_Fl_workOut 85 = .ok (.goto (-29), 3) := by decide +kernel
theorem d_Fl_workOut_88 : decode b_Fl_workOut 88 = .ok (.aload_n 0, 1) := by decide +kernel
theorem d_Fl_workOut_89 : decode b_Fl_workOut 89 = .ok (.getfield 15, 3) := by decide +kernel
theorem d_Fl_workOut_92 : decode b_Fl_workOut 92 = .ok (.iload_n 1, 1) := by decide +kernel
theorem d_Fl_workOut_93 : decode b_Fl_workOut 93 = .ok (.iconst 1, 1) := by decide +kernel
theorem d_Fl_workOut_94 : decode b_Fl_workOut 94 = .ok (.bastore, 1) := by decide +kernel
theorem d_Fl_workOut_95 : decode b_Fl_workOut 95 = .ok (.return_, 1) := by decide +kernel
def y_Fl_stateOf : MethodName := ⟨"FrameVerifier$Flow", "stateOf", "(II)I"⟩
abbrev b_Fl_stateOf : ByteArray := prog_4_method_4_code
def rm_Fl_stateOf : Room := { frames := 0, cells := 0, slots := 0, locals := 0 }
abbrev w_Fl_stateOf : List Cond := Cond.code y_Fl_stateOf b_Fl_stateOf 3 (some .int) :: wG
theorem m_Fl_stateOf : Cond.code y_Fl_stateOf b_Fl_stateOf 3 (some .int) ∈ wG := wg_t 381 (by decide +kernel) (by decide +kernel)
theorem q_Fl_stateOf : y_Fl_stateOf.cls ≠ "java/lang/invoke/MethodHandle" ∧ y_Fl_stateOf.cls ≠ "java/lang/invoke/VarHandle" ∧ (parseMethodDescriptor y_Fl_stateOf.desc).map (fun d => d.parameters.length) = some 2 := by decide +kernel
theorem g_Fl_stateOf : Cond.initialized y_Fl_stateOf.cls ∈ wG := wg_t 3 (by decide +kernel) (by decide +kernel)
theorem s_Fl_stateOf : Cond.instanceMethod y_Fl_stateOf ∈ wG := wg_t 379 (by decide +kernel) (by decide +kernel)
theorem e_Fl_stateOf : Cond.selects "FrameVerifier$Flow" y_Fl_stateOf y_Fl_stateOf ∈ wG := wg_t 380 (by decide +kernel) (by decide +kernel)
theorem d_Fl_stateOf_0 : decode b_Fl_stateOf 0 = .ok (.aload_n 0, 1) := by decide +kernel
theorem d_Fl_stateOf_1 : decode b_Fl_stateOf 1 = .ok (.getfield 21, 3) := by decide +kernel
theorem d_Fl_stateOf_4 : decode b_Fl_stateOf 4 = .ok (.iload_n 1, 1) := by decide +kernel
theorem d_Fl_stateOf_5 : decode b_Fl_stateOf 5 = .ok (.aaload, 1) := by decide +kernel
theorem d_Fl_stateOf_6 : decode b_Fl_stateOf 6 = .ok (.iload_n 2, 1) := by decide +kernel
theorem d_Fl_stateOf_7 : decode b_Fl_stateOf 7 = .ok (.iaload, 1) := by decide +kernel
theorem d_Fl_stateOf_8 : decode b_Fl_stateOf 8 = .ok (.ireturn, 1) := by decide +kernel
def y_Fl_leastUnfit : MethodName := ⟨"FrameVerifier$Flow", "leastUnfit", "(I)I"⟩
abbrev b_Fl_leastUnfit : ByteArray := prog_4_method_5_code
def rm_Fl_leastUnfit : Room := { frames := 8, cells := 0, slots := 0, locals := 183 }
abbrev w_Fl_leastUnfit : List Cond := Cond.code y_Fl_leastUnfit b_Fl_leastUnfit 4 (some .int) :: wG
theorem m_Fl_leastUnfit : Cond.code y_Fl_leastUnfit b_Fl_leastUnfit 4 (some .int) ∈ wG := wg_t 368 (by decide +kernel) (by decide +kernel)
theorem q_Fl_leastUnfit : y_Fl_leastUnfit.cls ≠ "java/lang/invoke/MethodHandle" ∧ y_Fl_leastUnfit.cls ≠ "java/lang/invoke/VarHandle" ∧ (parseMethodDescriptor y_Fl_leastUnfit.desc).map (fun d => d.parameters.length) = some 1 := by decide +kernel
theorem g_Fl_leastUnfit : Cond.initialized y_Fl_leastUnfit.cls ∈ wG := wg_t 3 (by decide +kernel) (by decide +kernel)
theorem s_Fl_leastUnfit : Cond.instanceMethod y_Fl_leastUnfit ∈ wG := wg_t 366 (by decide +kernel) (by decide +kernel)
theorem e_Fl_leastUnfit : Cond.selects "FrameVerifier$Flow" y_Fl_leastUnfit y_Fl_leastUnfit ∈ wG := wg_t 367 (by decide +kernel) (by decide +kernel)
theorem d_Fl_leastUnfit_0 : decode b_Fl_leastUnfit 0 = .ok (.aload_n 0, 1) := by decide +kernel
theorem d_Fl_leastUnfit_1 : decode b_Fl_leastUnfit 1 = .ok (.getfield 9, 3) := by decide +kernel
theorem d_Fl_leastUnfit_4 : decode b_Fl_leastUnfit 4 = .ok (.aload_n 0, 1) := by decide +kernel
theorem d_Fl_leastUnfit_5 : decode b_Fl_leastUnfit 5 = .ok (.getfield 9, 3) := by decide +kernel
theorem d_Fl_leastUnfit_8 : decode b_Fl_leastUnfit 8 = .ok (.iload_n 1, 1) := by decide +kernel
theorem d_Fl_leastUnfit_9 : decode b_Fl_leastUnfit 9 = .ok (.invokevirtual 35, 3) := by decide +kernel
theorem d_Fl_leastUnfit_12 : decode b_Fl_leastUnfit 12 = .ok (.invokevirtual 41, 3) := by decide +kernel
theorem d_Fl_leastUnfit_15 : decode b_Fl_leastUnfit 15 = .ok (.ifCond .ne (7), 3) := by decide +kernel
theorem d_Fl_leastUnfit_18 : decode b_Fl_leastUnfit 18 = .ok (.sipush (999), 3) := by decide +kernel
theorem d_Fl_leastUnfit_21 : decode b_Fl_leastUnfit 21 = .ok (.ireturn, 1) := by decide +kernel
theorem d_Fl_leastUnfit_22 : decode b_Fl_leastUnfit 22 = .ok (.iconst 0, 1) := by decide +kernel
theorem d_Fl_leastUnfit_23 : decode b_Fl_leastUnfit 23 = .ok (.istore_n 2, 1) := by decide +kernel
theorem d_Fl_leastUnfit_24 : decode b_Fl_leastUnfit 24 = .ok (.iload_n 2, 1) := by decide +kernel
theorem d_Fl_leastUnfit_25 : decode b_Fl_leastUnfit 25 = .ok (.aload_n 0, 1) := by decide +kernel
theorem d_Fl_leastUnfit_26 : decode b_Fl_leastUnfit 26 = .ok (.getfield 9, 3) := by decide +kernel
theorem d_Fl_leastUnfit_29 : decode b_Fl_leastUnfit 29 = .ok (.getfield 60, 3) := by decide +kernel
theorem d_Fl_leastUnfit_32 : decode b_Fl_leastUnfit 32 = .ok (.if_icmp .ge (38), 3) := by decide +kernel
theorem d_Fl_leastUnfit_35 : decode b_Fl_leastUnfit 35 = .ok (.aload_n 0, 1) := by decide +kernel
theorem d_Fl_leastUnfit_36 : decode b_Fl_leastUnfit 36 = .ok (.getfield 21, 3) := by decide +kernel
theorem d_Fl_leastUnfit_39 : decode b_Fl_leastUnfit 39 = .ok (.iload_n 1, 1) := by decide +kernel
theorem d_Fl_leastUnfit_40 : decode b_Fl_leastUnfit 40 = .ok (.aaload, 1) := by decide +kernel
theorem d_Fl_leastUnfit_41 : decode b_Fl_leastUnfit 41 = .ok (.iload_n 2, 1) := by decide +kernel
theorem d_Fl_leastUnfit_42 : decode b_Fl_leastUnfit 42 = .ok (.iaload, 1) := by decide +kernel
theorem d_Fl_leastUnfit_43 : decode b_Fl_leastUnfit 43 = .ok (.istore_n 3, 1) := by decide +kernel
theorem d_Fl_leastUnfit_44 : decode b_Fl_leastUnfit 44 = .ok (.iload_n 3, 1) := by decide +kernel
theorem d_Fl_leastUnfit_45 : decode b_Fl_leastUnfit 45 = .ok (.iconst (-1), 1) := by decide +kernel
theorem d_Fl_leastUnfit_46 : decode b_Fl_leastUnfit 46 = .ok (.if_icmp .eq (18), 3) := by decide +kernel
theorem d_Fl_leastUnfit_49 : decode b_Fl_leastUnfit 49 = .ok (.aload_n 0, 1) := by decide +kernel
theorem d_Fl_leastUnfit_50 : decode b_Fl_leastUnfit 50 = .ok (.getfield 9, 3) := by decide +kernel
theorem d_Fl_leastUnfit_53 : decode b_Fl_leastUnfit 53 = .ok (.iload_n 1, 1) := by decide +kernel
theorem d_Fl_leastUnfit_54 : decode b_Fl_leastUnfit 54 = .ok (.iload_n 2, 1) := by decide +kernel
theorem d_Fl_leastUnfit_55 : decode b_Fl_leastUnfit 55 = .ok (.iload_n 3, 1) := by decide +kernel
theorem d_Fl_leastUnfit_56 : decode b_Fl_leastUnfit 56 = .ok (.invokevirtual 63, 3) := by decide +kernel
theorem d_Fl_leastUnfit_59 : decode b_Fl_leastUnfit 59 = .ok (.ifCond .ne (5), 3) := by decide +kernel
theorem d_Fl_leastUnfit_62 : decode b_Fl_leastUnfit 62 = .ok (.iload_n 2, 1) := by decide +kernel
theorem d_Fl_leastUnfit_63 : decode b_Fl_leastUnfit 63 = .ok (.ireturn, 1) := by decide +kernel
theorem d_Fl_leastUnfit_64 : decode b_Fl_leastUnfit 64 = .ok (.iinc 2 (1), 3) := by decide +kernel
theorem d_Fl_leastUnfit_67 : decode b_Fl_leastUnfit 67 = .ok (.goto (-43), 3) := by decide +kernel
theorem d_Fl_leastUnfit_70 : decode b_Fl_leastUnfit 70 = .ok (.iconst (-1), 1) := by decide +kernel
theorem d_Fl_leastUnfit_71 : decode b_Fl_leastUnfit 71 = .ok (.ireturn, 1) := by decide +kernel
theorem wd_12 : (Jvm.Cond.initialized "java/lang/Math") ∈ wG := wg_t 12 (by decide +kernel) (by decide +kernel)
theorem wd_42 : (Jvm.Cond.fieldLink "FrameVerifier$Flow" (60 : Nat) "FrameVerifier$Code" "count" "I") ∈ wG := wg_t 42 (by decide +kernel) (by decide +kernel)
theorem wd_74 : (Jvm.Cond.fieldLink "FrameVerifier$Flow" (9 : Nat) "FrameVerifier$Flow" "code" "LFrameVerifier$Code;") ∈ wG := wg_t 74 (by decide +kernel) (by decide +kernel)
theorem wd_75 : (Jvm.Cond.fieldLink "FrameVerifier$Flow" (15 : Nat) "FrameVerifier$Flow" "known" "[Z") ∈ wG := wg_t 75 (by decide +kernel) (by decide +kernel)
theorem wd_76 : (Jvm.Cond.fieldLink "FrameVerifier$Flow" (21 : Nat) "FrameVerifier$Flow" "states" "[[I") ∈ wG := wg_t 76 (by decide +kernel) (by decide +kernel)
theorem wd_77 : (Jvm.Cond.fieldLink "FrameVerifier$Flow" (24 : Nat) "FrameVerifier$Flow" "waiting" "[Z") ∈ wG := wg_t 77 (by decide +kernel) (by decide +kernel)
theorem wd_78 : (Jvm.Cond.fieldLink "FrameVerifier$Flow" (27 : Nat) "FrameVerifier$Flow" "waitingFrom" "I") ∈ wG := wg_t 78 (by decide +kernel) (by decide +kernel)
theorem wd_221 : (Jvm.Cond.methodLink "FrameVerifier$Flow" (93 : Nat) ({ cls := "java/lang/Math", name := "min", desc := "(II)I" } : Jvm.MethodName)) ∈ wG := wg_t 221 (by decide +kernel) (by decide +kernel)
theorem wd_222 : (Jvm.Cond.static ({ cls := "java/lang/Math", name := "min", desc := "(II)I" } : Jvm.MethodName)) ∈ wG := wg_t 222 (by decide +kernel) (by decide +kernel)
theorem wd_223 : (Jvm.Cond.code ({ cls := "java/lang/Math", name := "min", desc := "(II)I" } : Jvm.MethodName) prog_18_method_69_code (2 : Nat) (Option.some Jvm.ClassFile.FieldType.int)) ∈ wG := wg_t 223 (by decide +kernel) (by decide +kernel)
theorem wd_993 : (Jvm.Cond.fieldLink "FrameVerifier$Flow" (75 : Nat) "FrameVerifier$Op" "goesBehind" "Z") ∈ wG := wg_t 993 (by decide +kernel) (by decide +kernel)
theorem k_Fl_31 {R : Room} {s : State} {args : Array Value} {Ts : List Cond} (hts : ∀ w ∈ Ts, w.before args s = true) (hsub : ∀ w ∈ wG, w ∈ Ts) (hR : rm_Fl_clear.frames + 1 ≤ R.frames ∧ 8 + (3 + 11) + rm_Fl_clear.locals ≤ R.locals) : CallW R s args "FrameVerifier$Flow" "FrameVerifier$Flow" 31 y_Fl_clear b_Fl_clear 3 none w_Fl_clear rm_Fl_clear 0 0 1 := ⟨cb_G hts hsub m_Fl_clear g_Fl_clear (wg_t 184 (by decide +kernel) (by decide +kernel) : Cond.methodLink "FrameVerifier$Flow" 31 y_Fl_clear ∈ wG) q_Fl_clear rfl rfl hR, hts _ (hsub _ s_Fl_clear), hts _ (hsub _ e_Fl_clear)⟩
theorem k_Fl_35 {R : Room} {s : State} {args : Array Value} {Ts : List Cond} (hts : ∀ w ∈ Ts, w.before args s = true) (hsub : ∀ w ∈ wG, w ∈ Ts) (hR : rm_Co_startOf.frames + 1 ≤ R.frames ∧ 8 + (2 + 11) + rm_Co_startOf.locals ≤ R.locals) : CallW R s args "FrameVerifier$Flow" "FrameVerifier$Code" 35 y_Co_startOf b_Co_startOf 2 (some .int) w_Co_startOf rm_Co_startOf 0 0 1 := ⟨cb_G hts hsub m_Co_startOf g_Co_startOf (wg_t 188 (by decide +kernel) (by decide +kernel) : Cond.methodLink "FrameVerifier$Flow" 35 y_Co_startOf ∈ wG) q_Co_startOf rfl rfl hR, hts _ (hsub _ s_Co_startOf), hts _ (hsub _ e_Co_startOf)⟩
theorem k_Fl_41 {R : Room} {s : State} {args : Array Value} {Ts : List Cond} (hts : ∀ w ∈ Ts, w.before args s = true) (hsub : ∀ w ∈ wG, w ∈ Ts) (hR : rm_Co_hasInstruction.frames + 1 ≤ R.frames ∧ 8 + (2 + 11) + rm_Co_hasInstruction.locals ≤ R.locals) : CallW R s args "FrameVerifier$Flow" "FrameVerifier$Code" 41 y_Co_hasInstruction b_Co_hasInstruction 2 (some .boolean) w_Co_hasInstruction rm_Co_hasInstruction 0 0 1 := ⟨cb_G hts hsub m_Co_hasInstruction g_Co_hasInstruction (wg_t 192 (by decide +kernel) (by decide +kernel) : Cond.methodLink "FrameVerifier$Flow" 41 y_Co_hasInstruction ∈ wG) q_Co_hasInstruction rfl rfl hR, hts _ (hsub _ s_Co_hasInstruction), hts _ (hsub _ e_Co_hasInstruction)⟩
theorem k_Fl_45 {R : Room} {s : State} {args : Array Value} {Ts : List Cond} (hts : ∀ w ∈ Ts, w.before args s = true) (hsub : ∀ w ∈ wG, w ∈ Ts) (hR : rm_Co_firstState.frames + 1 ≤ R.frames ∧ 8 + (4 + 11) + rm_Co_firstState.locals ≤ R.locals) : CallW R s args "FrameVerifier$Flow" "FrameVerifier$Code" 45 y_Co_firstState b_Co_firstState 4 (some .int) w_Co_firstState rm_Co_firstState 0 0 1 := ⟨cb_G hts hsub m_Co_firstState g_Co_firstState (wg_t 196 (by decide +kernel) (by decide +kernel) : Cond.methodLink "FrameVerifier$Flow" 45 y_Co_firstState ∈ wG) q_Co_firstState rfl rfl hR, hts _ (hsub _ s_Co_firstState), hts _ (hsub _ e_Co_firstState)⟩
theorem k_Fl_48 {R : Room} {s : State} {args : Array Value} {Ts : List Cond} (hts : ∀ w ∈ Ts, w.before args s = true) (hsub : ∀ w ∈ wG, w ∈ Ts) (hR : rm_Fl_meet.frames + 1 ≤ R.frames ∧ 8 + (5 + 11) + rm_Fl_meet.locals ≤ R.locals) : CallW R s args "FrameVerifier$Flow" "FrameVerifier$Flow" 48 y_Fl_meet b_Fl_meet 5 none w_Fl_meet rm_Fl_meet 0 0 3 := ⟨cb_G hts hsub m_Fl_meet g_Fl_meet (wg_t 207 (by decide +kernel) (by decide +kernel) : Cond.methodLink "FrameVerifier$Flow" 48 y_Fl_meet ∈ wG) q_Fl_meet rfl rfl hR, hts _ (hsub _ s_Fl_meet), hts _ (hsub _ e_Fl_meet)⟩
theorem k_Fl_52 {R : Room} {s : State} {args : Array Value} {Ts : List Cond} (hts : ∀ w ∈ Ts, w.before args s = true) (hsub : ∀ w ∈ wG, w ∈ Ts) (hR : rm_Fl_takeLeastWaiting.frames + 1 ≤ R.frames ∧ 8 + (2 + 11) + rm_Fl_takeLeastWaiting.locals ≤ R.locals) : CallW R s args "FrameVerifier$Flow" "FrameVerifier$Flow" 52 y_Fl_takeLeastWaiting b_Fl_takeLeastWaiting 2 (some .int) w_Fl_takeLeastWaiting rm_Fl_takeLeastWaiting 0 0 0 := ⟨cb_G hts hsub m_Fl_takeLeastWaiting g_Fl_takeLeastWaiting (wg_t 224 (by decide +kernel) (by decide +kernel) : Cond.methodLink "FrameVerifier$Flow" 52 y_Fl_takeLeastWaiting ∈ wG) q_Fl_takeLeastWaiting rfl rfl hR, hts _ (hsub _ s_Fl_takeLeastWaiting), hts _ (hsub _ e_Fl_takeLeastWaiting)⟩
theorem k_Fl_56 {R : Room} {s : State} {args : Array Value} {Ts : List Cond} (hts : ∀ w ∈ Ts, w.before args s = true) (hsub : ∀ w ∈ wG, w ∈ Ts) (hR : rm_Fl_goOn.frames + 1 ≤ R.frames ∧ 8 + (6 + 11) + rm_Fl_goOn.locals ≤ R.locals) : CallW R s args "FrameVerifier$Flow" "FrameVerifier$Flow" 56 y_Fl_goOn b_Fl_goOn 6 none w_Fl_goOn rm_Fl_goOn 0 0 2 := ⟨cb_G hts hsub m_Fl_goOn g_Fl_goOn (wg_t 228 (by decide +kernel) (by decide +kernel) : Cond.methodLink "FrameVerifier$Flow" 56 y_Fl_goOn ∈ wG) q_Fl_goOn rfl rfl hR, hts _ (hsub _ s_Fl_goOn), hts _ (hsub _ e_Fl_goOn)⟩
theorem k_Fl_63 {R : Room} {s : State} {args : Array Value} {Ts : List Cond} (hts : ∀ w ∈ Ts, w.before args s = true) (hsub : ∀ w ∈ wG, w ∈ Ts) (hR : rm_Co_fits.frames + 1 ≤ R.frames ∧ 8 + (6 + 11) + rm_Co_fits.locals ≤ R.locals) : CallW R s args "FrameVerifier$Flow" "FrameVerifier$Code" 63 y_Co_fits b_Co_fits 6 (some .boolean) w_Co_fits rm_Co_fits 0 0 3 := ⟨cb_G hts hsub m_Co_fits g_Co_fits (wg_t 232 (by decide +kernel) (by decide +kernel) : Cond.methodLink "FrameVerifier$Flow" 63 y_Co_fits ∈ wG) q_Co_fits rfl rfl hR, hts _ (hsub _ s_Co_fits), hts _ (hsub _ e_Co_fits)⟩
theorem k_Fl_67 {R : Room} {s : State} {args : Array Value} {Ts : List Cond} (hts : ∀ w ∈ Ts, w.before args s = true) (hsub : ∀ w ∈ wG, w ∈ Ts) (hR : rm_Co_opAt.frames + 1 ≤ R.frames ∧ 8 + (2 + 11) + rm_Co_opAt.locals ≤ R.locals) : CallW R s args "FrameVerifier$Flow" "FrameVerifier$Code" 67 y_Co_opAt b_Co_opAt 2 (some (.object "FrameVerifier$Op")) w_Co_opAt rm_Co_opAt 0 0 1 := ⟨cb_G hts hsub m_Co_opAt g_Co_opAt (wg_t 358 (by decide +kernel) (by decide +kernel) : Cond.methodLink "FrameVerifier$Flow" 67 y_Co_opAt ∈ wG) q_Co_opAt rfl rfl hR, hts _ (hsub _ s_Co_opAt), hts _ (hsub _ e_Co_opAt)⟩
theorem k_Fl_71 {R : Room} {s : State} {args : Array Value} {Ts : List Cond} (hts : ∀ w ∈ Ts, w.before args s = true) (hsub : ∀ w ∈ wG, w ∈ Ts) (hR : rm_Co_after.frames + 1 ≤ R.frames ∧ 8 + (6 + 11) + rm_Co_after.locals ≤ R.locals) : CallW R s args "FrameVerifier$Flow" "FrameVerifier$Code" 71 y_Co_after b_Co_after 6 (some .int) w_Co_after rm_Co_after 0 0 2 := ⟨cb_G hts hsub m_Co_after g_Co_after (wg_t 359 (by decide +kernel) (by decide +kernel) : Cond.methodLink "FrameVerifier$Flow" 71 y_Co_after ∈ wG) q_Co_after rfl rfl hR, hts _ (hsub _ s_Co_after), hts _ (hsub _ e_Co_after)⟩
theorem k_Fl_81 {R : Room} {s : State} {args : Array Value} {Ts : List Cond} (hts : ∀ w ∈ Ts, w.before args s = true) (hsub : ∀ w ∈ wG, w ∈ Ts) (hR : rm_Op_jumps.frames + 1 ≤ R.frames ∧ 8 + (1 + 11) + rm_Op_jumps.locals ≤ R.locals) : CallW R s args "FrameVerifier$Flow" "FrameVerifier$Op" 81 y_Op_jumps b_Op_jumps 1 (some .boolean) w_Op_jumps rm_Op_jumps 0 0 0 := ⟨cb_G hts hsub m_Op_jumps g_Op_jumps (wg_t 360 (by decide +kernel) (by decide +kernel) : Cond.methodLink "FrameVerifier$Flow" 81 y_Op_jumps ∈ wG) q_Op_jumps rfl rfl hR, hts _ (hsub _ s_Op_jumps), hts _ (hsub _ e_Op_jumps)⟩
theorem k_Fl_85 {R : Room} {s : State} {args : Array Value} {Ts : List Cond} (hts : ∀ w ∈ Ts, w.before args s = true) (hsub : ∀ w ∈ wG, w ∈ Ts) (hR : rm_Co_numberAt.frames + 1 ≤ R.frames ∧ 8 + (2 + 11) + rm_Co_numberAt.locals ≤ R.locals) : CallW R s args "FrameVerifier$Flow" "FrameVerifier$Code" 85 y_Co_numberAt b_Co_numberAt 2 (some .int) w_Co_numberAt rm_Co_numberAt 0 0 1 := ⟨cb_G hts hsub m_Co_numberAt g_Co_numberAt (wg_t 361 (by decide +kernel) (by decide +kernel) : Cond.methodLink "FrameVerifier$Flow" 85 y_Co_numberAt ∈ wG) q_Co_numberAt rfl rfl hR, hts _ (hsub _ s_Co_numberAt), hts _ (hsub _ e_Co_numberAt)⟩
theorem k_Fl_88 {R : Room} {s : State} {args : Array Value} {Ts : List Cond} (hts : ∀ w ∈ Ts, w.before args s = true) (hsub : ∀ w ∈ wG, w ∈ Ts) (hR : rm_Ty_met.frames + 1 ≤ R.frames ∧ 8 + (4 + 11) + rm_Ty_met.locals ≤ R.locals) : CallB R s args "FrameVerifier$Flow" 88 y_Ty_met b_Ty_met 4 (some .int) w_Ty_met rm_Ty_met 0 0 2 ∧ (Cond.static y_Ty_met).before args s = true := ⟨cb_G hts hsub m_Ty_met g_Ty_met (wg_t 211 (by decide +kernel) (by decide +kernel) : Cond.methodLink "FrameVerifier$Flow" 88 y_Ty_met ∈ wG) q_Ty_met rfl rfl hR, hts _ (hsub _ s_Ty_met)⟩
end
section
/-! contracts of 09.flow; written by wip/whole/make.py -/
def fn_Fl_forget_2  : Nat → mm_M → Int32 → Option (mm_M)
  | 0, _, _ => none
  | n + 1, σ, l1 =>
    (if (4 : Int32) ≤ l1 then
    (some σ)
    else
    (if (l1 < 0 ∨ 4 ≤ l1.toNatClampNeg) then none else (nm (mw σ 9 l1.toNatClampNeg (0 : Int32)) (fun σ3 =>
    (fn_Fl_forget_2  n σ3 (l1 + (1 : Int32)))))))
def fn_Fl_forget (σ : mm_M)  : Option (mm_M) :=
    (fn_Fl_forget_2  fuel0 σ (0 : Int32))
set_option maxRecDepth 100000 in
set_option maxHeartbeats 40000000 in
theorem c_Fl_forget (l : Launch) (D : va_G) (ca : Nat → ClassId) (ax : Nat → Nat → Nat) (b : Nat) (σ : mm_M)   {σ' : mm_M} (hf : fn_Fl_forget σ  = some σ') : Met l y_Fl_forget w_Fl_forget rm_Fl_forget (pc_w D cls b N_C (ce_C ca b) (kC D ca ax b) [.ref (b + 8)] σ) (qc_v D cls b N_C (ce_C ca b) σ') 0 0 (mm_A b N_C) := by
  refine vv_go (cc := b_Fl_forget) (maxL := 2) (ret := none) (fin := σ') (k := fn_Fl_forget σ ) (by decide) rfl (by simp [Value.category]) (Nat.le_of_ble_eq_true rfl) hf ?_
  intro p e s m below meth c hlocks hret S hKK
  have C2 : ∀ (n : Nat) (σ : mm_M) (l1 : Int32), vv p l e (headSpec w_Fl_forget rm_Fl_forget).room s m [.ref (b + 8)].toArray below meth c D cls b N_C (ce_C ca b) 2 (MQ below (qc_v D cls b N_C (ce_C ca b) σ') [.ref (b + 8)].toArray s 0 0 (mm_A b N_C)) σ' (fn_Fl_forget_2  n σ l1) σ 2 [some (.ref (b + 8)), some (.int l1)] [] := by
    intro n
    induction n with
    | zero => intro σ l1  h; cases h
    | succ n ih =>
      intro σ l1
      show vv p l e (headSpec w_Fl_forget rm_Fl_forget).room s m [.ref (b + 8)].toArray below meth c D cls b N_C (ce_C ca b) 2 (MQ below (qc_v D cls b N_C (ce_C ca b) σ') [.ref (b + 8)].toArray s 0 0 (mm_A b N_C)) σ' (        (if (4 : Int32) ≤ l1 then
        (some σ)
        else
        (if (l1 < 0 ∨ 4 ≤ l1.toNatClampNeg) then none else (nm (mw σ 9 l1.toNatClampNeg (0 : Int32)) (fun σ3 =>
        (fn_Fl_forget_2  n σ3 (l1 + (1 : Int32)))))))) σ 2 [some (.ref (b + 8)), some (.int l1)] []
      refine v_iload_n S d_Fl_forget_2 rfl rfl ?_
      refine v_iconst S d_Fl_forget_3 (v := (4 : Int32)) (by decide) ?_
      refine v_icmp_ge S d_Fl_forget_4 (tgt := 20) (by decide) (fun h1 => ?_) (fun h1 => ?_)
      · exact v_vret S hret hlocks d_Fl_forget_20
      · refine v_aload_n S d_Fl_forget_7 rfl rfl ?_
        refine v_get S (fun w h => List.mem_cons_of_mem _ (i_Fl w h)) hKK.1 8 (by decide) rfl rfl 1 (by decide) (S.2.2.2.2 _ (List.mem_cons_of_mem _ (wd_75))) (fun _ h => h) rfl d_Fl_forget_8 ?_
        refine v_iload_n S d_Fl_forget_11 rfl rfl ?_
        refine v_iconst S d_Fl_forget_12 (v := (0 : Int32)) (by decide) ?_
        refine v_zast1 S hKK.1 9 1 (by decide) (fun _ => rfl) rfl (Or.inl rfl) d_Fl_forget_13 (fun h2 => ?_)
        refine v_sg (fun σ3 eσ3 => ?_)
        refine v_iinc S d_Fl_forget_14 rfl (v := (l1 + (1 : Int32))) (by first | rfl | decide) (by decide) (L2 := [some (.ref (b + 8)), some (.int (l1 + (1 : Int32)))]) rfl ?_
        refine v_goto S d_Fl_forget_17 (tgt := 2) (by decide) ?_
        refine v_sub (L2 := [some (.ref (b + 8)), some (.int (l1 + (1 : Int32)))]) (And.intro rfl (And.intro rfl True.intro)) ?_
        exact ih σ3 (l1 + (1 : Int32))
  unfold fn_Fl_forget
  refine v_iconst S d_Fl_forget_0 (v := (0 : Int32)) (by decide) ?_
  refine v_istore_nP S d_Fl_forget_1 rfl (by decide) (L2 := [some (.ref (b + 8)), some (.int (0 : Int32))]) rfl ?_
  refine v_sub (L2 := [some (.ref (b + 8)), some (.int (0 : Int32))]) (And.intro rfl (And.intro rfl True.intro)) ?_
  exact C2 fuel0 σ (0 : Int32)
def fn_Fl_clear_2 (a0 : Int32) : Nat → mm_M → Int32 → Option (mm_M)
  | 0, _, _ => none
  | n + 1, σ, l2 =>
    (if (100 : Int32) ≤ l2 then
    (nm (mw σ 8 4 (100 : Int32)) (fun σ2 =>
    (some σ2)))
    else
    (if (a0 < 0 ∨ 4 ≤ a0.toNatClampNeg) then none else
    (if (l2 < 0 ∨ 100 ≤ l2.toNatClampNeg) then none else (nm (mw σ (11 + (a0.toNatClampNeg)) l2.toNatClampNeg (-1 : Int32)) (fun σ5 =>
    (if (l2 < 0 ∨ 100 ≤ l2.toNatClampNeg) then none else (nm (mw σ5 15 l2.toNatClampNeg (0 : Int32)) (fun σ7 =>
    (fn_Fl_clear_2 a0 n σ7 (l2 + (1 : Int32)))))))))))
def fn_Fl_clear (σ : mm_M) (a0 : Int32) : Option (mm_M) :=
    (fn_Fl_clear_2 a0 fuel0 σ (0 : Int32))
set_option maxRecDepth 100000 in
set_option maxHeartbeats 40000000 in
theorem c_Fl_clear (l : Launch) (D : va_G) (ca : Nat → ClassId) (ax : Nat → Nat → Nat) (b : Nat) (σ : mm_M) (a0 : Int32)  {σ' : mm_M} (hf : fn_Fl_clear σ a0 = some σ') : Met l y_Fl_clear w_Fl_clear rm_Fl_clear (pc_w D cls b N_C (ce_C ca b) (kC D ca ax b) [.ref (b + 8), .int a0] σ) (qc_v D cls b N_C (ce_C ca b) σ') 0 0 (mm_A b N_C) := by
  refine vv_go (cc := b_Fl_clear) (maxL := 3) (ret := none) (fin := σ') (k := fn_Fl_clear σ a0) (by decide) rfl (by simp [Value.category]) (Nat.le_of_ble_eq_true rfl) hf ?_
  intro p e s m below meth c hlocks hret S hKK
  have C2 : ∀ (n : Nat) (σ : mm_M) (l2 : Int32), vv p l e (headSpec w_Fl_clear rm_Fl_clear).room s m [.ref (b + 8), .int a0].toArray below meth c D cls b N_C (ce_C ca b) 3 (MQ below (qc_v D cls b N_C (ce_C ca b) σ') [.ref (b + 8), .int a0].toArray s 0 0 (mm_A b N_C)) σ' (fn_Fl_clear_2 a0 n σ l2) σ 2 [some (.ref (b + 8)), some (.int a0), some (.int l2)] [] := by
    intro n
    induction n with
    | zero => intro σ l2  h; cases h
    | succ n ih =>
      intro σ l2
      show vv p l e (headSpec w_Fl_clear rm_Fl_clear).room s m [.ref (b + 8), .int a0].toArray below meth c D cls b N_C (ce_C ca b) 3 (MQ below (qc_v D cls b N_C (ce_C ca b) σ') [.ref (b + 8), .int a0].toArray s 0 0 (mm_A b N_C)) σ' (        (if (100 : Int32) ≤ l2 then
        (nm (mw σ 8 4 (100 : Int32)) (fun σ2 =>
        (some σ2)))
        else
        (if (a0 < 0 ∨ 4 ≤ a0.toNatClampNeg) then none else
        (if (l2 < 0 ∨ 100 ≤ l2.toNatClampNeg) then none else (nm (mw σ (11 + (a0.toNatClampNeg)) l2.toNatClampNeg (-1 : Int32)) (fun σ5 =>
        (if (l2 < 0 ∨ 100 ≤ l2.toNatClampNeg) then none else (nm (mw σ5 15 l2.toNatClampNeg (0 : Int32)) (fun σ7 =>
        (fn_Fl_clear_2 a0 n σ7 (l2 + (1 : Int32)))))))))))) σ 2 [some (.ref (b + 8)), some (.int a0), some (.int l2)] []
      refine v_iload_n S d_Fl_clear_2 rfl rfl ?_
      refine v_bipush S d_Fl_clear_3 (v := (100 : Int32)) (by decide) ?_
      refine v_icmp_ge S d_Fl_clear_5 (tgt := 30) (by decide) (fun h1 => ?_) (fun h1 => ?_)
      · refine v_aload_n S d_Fl_clear_30 rfl rfl ?_
        refine v_bipush S d_Fl_clear_31 (v := (100 : Int32)) (by decide) ?_
        refine v_puti S (fun w h => List.mem_cons_of_mem _ (i_Fl w h)) hKK.1 8 (by decide) rfl rfl 4 (by decide) (S.2.2.2.2 _ (List.mem_cons_of_mem _ (wd_78))) (fun _ h => h) t_Fl t_Fl_ok n_Fl rfl (ty := .int) rfl rfl rfl (Nat.le_of_ble_eq_true rfl) rfl d_Fl_clear_33 ?_
        refine v_sg (fun σ2 eσ2 => ?_)
        exact v_vret S hret hlocks d_Fl_clear_36
      · refine v_aload_n S d_Fl_clear_8 rfl rfl ?_
        refine v_get S (fun w h => List.mem_cons_of_mem _ (i_Fl w h)) hKK.1 8 (by decide) rfl rfl 2 (by decide) (S.2.2.2.2 _ (List.mem_cons_of_mem _ (wd_76))) (fun _ h => h) rfl d_Fl_clear_9 ?_
        refine v_iload_n S d_Fl_clear_12 rfl rfl ?_
        refine v_aald S hKK.1 10 3 (by decide) (ty := .array .int) rfl rfl rfl d_Fl_clear_13 (fun h3 => ?_)
        refine v_iload_n S d_Fl_clear_14 rfl rfl ?_
        refine v_iconst S d_Fl_clear_15 (v := (-1 : Int32)) (by decide) ?_
        refine v_iast1 S hKK.1 (11 + (a0.toNatClampNeg)) 0 (rw_lt (ib h3)) (ce_rwA (ib h3)) rfl d_Fl_clear_16 (fun h4 => ?_)
        refine v_sg (fun σ5 eσ5 => ?_)
        refine v_aload_n S d_Fl_clear_17 rfl rfl ?_
        refine v_get S (fun w h => List.mem_cons_of_mem _ (i_Fl w h)) hKK.1 8 (by decide) rfl rfl 3 (by decide) (S.2.2.2.2 _ (List.mem_cons_of_mem _ (wd_77))) (fun _ h => h) rfl d_Fl_clear_18 ?_
        refine v_iload_n S d_Fl_clear_21 rfl rfl ?_
        refine v_iconst S d_Fl_clear_22 (v := (0 : Int32)) (by decide) ?_
        refine v_zast1 S hKK.1 15 1 (by decide) (fun _ => rfl) rfl (Or.inl rfl) d_Fl_clear_23 (fun h6 => ?_)
        refine v_sg (fun σ7 eσ7 => ?_)
        refine v_iinc S d_Fl_clear_24 rfl (v := (l2 + (1 : Int32))) (by first | rfl | decide) (by decide) (L2 := [some (.ref (b + 8)), some (.int a0), some (.int (l2 + (1 : Int32)))]) rfl ?_
        refine v_goto S d_Fl_clear_27 (tgt := 2) (by decide) ?_
        refine v_sub (L2 := [some (.ref (b + 8)), some (.int a0), some (.int (l2 + (1 : Int32)))]) (And.intro rfl (And.intro rfl (And.intro rfl True.intro))) ?_
        exact ih σ7 (l2 + (1 : Int32))
  unfold fn_Fl_clear
  refine v_iconst S d_Fl_clear_0 (v := (0 : Int32)) (by decide) ?_
  refine v_istore_nP S d_Fl_clear_1 rfl (by decide) (L2 := [some (.ref (b + 8)), some (.int a0), some (.int (0 : Int32))]) rfl ?_
  refine v_sub (L2 := [some (.ref (b + 8)), some (.int a0), some (.int (0 : Int32))]) (And.intro rfl (And.intro rfl (And.intro rfl True.intro))) ?_
  exact C2 fuel0 σ (0 : Int32)
def fn_Fl_meet (σ : mm_M) (a0 : Int32) (a1 : Int32) (a2 : Int32) : Option (mm_M) :=
    (if (a0 < 0 ∨ 4 ≤ a0.toNatClampNeg) then none else
    (if (a1 < 0 ∨ 100 ≤ a1.toNatClampNeg) then none else
    (bd (fn_Ty_met σ (σ (11 + (a0.toNatClampNeg)) a1.toNatClampNeg) a2) (fun r4 σ3 =>
    (if (a0 < 0 ∨ 4 ≤ a0.toNatClampNeg) then none else
    (if (a1 < 0 ∨ 100 ≤ a1.toNatClampNeg) then none else
    (if r4 = (σ3 (11 + (a0.toNatClampNeg)) a1.toNatClampNeg) then
    (some σ3)
    else
    (if (a0 < 0 ∨ 4 ≤ a0.toNatClampNeg) then none else
    (if (a1 < 0 ∨ 100 ≤ a1.toNatClampNeg) then none else (nm (mw σ3 (11 + (a0.toNatClampNeg)) a1.toNatClampNeg r4) (fun σ10 =>
    (if (a1 < 0 ∨ 100 ≤ a1.toNatClampNeg) then none else (nm (mw σ10 15 a1.toNatClampNeg (1 : Int32)) (fun σ12 =>
    (nm (mw σ12 8 4 (mi_n (σ12 8 4) a1)) (fun σ13 =>
    (some σ13)))))))))))))))))
set_option maxRecDepth 100000 in
set_option maxHeartbeats 40000000 in
theorem c_Fl_meet (l : Launch) (D : va_G) (ca : Nat → ClassId) (ax : Nat → Nat → Nat) (b : Nat) (σ : mm_M) (a0 : Int32) (a1 : Int32) (a2 : Int32)  {σ' : mm_M} (hf : fn_Fl_meet σ a0 a1 a2 = some σ') : Met l y_Fl_meet w_Fl_meet rm_Fl_meet (pc_w D cls b N_C (ce_C ca b) (kC D ca ax b) [.ref (b + 8), .int a0, .int a1, .int a2] σ) (qc_v D cls b N_C (ce_C ca b) σ') 0 0 (mm_A b N_C) := by
  refine vv_go (cc := b_Fl_meet) (maxL := 5) (ret := none) (fin := σ') (k := fn_Fl_meet σ a0 a1 a2) (by decide) rfl (by simp [Value.category]) (Nat.le_of_ble_eq_true rfl) hf ?_
  intro p e s m below meth c hlocks hret S hKK
  unfold fn_Fl_meet
  refine v_aload_n S d_Fl_meet_0 rfl rfl ?_
  refine v_get S (fun w h => List.mem_cons_of_mem _ (i_Fl w h)) hKK.1 8 (by decide) rfl rfl 2 (by decide) (S.2.2.2.2 _ (List.mem_cons_of_mem _ (wd_76))) (fun _ h => h) rfl d_Fl_meet_1 ?_
  refine v_iload_n S d_Fl_meet_4 rfl rfl ?_
  refine v_aald S hKK.1 10 3 (by decide) (ty := .array .int) rfl rfl rfl d_Fl_meet_5 (fun h1 => ?_)
  refine v_iload_n S d_Fl_meet_6 rfl rfl ?_
  refine v_iald S hKK.1 (11 + (a0.toNatClampNeg)) 0 (rw_lt (ib h1)) (ce_rw (ib h1)) rfl d_Fl_meet_7 (fun h2 => ?_)
  refine v_iload_n S d_Fl_meet_8 rfl rfl ?_
  refine v_ci (rest := []) (fun _ _ hg H locs ls hsz hP hS => run_S (As := [.int (σ (11 + (a0.toNatClampNeg)) a1.toNatClampNeg), .int a2]) (rest := []) S kC_ok hKK (c_Ty_met l D ca ax b σ (σ (11 + (a0.toNatClampNeg)) a1.toNatClampNeg) a2 hg) (k_Fl_88 S.2.2.2.2 (fun _ => List.mem_cons_of_mem _) ⟨Nat.le_of_ble_eq_true rfl, Nat.le_of_ble_eq_true rfl⟩) rfl rfl (Nat.zero_le _) d_Fl_meet_9 hsz hP hS) (fun r4 σ3 _ => ?_)
  refine v_istoreP S d_Fl_meet_12 (by decide) (L2 := [some (.ref (b + 8)), some (.int a0), some (.int a1), some (.int a2), some (.int r4)]) rfl ?_
  refine v_iload S d_Fl_meet_14 rfl ?_
  refine v_aload_n S d_Fl_meet_16 rfl rfl ?_
  refine v_get S (fun w h => List.mem_cons_of_mem _ (i_Fl w h)) hKK.1 8 (by decide) rfl rfl 2 (by decide) (S.2.2.2.2 _ (List.mem_cons_of_mem _ (wd_76))) (fun _ h => h) rfl d_Fl_meet_17 ?_
  refine v_iload_n S d_Fl_meet_20 rfl rfl ?_
  refine v_aald S hKK.1 10 3 (by decide) (ty := .array .int) rfl rfl rfl d_Fl_meet_21 (fun h5 => ?_)
  refine v_iload_n S d_Fl_meet_22 rfl rfl ?_
  refine v_iald S hKK.1 (11 + (a0.toNatClampNeg)) 0 (rw_lt (ib h5)) (ce_rw (ib h5)) rfl d_Fl_meet_23 (fun h6 => ?_)
  refine v_icmp_eq S d_Fl_meet_24 (tgt := 56) (by decide) (fun h7 => ?_) (fun h7 => ?_)
  · exact v_vret S hret hlocks d_Fl_meet_56
  · refine v_aload_n S d_Fl_meet_27 rfl rfl ?_
    refine v_get S (fun w h => List.mem_cons_of_mem _ (i_Fl w h)) hKK.1 8 (by decide) rfl rfl 2 (by decide) (S.2.2.2.2 _ (List.mem_cons_of_mem _ (wd_76))) (fun _ h => h) rfl d_Fl_meet_28 ?_
    refine v_iload_n S d_Fl_meet_31 rfl rfl ?_
    refine v_aald S hKK.1 10 3 (by decide) (ty := .array .int) rfl rfl rfl d_Fl_meet_32 (fun h8 => ?_)
    refine v_iload_n S d_Fl_meet_33 rfl rfl ?_
    refine v_iload S d_Fl_meet_34 rfl ?_
    refine v_iast1 S hKK.1 (11 + (a0.toNatClampNeg)) 0 (rw_lt (ib h8)) (ce_rwA (ib h8)) rfl d_Fl_meet_36 (fun h9 => ?_)
    refine v_sg (fun σ10 eσ10 => ?_)
    refine v_aload_n S d_Fl_meet_37 rfl rfl ?_
    refine v_get S (fun w h => List.mem_cons_of_mem _ (i_Fl w h)) hKK.1 8 (by decide) rfl rfl 3 (by decide) (S.2.2.2.2 _ (List.mem_cons_of_mem _ (wd_77))) (fun _ h => h) rfl d_Fl_meet_38 ?_
    refine v_iload_n S d_Fl_meet_41 rfl rfl ?_
    refine v_iconst S d_Fl_meet_42 (v := (1 : Int32)) (by decide) ?_
    refine v_zast1 S hKK.1 15 1 (by decide) (fun _ => rfl) rfl (Or.inr rfl) d_Fl_meet_43 (fun h11 => ?_)
    refine v_sg (fun σ12 eσ12 => ?_)
    refine v_aload_n S d_Fl_meet_44 rfl rfl ?_
    refine v_aload_n S d_Fl_meet_45 rfl rfl ?_
    refine v_get S (fun w h => List.mem_cons_of_mem _ (i_Fl w h)) hKK.1 8 (by decide) rfl rfl 4 (by decide) (S.2.2.2.2 _ (List.mem_cons_of_mem _ (wd_78))) (fun _ h => h) rfl d_Fl_meet_46 ?_
    refine v_iload_n S d_Fl_meet_49 rfl rfl ?_
    refine v_min (rest := [.ref (b + 8)]) S (S.2.2.2.2 _ (List.mem_cons_of_mem _ wd_221)) (S.2.2.2.2 _ (List.mem_cons_of_mem _ wd_222)) (S.2.2.2.2 _ (List.mem_cons_of_mem _ wd_12)) (S.2.2.2.2 _ (List.mem_cons_of_mem _ wd_223)) (Nat.le_of_ble_eq_true rfl) (by simp [Value.category]; exact Nat.le_of_ble_eq_true rfl) d_Fl_meet_50 ?_
    refine v_puti S (fun w h => List.mem_cons_of_mem _ (i_Fl w h)) hKK.1 8 (by decide) rfl rfl 4 (by decide) (S.2.2.2.2 _ (List.mem_cons_of_mem _ (wd_78))) (fun _ h => h) t_Fl t_Fl_ok n_Fl rfl (ty := .int) rfl rfl rfl (Nat.le_of_ble_eq_true rfl) rfl d_Fl_meet_53 ?_
    refine v_sg (fun σ13 eσ13 => ?_)
    exact v_vret S hret hlocks d_Fl_meet_56
def fn_Fl_takeLeastWaiting_5  : Nat → mm_M → Int32 → Option (Int32 × mm_M)
  | 0, _, _ => none
  | n + 1, σ, l1 =>
    (if (100 : Int32) ≤ l1 then
    (nm (mw σ 8 4 (100 : Int32)) (fun σ3 =>
    (some ((-1 : Int32), σ3))))
    else
    (if (l1 < 0 ∨ 100 ≤ l1.toNatClampNeg) then none else
    (if (σ 15 l1.toNatClampNeg) = 0 then
    (fn_Fl_takeLeastWaiting_5  n σ (l1 + (1 : Int32)))
    else
    (if (l1 < 0 ∨ 100 ≤ l1.toNatClampNeg) then none else (nm (mw σ 15 l1.toNatClampNeg (0 : Int32)) (fun σ8 =>
    (nm (mw σ8 8 4 (l1 + (1 : Int32))) (fun σ9 =>
    (some (l1, σ9))))))))))
def fn_Fl_takeLeastWaiting (σ : mm_M)  : Option (Int32 × mm_M) :=
    (nm (σ 8 4) (fun x1 =>
    (fn_Fl_takeLeastWaiting_5  fuel0 σ x1)))
set_option maxRecDepth 100000 in
set_option maxHeartbeats 40000000 in
theorem c_Fl_takeLeastWaiting (l : Launch) (D : va_G) (ca : Nat → ClassId) (ax : Nat → Nat → Nat) (b : Nat) (σ : mm_M)   {r : Int32} {σ' : mm_M} (hf : fn_Fl_takeLeastWaiting σ  = some (r, σ')) : Met l y_Fl_takeLeastWaiting w_Fl_takeLeastWaiting rm_Fl_takeLeastWaiting (pc_w D cls b N_C (ce_C ca b) (kC D ca ax b) [.ref (b + 8)] σ) (qc_i D cls b N_C (ce_C ca b) r σ') 0 0 (mm_A b N_C) := by
  refine vv_go (cc := b_Fl_takeLeastWaiting) (maxL := 2) (ret := (some .int)) (fin := (r, σ')) (k := fn_Fl_takeLeastWaiting σ ) (by decide) rfl (by simp [Value.category]) (Nat.le_of_ble_eq_true rfl) hf ?_
  intro p e s m below meth c hlocks hret S hKK
  have C5 : ∀ (n : Nat) (σ : mm_M) (l1 : Int32), vv p l e (headSpec w_Fl_takeLeastWaiting rm_Fl_takeLeastWaiting).room s m [.ref (b + 8)].toArray below meth c D cls b N_C (ce_C ca b) 2 (MQ below (qc_i D cls b N_C (ce_C ca b) r σ') [.ref (b + 8)].toArray s 0 0 (mm_A b N_C)) (r, σ') (fn_Fl_takeLeastWaiting_5  n σ l1) σ 5 [some (.ref (b + 8)), some (.int l1)] [] := by
    intro n
    induction n with
    | zero => intro σ l1  h; cases h
    | succ n ih =>
      intro σ l1
      show vv p l e (headSpec w_Fl_takeLeastWaiting rm_Fl_takeLeastWaiting).room s m [.ref (b + 8)].toArray below meth c D cls b N_C (ce_C ca b) 2 (MQ below (qc_i D cls b N_C (ce_C ca b) r σ') [.ref (b + 8)].toArray s 0 0 (mm_A b N_C)) (r, σ') (        (if (100 : Int32) ≤ l1 then
        (nm (mw σ 8 4 (100 : Int32)) (fun σ3 =>
        (some ((-1 : Int32), σ3))))
        else
        (if (l1 < 0 ∨ 100 ≤ l1.toNatClampNeg) then none else
        (if (σ 15 l1.toNatClampNeg) = 0 then
        (fn_Fl_takeLeastWaiting_5  n σ (l1 + (1 : Int32)))
        else
        (if (l1 < 0 ∨ 100 ≤ l1.toNatClampNeg) then none else (nm (mw σ 15 l1.toNatClampNeg (0 : Int32)) (fun σ8 =>
        (nm (mw σ8 8 4 (l1 + (1 : Int32))) (fun σ9 =>
        (some (l1, σ9))))))))))) σ 5 [some (.ref (b + 8)), some (.int l1)] []
      refine v_iload_n S d_Fl_takeLeastWaiting_5 rfl rfl ?_
      refine v_bipush S d_Fl_takeLeastWaiting_6 (v := (100 : Int32)) (by decide) ?_
      refine v_icmp_ge S d_Fl_takeLeastWaiting_8 (tgt := 42) (by decide) (fun h2 => ?_) (fun h2 => ?_)
      · refine v_aload_n S d_Fl_takeLeastWaiting_42 rfl rfl ?_
        refine v_bipush S d_Fl_takeLeastWaiting_43 (v := (100 : Int32)) (by decide) ?_
        refine v_puti S (fun w h => List.mem_cons_of_mem _ (i_Fl w h)) hKK.1 8 (by decide) rfl rfl 4 (by decide) (S.2.2.2.2 _ (List.mem_cons_of_mem _ (wd_78))) (fun _ h => h) t_Fl t_Fl_ok n_Fl rfl (ty := .int) rfl rfl rfl (Nat.le_of_ble_eq_true rfl) rfl d_Fl_takeLeastWaiting_45 ?_
        refine v_sg (fun σ3 eσ3 => ?_)
        refine v_iconst S d_Fl_takeLeastWaiting_48 (v := (-1 : Int32)) (by decide) ?_
        exact v_iret S hret hlocks d_Fl_takeLeastWaiting_49
      · refine v_aload_n S d_Fl_takeLeastWaiting_11 rfl rfl ?_
        refine v_get S (fun w h => List.mem_cons_of_mem _ (i_Fl w h)) hKK.1 8 (by decide) rfl rfl 3 (by decide) (S.2.2.2.2 _ (List.mem_cons_of_mem _ (wd_77))) (fun _ h => h) rfl d_Fl_takeLeastWaiting_12 ?_
        refine v_iload_n S d_Fl_takeLeastWaiting_15 rfl rfl ?_
        refine v_zald S hKK.1 15 1 (by decide) rfl rfl d_Fl_takeLeastWaiting_16 (fun h4 => ?_)
        refine v_if_eq S d_Fl_takeLeastWaiting_17 (tgt := 36) (by decide) (fun h5 => ?_) (fun h5 => ?_)
        · refine v_iinc S d_Fl_takeLeastWaiting_36 rfl (v := (l1 + (1 : Int32))) (by first | rfl | decide) (by decide) (L2 := [some (.ref (b + 8)), some (.int (l1 + (1 : Int32)))]) rfl ?_
          refine v_goto S d_Fl_takeLeastWaiting_39 (tgt := 5) (by decide) ?_
          refine v_sub (L2 := [some (.ref (b + 8)), some (.int (l1 + (1 : Int32)))]) (And.intro rfl (And.intro rfl True.intro)) ?_
          exact ih σ (l1 + (1 : Int32))
        · refine v_aload_n S d_Fl_takeLeastWaiting_20 rfl rfl ?_
          refine v_get S (fun w h => List.mem_cons_of_mem _ (i_Fl w h)) hKK.1 8 (by decide) rfl rfl 3 (by decide) (S.2.2.2.2 _ (List.mem_cons_of_mem _ (wd_77))) (fun _ h => h) rfl d_Fl_takeLeastWaiting_21 ?_
          refine v_iload_n S d_Fl_takeLeastWaiting_24 rfl rfl ?_
          refine v_iconst S d_Fl_takeLeastWaiting_25 (v := (0 : Int32)) (by decide) ?_
          refine v_zast1 S hKK.1 15 1 (by decide) (fun _ => rfl) rfl (Or.inl rfl) d_Fl_takeLeastWaiting_26 (fun h7 => ?_)
          refine v_sg (fun σ8 eσ8 => ?_)
          refine v_aload_n S d_Fl_takeLeastWaiting_27 rfl rfl ?_
          refine v_iload_n S d_Fl_takeLeastWaiting_28 rfl rfl ?_
          refine v_iconst S d_Fl_takeLeastWaiting_29 (v := (1 : Int32)) (by decide) ?_
          refine v_iadd S d_Fl_takeLeastWaiting_30 ?_
          refine v_puti S (fun w h => List.mem_cons_of_mem _ (i_Fl w h)) hKK.1 8 (by decide) rfl rfl 4 (by decide) (S.2.2.2.2 _ (List.mem_cons_of_mem _ (wd_78))) (fun _ h => h) t_Fl t_Fl_ok n_Fl rfl (ty := .int) rfl rfl rfl (Nat.le_of_ble_eq_true rfl) rfl d_Fl_takeLeastWaiting_31 ?_
          refine v_sg (fun σ9 eσ9 => ?_)
          refine v_iload_n S d_Fl_takeLeastWaiting_34 rfl rfl ?_
          exact v_iret S hret hlocks d_Fl_takeLeastWaiting_35
  unfold fn_Fl_takeLeastWaiting
  refine v_aload_n S d_Fl_takeLeastWaiting_0 rfl rfl ?_
  refine v_get S (fun w h => List.mem_cons_of_mem _ (i_Fl w h)) hKK.1 8 (by decide) rfl rfl 4 (by decide) (S.2.2.2.2 _ (List.mem_cons_of_mem _ (wd_78))) (fun _ h => h) rfl d_Fl_takeLeastWaiting_1 ?_
  refine v_top (fun x1 ex1 => ?_)
  refine v_istore_nP S d_Fl_takeLeastWaiting_4 rfl (by decide) (L2 := [some (.ref (b + 8)), some (.int x1)]) rfl ?_
  refine v_sub (L2 := [some (.ref (b + 8)), some (.int x1)]) (And.intro rfl (And.intro rfl True.intro)) ?_
  exact C5 fuel0 σ x1
def fn_Fl_goOn_62 (a0 : Int32) (a1 : Int32) (σ : mm_M) (l4 : Nat) (l5 : Int32) : Option (mm_M) :=
    (bd (fn_Op_jumps σ l4) (fun r14 σ13 =>
    (if r14 = 0 then
    (some σ13)
    else
    (bd (fn_Co_numberAt σ13 a1) (fun r17 σ16 =>
    (bv (fn_Fl_meet σ16 a0 r17 l5) (fun σ18 =>
    (some σ18))))))))
def fn_Fl_goOn (σ : mm_M) (a0 : Int32) (a1 : Int32) : Option (mm_M) :=
    (if (a0 < 0 ∨ 4 ≤ a0.toNatClampNeg) then none else
    (if (a1 < 0 ∨ 100 ≤ a1.toNatClampNeg) then none else
    (nm (σ (11 + (a0.toNatClampNeg)) a1.toNatClampNeg) (fun x3 =>
    (bd (fn_Co_fits σ a0 a1 x3) (fun r5 σ4 =>
    (if r5 = 0 then
    (some σ4)
    else
    (bd (fn_Co_opAt σ4 a1) (fun r8 σ7 =>
    (bd (fn_Co_after σ7 a1 x3) (fun r11 σ10 =>
    (if (op_behind r8) = 0 then
    (fn_Fl_goOn_62 a0 a1 σ10 r8 r11)
    else
    (bv (fn_Fl_meet σ10 a0 (a1 + (1 : Int32)) r11) (fun σ19 =>
    (fn_Fl_goOn_62 a0 a1 σ19 r8 r11)))))))))))))))
set_option maxRecDepth 100000 in
set_option maxHeartbeats 40000000 in
theorem c_Fl_goOn (l : Launch) (D : va_G) (ca : Nat → ClassId) (ax : Nat → Nat → Nat) (b : Nat) (σ : mm_M) (a0 : Int32) (a1 : Int32)  {σ' : mm_M} (hf : fn_Fl_goOn σ a0 a1 = some σ') : Met l y_Fl_goOn w_Fl_goOn rm_Fl_goOn (pc_w D cls b N_C (ce_C ca b) (kC D ca ax b) [.ref (b + 8), .int a0, .int a1] σ) (qc_v D cls b N_C (ce_C ca b) σ') 0 0 (mm_A b N_C) := by
  refine vv_go (cc := b_Fl_goOn) (maxL := 6) (ret := none) (fin := σ') (k := fn_Fl_goOn σ a0 a1) (by decide) rfl (by simp [Value.category]) (Nat.le_of_ble_eq_true rfl) hf ?_
  intro p e s m below meth c hlocks hret S hKK
  have C62 : ∀ (σ : mm_M) (l4 : Nat) (l5 : Int32) (hl4 : l4 < 20), vv p l e (headSpec w_Fl_goOn rm_Fl_goOn).room s m [.ref (b + 8), .int a0, .int a1].toArray below meth c D cls b N_C (ce_C ca b) 6 (MQ below (qc_v D cls b N_C (ce_C ca b) σ') [.ref (b + 8), .int a0, .int a1].toArray s 0 0 (mm_A b N_C)) σ' (fn_Fl_goOn_62 a0 a1 σ l4 l5) σ 62 [some (.ref (b + 8)), some (.int a0), some (.int a1), none, some (.ref (ax 0 l4)), some (.int l5)] [] := by
    intro σ l4 l5 hl4
    unfold fn_Fl_goOn_62
    refine v_aload S d_Fl_goOn_62 rfl ?_
    refine v_ci (rest := []) (fun _ _ hg H locs ls hsz hP hS => run_V (As := []) (rest := []) S kC_ok hKK (c_Op_jumps l D ca ax b σ l4 hl4 hg) (k_Fl_81 S.2.2.2.2 (fun _ => List.mem_cons_of_mem _) ⟨Nat.le_of_ble_eq_true rfl, Nat.le_of_ble_eq_true rfl⟩) (rc_op hKK hl4 hS) rfl rfl (Nat.zero_le _) d_Fl_goOn_64 hsz hP hS) (fun r14 σ13 _ => ?_)
    refine v_if_eq S d_Fl_goOn_67 (tgt := 85) (by decide) (fun h15 => ?_) (fun h15 => ?_)
    · exact v_vret S hret hlocks d_Fl_goOn_85
    · refine v_aload_n S d_Fl_goOn_70 rfl rfl ?_
      refine v_iload_n S d_Fl_goOn_71 rfl rfl ?_
      refine v_aload_n S d_Fl_goOn_72 rfl rfl ?_
      refine v_get S (fun w h => List.mem_cons_of_mem _ (i_Fl w h)) hKK.1 8 (by decide) rfl rfl 0 (by decide) (S.2.2.2.2 _ (List.mem_cons_of_mem _ (wd_74))) (fun _ h => h) rfl d_Fl_goOn_73 ?_
      refine v_iload_n S d_Fl_goOn_76 rfl rfl ?_
      refine v_ci (rest := [.int a0, .ref (b + 8)]) (fun _ _ hg H locs ls hsz hP hS => run_V (As := [.int a1]) (rest := [.int a0, .ref (b + 8)]) S kC_ok hKK (c_Co_numberAt l D ca ax b σ13 a1 hg) (k_Fl_85 S.2.2.2.2 (fun _ => List.mem_cons_of_mem _) ⟨Nat.le_of_ble_eq_true rfl, Nat.le_of_ble_eq_true rfl⟩) (rc_w hKK.1 hP 1 (by decide) rfl rfl) rfl rfl (by simp [Value.category]) d_Fl_goOn_77 hsz hP hS) (fun r17 σ16 _ => ?_)
      refine v_iload S d_Fl_goOn_80 rfl ?_
      refine v_cv (rest := []) (fun _ hg H locs ls hsz hP hS => run_V (As := [.int a0, .int r17, .int l5]) (rest := []) S kC_ok hKK (c_Fl_meet l D ca ax b σ16 a0 r17 l5 hg) (k_Fl_48 S.2.2.2.2 (fun _ => List.mem_cons_of_mem _) ⟨Nat.le_of_ble_eq_true rfl, Nat.le_of_ble_eq_true rfl⟩) (rc_w hKK.1 hP 8 (by decide) rfl rfl) rfl rfl (Nat.zero_le _) d_Fl_goOn_82 hsz hP hS) (fun σ18 _ => ?_)
      exact v_vret S hret hlocks d_Fl_goOn_85
  unfold fn_Fl_goOn
  refine v_aload_n S d_Fl_goOn_0 rfl rfl ?_
  refine v_get S (fun w h => List.mem_cons_of_mem _ (i_Fl w h)) hKK.1 8 (by decide) rfl rfl 2 (by decide) (S.2.2.2.2 _ (List.mem_cons_of_mem _ (wd_76))) (fun _ h => h) rfl d_Fl_goOn_1 ?_
  refine v_iload_n S d_Fl_goOn_4 rfl rfl ?_
  refine v_aald S hKK.1 10 3 (by decide) (ty := .array .int) rfl rfl rfl d_Fl_goOn_5 (fun h1 => ?_)
  refine v_iload_n S d_Fl_goOn_6 rfl rfl ?_
  refine v_iald S hKK.1 (11 + (a0.toNatClampNeg)) 0 (rw_lt (ib h1)) (ce_rw (ib h1)) rfl d_Fl_goOn_7 (fun h2 => ?_)
  refine v_top (fun x3 ex3 => ?_)
  refine v_istore_nP S d_Fl_goOn_8 rfl (by decide) (L2 := [some (.ref (b + 8)), some (.int a0), some (.int a1), some (.int x3)]) rfl ?_
  refine v_aload_n S d_Fl_goOn_9 rfl rfl ?_
  refine v_get S (fun w h => List.mem_cons_of_mem _ (i_Fl w h)) hKK.1 8 (by decide) rfl rfl 0 (by decide) (S.2.2.2.2 _ (List.mem_cons_of_mem _ (wd_74))) (fun _ h => h) rfl d_Fl_goOn_10 ?_
  refine v_iload_n S d_Fl_goOn_13 rfl rfl ?_
  refine v_iload_n S d_Fl_goOn_14 rfl rfl ?_
  refine v_iload_n S d_Fl_goOn_15 rfl rfl ?_
  refine v_ci (rest := []) (fun _ _ hg H locs ls hsz hP hS => run_V (As := [.int a0, .int a1, .int x3]) (rest := []) S kC_ok hKK (c_Co_fits l D ca ax b σ a0 a1 x3 hg) (k_Fl_63 S.2.2.2.2 (fun _ => List.mem_cons_of_mem _) ⟨Nat.le_of_ble_eq_true rfl, Nat.le_of_ble_eq_true rfl⟩) (rc_w hKK.1 hP 1 (by decide) rfl rfl) rfl rfl (Nat.zero_le _) d_Fl_goOn_16 hsz hP hS) (fun r5 σ4 _ => ?_)
  refine v_if_ne S d_Fl_goOn_19 (tgt := 23) (by decide) (fun h6 => ?_) (fun h6 => ?_)
  · refine v_aload_n S d_Fl_goOn_23 rfl rfl ?_
    refine v_get S (fun w h => List.mem_cons_of_mem _ (i_Fl w h)) hKK.1 8 (by decide) rfl rfl 0 (by decide) (S.2.2.2.2 _ (List.mem_cons_of_mem _ (wd_74))) (fun _ h => h) rfl d_Fl_goOn_24 ?_
    refine v_iload_n S d_Fl_goOn_27 rfl rfl ?_
    refine v_ca (ax 0) (rest := []) (fun _ _ hg H locs ls hsz hP hS => run_V (As := [.int a1]) (rest := []) S kC_ok hKK (c_Co_opAt l D ca ax b σ4 a1 hg) (k_Fl_67 S.2.2.2.2 (fun _ => List.mem_cons_of_mem _) ⟨Nat.le_of_ble_eq_true rfl, Nat.le_of_ble_eq_true rfl⟩) (rc_w hKK.1 hP 1 (by decide) rfl rfl) rfl rfl (Nat.zero_le _) d_Fl_goOn_28 hsz hP hS) (fun r8 σ7 g9 => ?_)
    refine v_astoreP S d_Fl_goOn_31 (by decide) (L2 := [some (.ref (b + 8)), some (.int a0), some (.int a1), some (.int x3), some (.ref (ax 0 r8))]) rfl ?_
    refine v_aload_n S d_Fl_goOn_33 rfl rfl ?_
    refine v_get S (fun w h => List.mem_cons_of_mem _ (i_Fl w h)) hKK.1 8 (by decide) rfl rfl 0 (by decide) (S.2.2.2.2 _ (List.mem_cons_of_mem _ (wd_74))) (fun _ h => h) rfl d_Fl_goOn_34 ?_
    refine v_iload_n S d_Fl_goOn_37 rfl rfl ?_
    refine v_iload_n S d_Fl_goOn_38 rfl rfl ?_
    refine v_ci (rest := []) (fun _ _ hg H locs ls hsz hP hS => run_V (As := [.int a1, .int x3]) (rest := []) S kC_ok hKK (c_Co_after l D ca ax b σ7 a1 x3 hg) (k_Fl_71 S.2.2.2.2 (fun _ => List.mem_cons_of_mem _) ⟨Nat.le_of_ble_eq_true rfl, Nat.le_of_ble_eq_true rfl⟩) (rc_w hKK.1 hP 1 (by decide) rfl rfl) rfl rfl (Nat.zero_le _) d_Fl_goOn_39 hsz hP hS) (fun r11 σ10 _ => ?_)
    refine v_istoreP S d_Fl_goOn_42 (by decide) (L2 := [some (.ref (b + 8)), some (.int a0), some (.int a1), some (.int x3), some (.ref (ax 0 r8)), some (.int r11)]) rfl ?_
    refine v_aload S d_Fl_goOn_44 rfl ?_
    refine v_of S (kc_fB hKK (rb_Co_opAt g9)) (S.2.2.2.2 _ (List.mem_cons_of_mem _ (wd_993))) (fun _ h => h) d_Fl_goOn_46 ?_
    refine v_if_eq S d_Fl_goOn_49 (tgt := 62) (by decide) (fun h12 => ?_) (fun h12 => ?_)
    · refine v_sub (L2 := [some (.ref (b + 8)), some (.int a0), some (.int a1), none, some (.ref (ax 0 r8)), some (.int r11)]) (And.intro rfl (And.intro rfl (And.intro rfl (And.intro rfl (And.intro rfl True.intro))))) ?_
      exact C62 σ10 r8 r11 (rb_Co_opAt g9)
    · refine v_aload_n S d_Fl_goOn_52 rfl rfl ?_
      refine v_iload_n S d_Fl_goOn_53 rfl rfl ?_
      refine v_iload_n S d_Fl_goOn_54 rfl rfl ?_
      refine v_iconst S d_Fl_goOn_55 (v := (1 : Int32)) (by decide) ?_
      refine v_iadd S d_Fl_goOn_56 ?_
      refine v_iload S d_Fl_goOn_57 rfl ?_
      refine v_cv (rest := []) (fun _ hg H locs ls hsz hP hS => run_V (As := [.int a0, .int (a1 + (1 : Int32)), .int r11]) (rest := []) S kC_ok hKK (c_Fl_meet l D ca ax b σ10 a0 (a1 + (1 : Int32)) r11 hg) (k_Fl_48 S.2.2.2.2 (fun _ => List.mem_cons_of_mem _) ⟨Nat.le_of_ble_eq_true rfl, Nat.le_of_ble_eq_true rfl⟩) (rc_w hKK.1 hP 8 (by decide) rfl rfl) rfl rfl (Nat.zero_le _) d_Fl_goOn_59 hsz hP hS) (fun σ19 _ => ?_)
      refine v_sub (L2 := [some (.ref (b + 8)), some (.int a0), some (.int a1), none, some (.ref (ax 0 r8)), some (.int r11)]) (And.intro rfl (And.intro rfl (And.intro rfl (And.intro rfl (And.intro rfl True.intro))))) ?_
      exact C62 σ19 r8 r11 (rb_Co_opAt g9)
  · exact v_vret S hret hlocks d_Fl_goOn_22
def fn_Fl_workOut_56 (a0 : Int32) : Nat → mm_M → Int32 → Option (mm_M)
  | 0, _, _ => none
  | n + 1, σ, l2 =>
    (if (1400 : Int32) < l2 then
    (if (a0 < 0 ∨ 4 ≤ a0.toNatClampNeg) then none else (nm (mw σ 9 a0.toNatClampNeg (1 : Int32)) (fun σ11 =>
    (some σ11))))
    else
    (bd (fn_Fl_takeLeastWaiting σ) (fun r13 σ12 =>
    (if r13 = (-1 : Int32) then
    (if (a0 < 0 ∨ 4 ≤ a0.toNatClampNeg) then none else (nm (mw σ12 9 a0.toNatClampNeg (1 : Int32)) (fun σ18 =>
    (some σ18))))
    else
    (bv (fn_Fl_goOn σ12 a0 r13) (fun σ15 =>
    (fn_Fl_workOut_56 a0 n σ15 (l2 + (1 : Int32)))))))))
def fn_Fl_workOut (σ : mm_M) (a0 : Int32) : Option (mm_M) :=
    (if (a0 < 0 ∨ 4 ≤ a0.toNatClampNeg) then none else
    (if (σ 9 a0.toNatClampNeg) = 0 then
    (bv (fn_Fl_clear σ a0) (fun σ3 =>
    (bd (fn_Co_startOf σ3 a0) (fun r5 σ4 =>
    (bd (fn_Co_hasInstruction σ4 r5) (fun r7 σ6 =>
    (if r7 = 0 then
    (fn_Fl_workOut_56 a0 fuel0 σ6 (0 : Int32))
    else
    (bd (fn_Co_startOf σ6 a0) (fun r20 σ19 =>
    (bd (fn_Co_firstState σ19 a0) (fun r22 σ21 =>
    (bv (fn_Fl_meet σ21 a0 r20 r22) (fun σ23 =>
    (fn_Fl_workOut_56 a0 fuel0 σ23 (0 : Int32)))))))))))))))
    else
    (some σ)))
set_option maxRecDepth 100000 in
set_option maxHeartbeats 40000000 in
theorem c_Fl_workOut (l : Launch) (D : va_G) (ca : Nat → ClassId) (ax : Nat → Nat → Nat) (b : Nat) (σ : mm_M) (a0 : Int32)  {σ' : mm_M} (hf : fn_Fl_workOut σ a0 = some σ') : Met l y_Fl_workOut w_Fl_workOut rm_Fl_workOut (pc_w D cls b N_C (ce_C ca b) (kC D ca ax b) [.ref (b + 8), .int a0] σ) (qc_v D cls b N_C (ce_C ca b) σ') 0 0 (mm_A b N_C) := by
  refine vv_go (cc := b_Fl_workOut) (maxL := 4) (ret := none) (fin := σ') (k := fn_Fl_workOut σ a0) (by decide) rfl (by simp [Value.category]) (Nat.le_of_ble_eq_true rfl) hf ?_
  intro p e s m below meth c hlocks hret S hKK
  have C56 : ∀ (n : Nat) (σ : mm_M) (l2 : Int32), vv p l e (headSpec w_Fl_workOut rm_Fl_workOut).room s m [.ref (b + 8), .int a0].toArray below meth c D cls b N_C (ce_C ca b) 4 (MQ below (qc_v D cls b N_C (ce_C ca b) σ') [.ref (b + 8), .int a0].toArray s 0 0 (mm_A b N_C)) σ' (fn_Fl_workOut_56 a0 n σ l2) σ 56 [some (.ref (b + 8)), some (.int a0), some (.int l2)] [] := by
    intro n
    induction n with
    | zero => intro σ l2  h; cases h
    | succ n ih =>
      intro σ l2
      show vv p l e (headSpec w_Fl_workOut rm_Fl_workOut).room s m [.ref (b + 8), .int a0].toArray below meth c D cls b N_C (ce_C ca b) 4 (MQ below (qc_v D cls b N_C (ce_C ca b) σ') [.ref (b + 8), .int a0].toArray s 0 0 (mm_A b N_C)) σ' (        (if (1400 : Int32) < l2 then
        (if (a0 < 0 ∨ 4 ≤ a0.toNatClampNeg) then none else (nm (mw σ 9 a0.toNatClampNeg (1 : Int32)) (fun σ11 =>
        (some σ11))))
        else
        (bd (fn_Fl_takeLeastWaiting σ) (fun r13 σ12 =>
        (if r13 = (-1 : Int32) then
        (if (a0 < 0 ∨ 4 ≤ a0.toNatClampNeg) then none else (nm (mw σ12 9 a0.toNatClampNeg (1 : Int32)) (fun σ18 =>
        (some σ18))))
        else
        (bv (fn_Fl_goOn σ12 a0 r13) (fun σ15 =>
        (fn_Fl_workOut_56 a0 n σ15 (l2 + (1 : Int32)))))))))) σ 56 [some (.ref (b + 8)), some (.int a0), some (.int l2)] []
      refine v_iload_n S d_Fl_workOut_56 rfl rfl ?_
      refine v_sipush S d_Fl_workOut_57 (v := (1400 : Int32)) (by decide) ?_
      refine v_icmp_gt S d_Fl_workOut_60 (tgt := 88) (by decide) (fun h9 => ?_) (fun h9 => ?_)
      · refine v_aload_n S d_Fl_workOut_88 rfl rfl ?_
        refine v_get S (fun w h => List.mem_cons_of_mem _ (i_Fl w h)) hKK.1 8 (by decide) rfl rfl 1 (by decide) (S.2.2.2.2 _ (List.mem_cons_of_mem _ (wd_75))) (fun _ h => h) rfl d_Fl_workOut_89 ?_
        refine v_iload_n S d_Fl_workOut_92 rfl rfl ?_
        refine v_iconst S d_Fl_workOut_93 (v := (1 : Int32)) (by decide) ?_
        refine v_zast1 S hKK.1 9 1 (by decide) (fun _ => rfl) rfl (Or.inr rfl) d_Fl_workOut_94 (fun h10 => ?_)
        refine v_sg (fun σ11 eσ11 => ?_)
        exact v_vret S hret hlocks d_Fl_workOut_95
      · refine v_aload_n S d_Fl_workOut_63 rfl rfl ?_
        refine v_ci (rest := []) (fun _ _ hg H locs ls hsz hP hS => run_V (As := []) (rest := []) S kC_ok hKK (c_Fl_takeLeastWaiting l D ca ax b σ hg) (k_Fl_52 S.2.2.2.2 (fun _ => List.mem_cons_of_mem _) ⟨Nat.le_of_ble_eq_true rfl, Nat.le_of_ble_eq_true rfl⟩) (rc_w hKK.1 hP 8 (by decide) rfl rfl) rfl rfl (Nat.zero_le _) d_Fl_workOut_64 hsz hP hS) (fun r13 σ12 _ => ?_)
        refine v_istore_nP S d_Fl_workOut_67 rfl (by decide) (L2 := [some (.ref (b + 8)), some (.int a0), some (.int l2), some (.int r13)]) rfl ?_
        refine v_iload_n S d_Fl_workOut_68 rfl rfl ?_
        refine v_iconst S d_Fl_workOut_69 (v := (-1 : Int32)) (by decide) ?_
        refine v_icmp_ne S d_Fl_workOut_70 (tgt := 76) (by decide) (fun h14 => ?_) (fun h14 => ?_)
        · refine v_aload_n S d_Fl_workOut_76 rfl rfl ?_
          refine v_iload_n S d_Fl_workOut_77 rfl rfl ?_
          refine v_iload_n S d_Fl_workOut_78 rfl rfl ?_
          refine v_cv (rest := []) (fun _ hg H locs ls hsz hP hS => run_V (As := [.int a0, .int r13]) (rest := []) S kC_ok hKK (c_Fl_goOn l D ca ax b σ12 a0 r13 hg) (k_Fl_56 S.2.2.2.2 (fun _ => List.mem_cons_of_mem _) ⟨Nat.le_of_ble_eq_true rfl, Nat.le_of_ble_eq_true rfl⟩) (rc_w hKK.1 hP 8 (by decide) rfl rfl) rfl rfl (Nat.zero_le _) d_Fl_workOut_79 hsz hP hS) (fun σ15 _ => ?_)
          refine v_iinc S d_Fl_workOut_82 rfl (v := (l2 + (1 : Int32))) (by first | rfl | decide) (by decide) (L2 := [some (.ref (b + 8)), some (.int a0), some (.int (l2 + (1 : Int32))), some (.int r13)]) rfl ?_
          refine v_goto S d_Fl_workOut_85 (tgt := 56) (by decide) ?_
          refine v_sub (L2 := [some (.ref (b + 8)), some (.int a0), some (.int (l2 + (1 : Int32)))]) (And.intro rfl (And.intro rfl (And.intro rfl True.intro))) ?_
          exact ih σ15 (l2 + (1 : Int32))
        · refine v_goto S d_Fl_workOut_73 (tgt := 88) (by decide) ?_
          refine v_aload_n S d_Fl_workOut_88 rfl rfl ?_
          refine v_get S (fun w h => List.mem_cons_of_mem _ (i_Fl w h)) hKK.1 8 (by decide) rfl rfl 1 (by decide) (S.2.2.2.2 _ (List.mem_cons_of_mem _ (wd_75))) (fun _ h => h) rfl d_Fl_workOut_89 ?_
          refine v_iload_n S d_Fl_workOut_92 rfl rfl ?_
          refine v_iconst S d_Fl_workOut_93 (v := (1 : Int32)) (by decide) ?_
          refine v_zast1 S hKK.1 9 1 (by decide) (fun _ => rfl) rfl (Or.inr rfl) d_Fl_workOut_94 (fun h17 => ?_)
          refine v_sg (fun σ18 eσ18 => ?_)
          exact v_vret S hret hlocks d_Fl_workOut_95
  unfold fn_Fl_workOut
  refine v_aload_n S d_Fl_workOut_0 rfl rfl ?_
  refine v_get S (fun w h => List.mem_cons_of_mem _ (i_Fl w h)) hKK.1 8 (by decide) rfl rfl 1 (by decide) (S.2.2.2.2 _ (List.mem_cons_of_mem _ (wd_75))) (fun _ h => h) rfl d_Fl_workOut_1 ?_
  refine v_iload_n S d_Fl_workOut_4 rfl rfl ?_
  refine v_zald S hKK.1 9 1 (by decide) rfl rfl d_Fl_workOut_5 (fun h1 => ?_)
  refine v_if_eq S d_Fl_workOut_6 (tgt := 10) (by decide) (fun h2 => ?_) (fun h2 => ?_)
  · refine v_aload_n S d_Fl_workOut_10 rfl rfl ?_
    refine v_iload_n S d_Fl_workOut_11 rfl rfl ?_
    refine v_cv (rest := []) (fun _ hg H locs ls hsz hP hS => run_V (As := [.int a0]) (rest := []) S kC_ok hKK (c_Fl_clear l D ca ax b σ a0 hg) (k_Fl_31 S.2.2.2.2 (fun _ => List.mem_cons_of_mem _) ⟨Nat.le_of_ble_eq_true rfl, Nat.le_of_ble_eq_true rfl⟩) (rc_w hKK.1 hP 8 (by decide) rfl rfl) rfl rfl (Nat.zero_le _) d_Fl_workOut_12 hsz hP hS) (fun σ3 _ => ?_)
    refine v_aload_n S d_Fl_workOut_15 rfl rfl ?_
    refine v_get S (fun w h => List.mem_cons_of_mem _ (i_Fl w h)) hKK.1 8 (by decide) rfl rfl 0 (by decide) (S.2.2.2.2 _ (List.mem_cons_of_mem _ (wd_74))) (fun _ h => h) rfl d_Fl_workOut_16 ?_
    refine v_aload_n S d_Fl_workOut_19 rfl rfl ?_
    refine v_get S (fun w h => List.mem_cons_of_mem _ (i_Fl w h)) hKK.1 8 (by decide) rfl rfl 0 (by decide) (S.2.2.2.2 _ (List.mem_cons_of_mem _ (wd_74))) (fun _ h => h) rfl d_Fl_workOut_20 ?_
    refine v_iload_n S d_Fl_workOut_23 rfl rfl ?_
    refine v_ci (rest := [.ref (b + 1)]) (fun _ _ hg H locs ls hsz hP hS => run_V (As := [.int a0]) (rest := [.ref (b + 1)]) S kC_ok hKK (c_Co_startOf l D ca ax b σ3 a0 hg) (k_Fl_35 S.2.2.2.2 (fun _ => List.mem_cons_of_mem _) ⟨Nat.le_of_ble_eq_true rfl, Nat.le_of_ble_eq_true rfl⟩) (rc_w hKK.1 hP 1 (by decide) rfl rfl) rfl rfl (by simp [Value.category]) d_Fl_workOut_24 hsz hP hS) (fun r5 σ4 _ => ?_)
    refine v_ci (rest := []) (fun _ _ hg H locs ls hsz hP hS => run_V (As := [.int r5]) (rest := []) S kC_ok hKK (c_Co_hasInstruction l D ca ax b σ4 r5 hg) (k_Fl_41 S.2.2.2.2 (fun _ => List.mem_cons_of_mem _) ⟨Nat.le_of_ble_eq_true rfl, Nat.le_of_ble_eq_true rfl⟩) (rc_w hKK.1 hP 1 (by decide) rfl rfl) rfl rfl (Nat.zero_le _) d_Fl_workOut_27 hsz hP hS) (fun r7 σ6 _ => ?_)
    refine v_if_eq S d_Fl_workOut_30 (tgt := 54) (by decide) (fun h8 => ?_) (fun h8 => ?_)
    · refine v_iconst S d_Fl_workOut_54 (v := (0 : Int32)) (by decide) ?_
      refine v_istore_nP S d_Fl_workOut_55 rfl (by decide) (L2 := [some (.ref (b + 8)), some (.int a0), some (.int (0 : Int32))]) rfl ?_
      refine v_sub (L2 := [some (.ref (b + 8)), some (.int a0), some (.int (0 : Int32))]) (And.intro rfl (And.intro rfl (And.intro rfl True.intro))) ?_
      exact C56 fuel0 σ6 (0 : Int32)
    · refine v_aload_n S d_Fl_workOut_33 rfl rfl ?_
      refine v_iload_n S d_Fl_workOut_34 rfl rfl ?_
      refine v_aload_n S d_Fl_workOut_35 rfl rfl ?_
      refine v_get S (fun w h => List.mem_cons_of_mem _ (i_Fl w h)) hKK.1 8 (by decide) rfl rfl 0 (by decide) (S.2.2.2.2 _ (List.mem_cons_of_mem _ (wd_74))) (fun _ h => h) rfl d_Fl_workOut_36 ?_
      refine v_iload_n S d_Fl_workOut_39 rfl rfl ?_
      refine v_ci (rest := [.int a0, .ref (b + 8)]) (fun _ _ hg H locs ls hsz hP hS => run_V (As := [.int a0]) (rest := [.int a0, .ref (b + 8)]) S kC_ok hKK (c_Co_startOf l D ca ax b σ6 a0 hg) (k_Fl_35 S.2.2.2.2 (fun _ => List.mem_cons_of_mem _) ⟨Nat.le_of_ble_eq_true rfl, Nat.le_of_ble_eq_true rfl⟩) (rc_w hKK.1 hP 1 (by decide) rfl rfl) rfl rfl (by simp [Value.category]) d_Fl_workOut_40 hsz hP hS) (fun r20 σ19 _ => ?_)
      refine v_aload_n S d_Fl_workOut_43 rfl rfl ?_
      refine v_get S (fun w h => List.mem_cons_of_mem _ (i_Fl w h)) hKK.1 8 (by decide) rfl rfl 0 (by decide) (S.2.2.2.2 _ (List.mem_cons_of_mem _ (wd_74))) (fun _ h => h) rfl d_Fl_workOut_44 ?_
      refine v_iload_n S d_Fl_workOut_47 rfl rfl ?_
      refine v_ci (rest := [.int r20, .int a0, .ref (b + 8)]) (fun _ _ hg H locs ls hsz hP hS => run_V (As := [.int a0]) (rest := [.int r20, .int a0, .ref (b + 8)]) S kC_ok hKK (c_Co_firstState l D ca ax b σ19 a0 hg) (k_Fl_45 S.2.2.2.2 (fun _ => List.mem_cons_of_mem _) ⟨Nat.le_of_ble_eq_true rfl, Nat.le_of_ble_eq_true rfl⟩) (rc_w hKK.1 hP 1 (by decide) rfl rfl) rfl rfl (by simp [Value.category]) d_Fl_workOut_48 hsz hP hS) (fun r22 σ21 _ => ?_)
      refine v_cv (rest := []) (fun _ hg H locs ls hsz hP hS => run_V (As := [.int a0, .int r20, .int r22]) (rest := []) S kC_ok hKK (c_Fl_meet l D ca ax b σ21 a0 r20 r22 hg) (k_Fl_48 S.2.2.2.2 (fun _ => List.mem_cons_of_mem _) ⟨Nat.le_of_ble_eq_true rfl, Nat.le_of_ble_eq_true rfl⟩) (rc_w hKK.1 hP 8 (by decide) rfl rfl) rfl rfl (Nat.zero_le _) d_Fl_workOut_51 hsz hP hS) (fun σ23 _ => ?_)
      refine v_iconst S d_Fl_workOut_54 (v := (0 : Int32)) (by decide) ?_
      refine v_istore_nP S d_Fl_workOut_55 rfl (by decide) (L2 := [some (.ref (b + 8)), some (.int a0), some (.int (0 : Int32))]) rfl ?_
      refine v_sub (L2 := [some (.ref (b + 8)), some (.int a0), some (.int (0 : Int32))]) (And.intro rfl (And.intro rfl (And.intro rfl True.intro))) ?_
      exact C56 fuel0 σ23 (0 : Int32)
  · exact v_vret S hret hlocks d_Fl_workOut_9
def fn_Fl_stateOf (σ : mm_M) (a0 : Int32) (a1 : Int32) : Option (Int32 × mm_M) :=
    (if (a0 < 0 ∨ 4 ≤ a0.toNatClampNeg) then none else
    (if (a1 < 0 ∨ 100 ≤ a1.toNatClampNeg) then none else
    (some ((σ (11 + (a0.toNatClampNeg)) a1.toNatClampNeg), σ))))
set_option maxRecDepth 100000 in
set_option maxHeartbeats 40000000 in
theorem c_Fl_stateOf (l : Launch) (D : va_G) (ca : Nat → ClassId) (ax : Nat → Nat → Nat) (b : Nat) (σ : mm_M) (a0 : Int32) (a1 : Int32)  {r : Int32} {σ' : mm_M} (hf : fn_Fl_stateOf σ a0 a1 = some (r, σ')) : Met l y_Fl_stateOf w_Fl_stateOf rm_Fl_stateOf (pc_w D cls b N_C (ce_C ca b) (kC D ca ax b) [.ref (b + 8), .int a0, .int a1] σ) (qc_i D cls b N_C (ce_C ca b) r σ') 0 0 (mm_A b N_C) := by
  refine vv_go (cc := b_Fl_stateOf) (maxL := 3) (ret := (some .int)) (fin := (r, σ')) (k := fn_Fl_stateOf σ a0 a1) (by decide) rfl (by simp [Value.category]) (Nat.le_of_ble_eq_true rfl) hf ?_
  intro p e s m below meth c hlocks hret S hKK
  unfold fn_Fl_stateOf
  refine v_aload_n S d_Fl_stateOf_0 rfl rfl ?_
  refine v_get S (fun w h => List.mem_cons_of_mem _ (i_Fl w h)) hKK.1 8 (by decide) rfl rfl 2 (by decide) (S.2.2.2.2 _ (List.mem_cons_of_mem _ (wd_76))) (fun _ h => h) rfl d_Fl_stateOf_1 ?_
  refine v_iload_n S d_Fl_stateOf_4 rfl rfl ?_
  refine v_aald S hKK.1 10 3 (by decide) (ty := .array .int) rfl rfl rfl d_Fl_stateOf_5 (fun h1 => ?_)
  refine v_iload_n S d_Fl_stateOf_6 rfl rfl ?_
  refine v_iald S hKK.1 (11 + (a0.toNatClampNeg)) 0 (rw_lt (ib h1)) (ce_rw (ib h1)) rfl d_Fl_stateOf_7 (fun h2 => ?_)
  exact v_iret S hret hlocks d_Fl_stateOf_8
def fn_Fl_leastUnfit_24 (a0 : Int32) : Nat → mm_M → Int32 → Option (Int32 × mm_M)
  | 0, _, _ => none
  | n + 1, σ, l2 =>
    (if (σ 1 0) ≤ l2 then
    (some ((-1 : Int32), σ))
    else
    (if (a0 < 0 ∨ 4 ≤ a0.toNatClampNeg) then none else
    (if (l2 < 0 ∨ 100 ≤ l2.toNatClampNeg) then none else
    (nm (σ (11 + (a0.toNatClampNeg)) l2.toNatClampNeg) (fun x9 =>
    (if x9 = (-1 : Int32) then
    (fn_Fl_leastUnfit_24 a0 n σ (l2 + (1 : Int32)))
    else
    (bd (fn_Co_fits σ a0 l2 x9) (fun r13 σ12 =>
    (if r13 = 0 then
    (some (l2, σ12))
    else
    (fn_Fl_leastUnfit_24 a0 n σ12 (l2 + (1 : Int32))))))))))))
def fn_Fl_leastUnfit (σ : mm_M) (a0 : Int32) : Option (Int32 × mm_M) :=
    (bd (fn_Co_startOf σ a0) (fun r2 σ1 =>
    (bd (fn_Co_hasInstruction σ1 r2) (fun r4 σ3 =>
    (if r4 = 0 then
    (some ((999 : Int32), σ3))
    else
    (fn_Fl_leastUnfit_24 a0 fuel0 σ3 (0 : Int32)))))))
set_option maxRecDepth 100000 in
set_option maxHeartbeats 40000000 in
theorem c_Fl_leastUnfit (l : Launch) (D : va_G) (ca : Nat → ClassId) (ax : Nat → Nat → Nat) (b : Nat) (σ : mm_M) (a0 : Int32)  {r : Int32} {σ' : mm_M} (hf : fn_Fl_leastUnfit σ a0 = some (r, σ')) : Met l y_Fl_leastUnfit w_Fl_leastUnfit rm_Fl_leastUnfit (pc_w D cls b N_C (ce_C ca b) (kC D ca ax b) [.ref (b + 8), .int a0] σ) (qc_i D cls b N_C (ce_C ca b) r σ') 0 0 (mm_A b N_C) := by
  refine vv_go (cc := b_Fl_leastUnfit) (maxL := 4) (ret := (some .int)) (fin := (r, σ')) (k := fn_Fl_leastUnfit σ a0) (by decide) rfl (by simp [Value.category]) (Nat.le_of_ble_eq_true rfl) hf ?_
  intro p e s m below meth c hlocks hret S hKK
  have C24 : ∀ (n : Nat) (σ : mm_M) (l2 : Int32), vv p l e (headSpec w_Fl_leastUnfit rm_Fl_leastUnfit).room s m [.ref (b + 8), .int a0].toArray below meth c D cls b N_C (ce_C ca b) 4 (MQ below (qc_i D cls b N_C (ce_C ca b) r σ') [.ref (b + 8), .int a0].toArray s 0 0 (mm_A b N_C)) (r, σ') (fn_Fl_leastUnfit_24 a0 n σ l2) σ 24 [some (.ref (b + 8)), some (.int a0), some (.int l2)] [] := by
    intro n
    induction n with
    | zero => intro σ l2  h; cases h
    | succ n ih =>
      intro σ l2
      show vv p l e (headSpec w_Fl_leastUnfit rm_Fl_leastUnfit).room s m [.ref (b + 8), .int a0].toArray below meth c D cls b N_C (ce_C ca b) 4 (MQ below (qc_i D cls b N_C (ce_C ca b) r σ') [.ref (b + 8), .int a0].toArray s 0 0 (mm_A b N_C)) (r, σ') (        (if (σ 1 0) ≤ l2 then
        (some ((-1 : Int32), σ))
        else
        (if (a0 < 0 ∨ 4 ≤ a0.toNatClampNeg) then none else
        (if (l2 < 0 ∨ 100 ≤ l2.toNatClampNeg) then none else
        (nm (σ (11 + (a0.toNatClampNeg)) l2.toNatClampNeg) (fun x9 =>
        (if x9 = (-1 : Int32) then
        (fn_Fl_leastUnfit_24 a0 n σ (l2 + (1 : Int32)))
        else
        (bd (fn_Co_fits σ a0 l2 x9) (fun r13 σ12 =>
        (if r13 = 0 then
        (some (l2, σ12))
        else
        (fn_Fl_leastUnfit_24 a0 n σ12 (l2 + (1 : Int32))))))))))))) σ 24 [some (.ref (b + 8)), some (.int a0), some (.int l2)] []
      refine v_iload_n S d_Fl_leastUnfit_24 rfl rfl ?_
      refine v_aload_n S d_Fl_leastUnfit_25 rfl rfl ?_
      refine v_get S (fun w h => List.mem_cons_of_mem _ (i_Fl w h)) hKK.1 8 (by decide) rfl rfl 0 (by decide) (S.2.2.2.2 _ (List.mem_cons_of_mem _ (wd_74))) (fun _ h => h) rfl d_Fl_leastUnfit_26 ?_
      refine v_get S (fun w h => List.mem_cons_of_mem _ (i_Co w h)) hKK.1 1 (by decide) rfl rfl 0 (by decide) (S.2.2.2.2 _ (List.mem_cons_of_mem _ (wd_42))) (fun _ h => h) rfl d_Fl_leastUnfit_29 ?_
      refine v_icmp_ge S d_Fl_leastUnfit_32 (tgt := 70) (by decide) (fun h6 => ?_) (fun h6 => ?_)
      · refine v_iconst S d_Fl_leastUnfit_70 (v := (-1 : Int32)) (by decide) ?_
        exact v_iret S hret hlocks d_Fl_leastUnfit_71
      · refine v_aload_n S d_Fl_leastUnfit_35 rfl rfl ?_
        refine v_get S (fun w h => List.mem_cons_of_mem _ (i_Fl w h)) hKK.1 8 (by decide) rfl rfl 2 (by decide) (S.2.2.2.2 _ (List.mem_cons_of_mem _ (wd_76))) (fun _ h => h) rfl d_Fl_leastUnfit_36 ?_
        refine v_iload_n S d_Fl_leastUnfit_39 rfl rfl ?_
        refine v_aald S hKK.1 10 3 (by decide) (ty := .array .int) rfl rfl rfl d_Fl_leastUnfit_40 (fun h7 => ?_)
        refine v_iload_n S d_Fl_leastUnfit_41 rfl rfl ?_
        refine v_iald S hKK.1 (11 + (a0.toNatClampNeg)) 0 (rw_lt (ib h7)) (ce_rw (ib h7)) rfl d_Fl_leastUnfit_42 (fun h8 => ?_)
        refine v_top (fun x9 ex9 => ?_)
        refine v_istore_nP S d_Fl_leastUnfit_43 rfl (by decide) (L2 := [some (.ref (b + 8)), some (.int a0), some (.int l2), some (.int x9)]) rfl ?_
        refine v_iload_n S d_Fl_leastUnfit_44 rfl rfl ?_
        refine v_iconst S d_Fl_leastUnfit_45 (v := (-1 : Int32)) (by decide) ?_
        refine v_icmp_eq S d_Fl_leastUnfit_46 (tgt := 64) (by decide) (fun h10 => ?_) (fun h10 => ?_)
        · refine v_iinc S d_Fl_leastUnfit_64 rfl (v := (l2 + (1 : Int32))) (by first | rfl | decide) (by decide) (L2 := [some (.ref (b + 8)), some (.int a0), some (.int (l2 + (1 : Int32))), some (.int x9)]) rfl ?_
          refine v_goto S d_Fl_leastUnfit_67 (tgt := 24) (by decide) ?_
          refine v_sub (L2 := [some (.ref (b + 8)), some (.int a0), some (.int (l2 + (1 : Int32)))]) (And.intro rfl (And.intro rfl (And.intro rfl True.intro))) ?_
          exact ih σ (l2 + (1 : Int32))
        · refine v_aload_n S d_Fl_leastUnfit_49 rfl rfl ?_
          refine v_get S (fun w h => List.mem_cons_of_mem _ (i_Fl w h)) hKK.1 8 (by decide) rfl rfl 0 (by decide) (S.2.2.2.2 _ (List.mem_cons_of_mem _ (wd_74))) (fun _ h => h) rfl d_Fl_leastUnfit_50 ?_
          refine v_iload_n S d_Fl_leastUnfit_53 rfl rfl ?_
          refine v_iload_n S d_Fl_leastUnfit_54 rfl rfl ?_
          refine v_iload_n S d_Fl_leastUnfit_55 rfl rfl ?_
          refine v_ci (rest := []) (fun _ _ hg H locs ls hsz hP hS => run_V (As := [.int a0, .int l2, .int x9]) (rest := []) S kC_ok hKK (c_Co_fits l D ca ax b σ a0 l2 x9 hg) (k_Fl_63 S.2.2.2.2 (fun _ => List.mem_cons_of_mem _) ⟨Nat.le_of_ble_eq_true rfl, Nat.le_of_ble_eq_true rfl⟩) (rc_w hKK.1 hP 1 (by decide) rfl rfl) rfl rfl (Nat.zero_le _) d_Fl_leastUnfit_56 hsz hP hS) (fun r13 σ12 _ => ?_)
          refine v_if_ne S d_Fl_leastUnfit_59 (tgt := 64) (by decide) (fun h14 => ?_) (fun h14 => ?_)
          · refine v_iinc S d_Fl_leastUnfit_64 rfl (v := (l2 + (1 : Int32))) (by first | rfl | decide) (by decide) (L2 := [some (.ref (b + 8)), some (.int a0), some (.int (l2 + (1 : Int32))), some (.int x9)]) rfl ?_
            refine v_goto S d_Fl_leastUnfit_67 (tgt := 24) (by decide) ?_
            refine v_sub (L2 := [some (.ref (b + 8)), some (.int a0), some (.int (l2 + (1 : Int32)))]) (And.intro rfl (And.intro rfl (And.intro rfl True.intro))) ?_
            exact ih σ12 (l2 + (1 : Int32))
          · refine v_iload_n S d_Fl_leastUnfit_62 rfl rfl ?_
            exact v_iret S hret hlocks d_Fl_leastUnfit_63
  unfold fn_Fl_leastUnfit
  refine v_aload_n S d_Fl_leastUnfit_0 rfl rfl ?_
  refine v_get S (fun w h => List.mem_cons_of_mem _ (i_Fl w h)) hKK.1 8 (by decide) rfl rfl 0 (by decide) (S.2.2.2.2 _ (List.mem_cons_of_mem _ (wd_74))) (fun _ h => h) rfl d_Fl_leastUnfit_1 ?_
  refine v_aload_n S d_Fl_leastUnfit_4 rfl rfl ?_
  refine v_get S (fun w h => List.mem_cons_of_mem _ (i_Fl w h)) hKK.1 8 (by decide) rfl rfl 0 (by decide) (S.2.2.2.2 _ (List.mem_cons_of_mem _ (wd_74))) (fun _ h => h) rfl d_Fl_leastUnfit_5 ?_
  refine v_iload_n S d_Fl_leastUnfit_8 rfl rfl ?_
  refine v_ci (rest := [.ref (b + 1)]) (fun _ _ hg H locs ls hsz hP hS => run_V (As := [.int a0]) (rest := [.ref (b + 1)]) S kC_ok hKK (c_Co_startOf l D ca ax b σ a0 hg) (k_Fl_35 S.2.2.2.2 (fun _ => List.mem_cons_of_mem _) ⟨Nat.le_of_ble_eq_true rfl, Nat.le_of_ble_eq_true rfl⟩) (rc_w hKK.1 hP 1 (by decide) rfl rfl) rfl rfl (by simp [Value.category]) d_Fl_leastUnfit_9 hsz hP hS) (fun r2 σ1 _ => ?_)
  refine v_ci (rest := []) (fun _ _ hg H locs ls hsz hP hS => run_V (As := [.int r2]) (rest := []) S kC_ok hKK (c_Co_hasInstruction l D ca ax b σ1 r2 hg) (k_Fl_41 S.2.2.2.2 (fun _ => List.mem_cons_of_mem _) ⟨Nat.le_of_ble_eq_true rfl, Nat.le_of_ble_eq_true rfl⟩) (rc_w hKK.1 hP 1 (by decide) rfl rfl) rfl rfl (Nat.zero_le _) d_Fl_leastUnfit_12 hsz hP hS) (fun r4 σ3 _ => ?_)
  refine v_if_ne S d_Fl_leastUnfit_15 (tgt := 22) (by decide) (fun h5 => ?_) (fun h5 => ?_)
  · refine v_iconst S d_Fl_leastUnfit_22 (v := (0 : Int32)) (by decide) ?_
    refine v_istore_nP S d_Fl_leastUnfit_23 rfl (by decide) (L2 := [some (.ref (b + 8)), some (.int a0), some (.int (0 : Int32))]) rfl ?_
    refine v_sub (L2 := [some (.ref (b + 8)), some (.int a0), some (.int (0 : Int32))]) (And.intro rfl (And.intro rfl (And.intro rfl True.intro))) ?_
    exact C24 fuel0 σ3 (0 : Int32)
  · refine v_sipush S d_Fl_leastUnfit_18 (v := (999 : Int32)) (by decide) ?_
    exact v_iret S hret hlocks d_Fl_leastUnfit_21
end
section
/-! names of 10.machine -/
def y_Ma_isRunning : MethodName := ⟨"FrameVerifier$Machine", "isRunning", "()Z"⟩
abbrev b_Ma_isRunning : ByteArray := prog_6_method_2_code
def rm_Ma_isRunning : Room := { frames := 0, cells := 0, slots := 0, locals := 0 }
abbrev w_Ma_isRunning : List Cond := Cond.code y_Ma_isRunning b_Ma_isRunning 1 (some .boolean) :: wG
theorem m_Ma_isRunning : Cond.code y_Ma_isRunning b_Ma_isRunning 1 (some .boolean) ∈ wG := wg_t 417 (by decide +kernel) (by decide +kernel)
theorem q_Ma_isRunning : y_Ma_isRunning.cls ≠ "java/lang/invoke/MethodHandle" ∧ y_Ma_isRunning.cls ≠ "java/lang/invoke/VarHandle" ∧ (parseMethodDescriptor y_Ma_isRunning.desc).map (fun d => d.parameters.length) = some 0 := by decide +kernel
theorem g_Ma_isRunning : Cond.initialized y_Ma_isRunning.cls ∈ wG := wg_t 4 (by decide +kernel) (by decide +kernel)
theorem s_Ma_isRunning : Cond.instanceMethod y_Ma_isRunning ∈ wG := wg_t 415 (by decide +kernel) (by decide +kernel)
theorem e_Ma_isRunning : Cond.selects "FrameVerifier$Machine" y_Ma_isRunning y_Ma_isRunning ∈ wG := wg_t 416 (by decide +kernel) (by decide +kernel)
theorem d_Ma_isRunning_0 : decode b_Ma_isRunning 0 = .ok (.aload_n 0, 1) := by decide +kernel
theorem d_Ma_isRunning_1 : decode b_Ma_isRunning 1 = .ok (.getfield 15, 3) := by decide +kernel
theorem d_Ma_isRunning_4 : decode b_Ma_isRunning 4 = .ok (.ifCond .le (7), 3) := by decide +kernel
theorem d_Ma_isRunning_7 : decode b_Ma_isRunning 7 = .ok (.iconst 1, 1) := by decide +kernel
theorem d_Ma_isRunning_8 : decode b_Ma_isRunning 8 = .ok (.goto (4), 3) := by decide +kernel
theorem d_Ma_isRunning_11 : decode b_Ma_isRunning 11 = .ok (.iconst 0, 1) := by decide +kernel
theorem d_Ma_isRunning_12 : decode b_Ma_isRunning 12 = .ok (.ireturn, 1) := by decide +kernel
def y_Ma_top : MethodName := ⟨"FrameVerifier$Machine", "top", "()LFrameVerifier$Frame;"⟩
abbrev b_Ma_top : ByteArray := prog_6_method_3_code
def rm_Ma_top : Room := { frames := 0, cells := 0, slots := 0, locals := 0 }
abbrev w_Ma_top : List Cond := Cond.code y_Ma_top b_Ma_top 1 (some (.object "FrameVerifier$Frame")) :: wG
theorem m_Ma_top : Cond.code y_Ma_top b_Ma_top 1 (some (.object "FrameVerifier$Frame")) ∈ wG := wg_t 425 (by decide +kernel) (by decide +kernel)
theorem q_Ma_top : y_Ma_top.cls ≠ "java/lang/invoke/MethodHandle" ∧ y_Ma_top.cls ≠ "java/lang/invoke/VarHandle" ∧ (parseMethodDescriptor y_Ma_top.desc).map (fun d => d.parameters.length) = some 0 := by decide +kernel
theorem g_Ma_top : Cond.initialized y_Ma_top.cls ∈ wG := wg_t 4 (by decide +kernel) (by decide +kernel)
theorem s_Ma_top : Cond.instanceMethod y_Ma_top ∈ wG := wg_t 423 (by decide +kernel) (by decide +kernel)
theorem e_Ma_top : Cond.selects "FrameVerifier$Machine" y_Ma_top y_Ma_top ∈ wG := wg_t 424 (by decide +kernel) (by decide +kernel)
theorem d_Ma_top_0 : decode b_Ma_top 0 = .ok (.aload_n 0, 1) := by decide +kernel
theorem d_Ma_top_1 : decode b_Ma_top 1 = .ok (.getfield 31, 3) := by decide +kernel
theorem d_Ma_top_4 : decode b_Ma_top 4 = .ok (.aload_n 0, 1) := by decide +kernel
theorem d_Ma_top_5 : decode b_Ma_top 5 = .ok (.getfield 15, 3) := by decide +kernel
theorem d_Ma_top_8 : decode b_Ma_top 8 = .ok (.iconst 1, 1) := by decide +kernel
theorem d_Ma_top_9 : decode b_Ma_top 9 = .ok (.isub, 1) := by decide +kernel
theorem d_Ma_top_10 : decode b_Ma_top 10 = .ok (.aaload, 1) := by decide +kernel
theorem d_Ma_top_11 : decode b_Ma_top 11 = .ok (.areturn, 1) := by decide +kernel
def y_Ma_openFrame : MethodName := ⟨"FrameVerifier$Machine", "openFrame", "(I)LFrameVerifier$Frame;"⟩
abbrev b_Ma_openFrame : ByteArray := prog_6_method_7_code
def rm_Ma_openFrame : Room := { frames := 2, cells := 0, slots := 0, locals := 46 }
abbrev w_Ma_openFrame : List Cond := Cond.code y_Ma_openFrame b_Ma_openFrame 3 (some (.object "FrameVerifier$Frame")) :: wG
theorem m_Ma_openFrame : Cond.code y_Ma_openFrame b_Ma_openFrame 3 (some (.object "FrameVerifier$Frame")) ∈ wG := wg_t 395 (by decide +kernel) (by decide +kernel)
theorem q_Ma_openFrame : y_Ma_openFrame.cls ≠ "java/lang/invoke/MethodHandle" ∧ y_Ma_openFrame.cls ≠ "java/lang/invoke/VarHandle" ∧ (parseMethodDescriptor y_Ma_openFrame.desc).map (fun d => d.parameters.length) = some 1 := by decide +kernel
theorem g_Ma_openFrame : Cond.initialized y_Ma_openFrame.cls ∈ wG := wg_t 4 (by decide +kernel) (by decide +kernel)
theorem s_Ma_openFrame : Cond.instanceMethod y_Ma_openFrame ∈ wG := wg_t 394 (by decide +kernel) (by decide +kernel)
theorem e_Ma_openFrame : Cond.selects "FrameVerifier$Machine" y_Ma_openFrame y_Ma_openFrame ∈ wG := wg_s (q := (y_Ma_openFrame, 6)) 11 (by decide +kernel) (by decide +kernel)
theorem d_Ma_openFrame_0 : decode b_Ma_openFrame 0 = .ok (.aload_n 0, 1) := by decide +kernel
theorem d_Ma_openFrame_1 : decode b_Ma_openFrame 1 = .ok (.getfield 31, 3) := by decide +kernel
theorem d_Ma_openFrame_4 : decode b_Ma_openFrame 4 = .ok (.aload_n 0, 1) := by decide +kernel
theorem d_Ma_openFrame_5 : decode b_Ma_openFrame 5 = .ok (.getfield 15, 3) := by decide +kernel
theorem d_Ma_openFrame_8 : decode b_Ma_openFrame 8 = .ok (.aaload, 1) := by decide +kernel
theorem d_Ma_openFrame_9 : decode b_Ma_openFrame 9 = .ok (.astore_n 2, 1) := by decide +kernel
theorem d_Ma_openFrame_10 : decode b_Ma_openFrame 10 = .ok (.aload_n 0, 1) := by decide +kernel
theorem d_Ma_openFrame_11 : decode b_Ma_openFrame 11 = .ok (.dup, 1) := by decide +kernel
theorem d_Ma_openFrame_12 : decode b_Ma_openFrame 12 = .ok (.getfield 15, 3) := by decide +kernel
theorem d_Ma_openFrame_15 : decode b_Ma_openFrame 15 = .ok (.iconst 1, 1) := by decide +kernel
theorem d_Ma_openFrame_16 : decode b_Ma_openFrame 16 = .ok (.iadd, 1) := by decide +kernel
theorem d_Ma_openFrame_17 : decode b_Ma_openFrame 17 = .ok (.putfield 15, 3) := by decide +kernel
theorem d_Ma_openFrame_20 : decode b_Ma_openFrame 20 = .ok (.aload_n 2, 1) := by decide +kernel
theorem d_Ma_openFrame_21 : decode b_Ma_openFrame 21 = .ok (.iload_n 1, 1) := by decide +kernel
theorem d_Ma_openFrame_22 : decode b_Ma_openFrame 22 = .ok (.aload_n 0, 1) := by decide +kernel
theorem d_Ma_openFrame_23 : decode b_Ma_openFrame 23 = .ok (.getfield 9, 3) := by decide +kernel
theorem d_Ma_openFrame_26 : decode b_Ma_openFrame 26 = .ok (.iload_n 1, 1) := by decide +kernel
theorem d_Ma_openFrame_27 : decode b_Ma_openFrame 27 = .ok (.invokevirtual 101, 3) := by decide +kernel
theorem d_Ma_openFrame_30 : decode b_Ma_openFrame 30 = .ok (.aload_n 0, 1) := by decide +kernel
theorem d_Ma_openFrame_31 : decode b_Ma_openFrame 31 = .ok (.getfield 9, 3) := by decide +kernel
theorem d_Ma_openFrame_34 : decode b_Ma_openFrame 34 = .ok (.iload_n 1, 1) := by decide +kernel
theorem d_Ma_openFrame_35 : decode b_Ma_openFrame 35 = .ok (.invokevirtual 104, 3) := by decide +kernel
theorem d_Ma_openFrame_38 : decode b_Ma_openFrame 38 = .ok (.invokevirtual 107, 3) := by decide +kernel
theorem d_Ma_openFrame_41 : decode b_Ma_openFrame 41 = .ok (.aload_n 2, 1) := by decide +kernel
theorem d_Ma_openFrame_42 : decode b_Ma_openFrame 42 = .ok (.areturn, 1) := by decide +kernel
def y_Ma_firstValue : MethodName := ⟨"FrameVerifier$Machine", "firstValue", "(LFrameVerifier$Frame;II)I"⟩
abbrev b_Ma_firstValue : ByteArray := prog_6_method_6_code
def rm_Ma_firstValue : Room := { frames := 1, cells := 0, slots := 0, locals := 21 }
abbrev w_Ma_firstValue : List Cond := Cond.code y_Ma_firstValue b_Ma_firstValue 3 (some .int) :: wG
theorem m_Ma_firstValue : Cond.code y_Ma_firstValue b_Ma_firstValue 3 (some .int) ∈ wG := wg_t 404 (by decide +kernel) (by decide +kernel)
theorem q_Ma_firstValue : y_Ma_firstValue.cls ≠ "java/lang/invoke/MethodHandle" ∧ y_Ma_firstValue.cls ≠ "java/lang/invoke/VarHandle" ∧ (parseMethodDescriptor y_Ma_firstValue.desc).map (fun d => d.parameters.length) = some 3 := by decide +kernel
theorem g_Ma_firstValue : Cond.initialized y_Ma_firstValue.cls ∈ wG := wg_t 4 (by decide +kernel) (by decide +kernel)
theorem s_Ma_firstValue : Cond.static y_Ma_firstValue ∈ wG := wg_t 403 (by decide +kernel) (by decide +kernel)
theorem d_Ma_firstValue_0 : decode b_Ma_firstValue 0 = .ok (.aload_n 0, 1) := by decide +kernel
theorem d_Ma_firstValue_1 : decode b_Ma_firstValue 1 = .ok (.getfield 92, 3) := by decide +kernel
theorem d_Ma_firstValue_4 : decode b_Ma_firstValue 4 = .ok (.iload_n 1, 1) := by decide +kernel
theorem d_Ma_firstValue_5 : decode b_Ma_firstValue 5 = .ok (.invokestatic 95, 3) := by decide +kernel
theorem d_Ma_firstValue_8 : decode b_Ma_firstValue 8 = .ok (.iconst 2, 1) := by decide +kernel
theorem d_Ma_firstValue_9 : decode b_Ma_firstValue 9 = .ok (.if_icmp .ne (7), 3) := by decide +kernel
theorem d_Ma_firstValue_12 : decode b_Ma_firstValue 12 = .ok (.iconst 0, 1) := by decide +kernel
theorem d_Ma_firstValue_13 : decode b_Ma_firstValue 13 = .ok (.goto (4), 3) := by decide +kernel
theorem d_Ma_firstValue_16 : decode b_Ma_firstValue 16 = .ok (.iload_n 2, 1) := by decide +kernel
theorem d_Ma_firstValue_17 : decode b_Ma_firstValue 17 = .ok (.ireturn, 1) := by decide +kernel
def y_Ma_begin : MethodName := ⟨"FrameVerifier$Machine", "begin", "(III)V"⟩
abbrev b_Ma_begin : ByteArray := prog_6_method_4_code
def rm_Ma_begin : Room := { frames := 3, cells := 0, slots := 0, locals := 68 }
abbrev w_Ma_begin : List Cond := Cond.code y_Ma_begin b_Ma_begin 5 none :: wG
theorem m_Ma_begin : Cond.code y_Ma_begin b_Ma_begin 5 none ∈ wG := wg_t 391 (by decide +kernel) (by decide +kernel)
theorem q_Ma_begin : y_Ma_begin.cls ≠ "java/lang/invoke/MethodHandle" ∧ y_Ma_begin.cls ≠ "java/lang/invoke/VarHandle" ∧ (parseMethodDescriptor y_Ma_begin.desc).map (fun d => d.parameters.length) = some 3 := by decide +kernel
theorem g_Ma_begin : Cond.initialized y_Ma_begin.cls ∈ wG := wg_t 4 (by decide +kernel) (by decide +kernel)
theorem s_Ma_begin : Cond.instanceMethod y_Ma_begin ∈ wG := wg_t 389 (by decide +kernel) (by decide +kernel)
theorem e_Ma_begin : Cond.selects "FrameVerifier$Machine" y_Ma_begin y_Ma_begin ∈ wG := wg_t 390 (by decide +kernel) (by decide +kernel)
theorem d_Ma_begin_0 : decode b_Ma_begin 0 = .ok (.aload_n 0, 1) := by decide +kernel
theorem d_Ma_begin_1 : decode b_Ma_begin 1 = .ok (.iconst 0, 1) := by decide +kernel
theorem d_Ma_begin_2 : decode b_Ma_begin 2 = .ok (.putfield 15, 3) := by decide +kernel
theorem d_Ma_begin_5 : decode b_Ma_begin 5 = .ok (.aload_n 0, 1) := by decide +kernel
theorem d_Ma_begin_6 : decode b_Ma_begin 6 = .ok (.iconst 0, 1) := by decide +kernel
theorem d_Ma_begin_7 : decode b_Ma_begin 7 = .ok (.putfield 19, 3) := by decide +kernel
theorem d_Ma_begin_10 : decode b_Ma_begin 10 = .ok (.aload_n 0, 1) := by decide +kernel
theorem d_Ma_begin_11 : decode b_Ma_begin 11 = .ok (.iconst 0, 1) := by decide +kernel
theorem d_Ma_begin_12 : decode b_Ma_begin 12 = .ok (.invokevirtual 36, 3) := by decide +kernel
theorem d_Ma_begin_15 : decode b_Ma_begin 15 = .ok (.astore 4, 2) := by decide +kernel
theorem d_Ma_begin_17 : decode b_Ma_begin 17 = .ok (.aload 4, 2) := by decide +kernel
theorem d_Ma_begin_19 : decode b_Ma_begin 19 = .ok (.iconst 0, 1) := by decide +kernel
theorem d_Ma_begin_20 : decode b_Ma_begin 20 = .ok (.aload 4, 2) := by decide +kernel
theorem d_Ma_begin_22 : decode b_Ma_begin 22 = .ok (.iconst 0, 1) := by decide +kernel
theorem d_Ma_begin_23 : decode b_Ma_begin 23 = .ok (.iload_n 1, 1) := by decide +kernel
theorem d_Ma_begin_24 : decode b_Ma_begin 24 = .ok (.invokestatic 40, 3) := by decide +kernel
theorem d_Ma_begin_27 : decode b_Ma_begin 27 = .ok (.invokevirtual 44, 3) := by decide +kernel
theorem d_Ma_begin_30 : decode b_Ma_begin 30 = .ok (.aload 4, 2) := by decide +kernel
theorem d_Ma_begin_32 : decode b_Ma_begin 32 = .ok (.iconst 1, 1) := by decide +kernel
theorem d_Ma_begin_33 : decode b_Ma_begin 33 = .ok (.aload 4, 2) := by decide +kernel
theorem d_Ma_begin_35 : decode b_Ma_begin 35 = .ok (.iconst 1, 1) := by decide +kernel
theorem d_Ma_begin_36 : decode b_Ma_begin 36 = .ok (.iload_n 2, 1) := by decide +kernel
theorem d_Ma_begin_37 : decode b_Ma_begin 37 = .ok (.invokestatic 40, 3) := by decide +kernel
theorem d_Ma_begin_40 : decode b_Ma_begin 40 = .ok (.invokevirtual 44, 3) := by decide +kernel
theorem d_Ma_begin_43 : decode b_Ma_begin 43 = .ok (.aload 4, 2) := by decide +kernel
theorem d_Ma_begin_45 : decode b_Ma_begin 45 = .ok (.iconst 2, 1) := by decide +kernel
theorem d_Ma_begin_46 : decode b_Ma_begin 46 = .ok (.aload 4, 2) := by decide +kernel
theorem d_Ma_begin_48 : decode b_Ma_begin 48 = .ok (.iconst 2, 1) := by decide +kernel
theorem d_Ma_begin_49 : decode b_Ma_begin 49 = .ok (.iload_n 3, 1) := by decide +kernel
theorem d_Ma_begin_50 : decode b_Ma_begin 50 = .ok (.invokestatic 40, 3) := by decide +kernel
theorem d_Ma_begin_53 : decode b_Ma_begin 53 = .ok (.invokevirtual 44, 3) := by decide +kernel
theorem d_Ma_begin_56 : decode b_Ma_begin 56 = .ok (.return_, 1) := by decide +kernel
def y_Ma_lengthOf : MethodName := ⟨"FrameVerifier$Machine", "lengthOf", "(I)I"⟩
abbrev b_Ma_lengthOf : ByteArray := prog_6_method_18_code
def rm_Ma_lengthOf : Room := { frames := 0, cells := 0, slots := 0, locals := 0 }
abbrev w_Ma_lengthOf : List Cond := Cond.code y_Ma_lengthOf b_Ma_lengthOf 1 (some .int) :: wG
theorem m_Ma_lengthOf : Cond.code y_Ma_lengthOf b_Ma_lengthOf 1 (some .int) ∈ wG := wg_t 557 (by decide +kernel) (by decide +kernel)
theorem q_Ma_lengthOf : y_Ma_lengthOf.cls ≠ "java/lang/invoke/MethodHandle" ∧ y_Ma_lengthOf.cls ≠ "java/lang/invoke/VarHandle" ∧ (parseMethodDescriptor y_Ma_lengthOf.desc).map (fun d => d.parameters.length) = some 1 := by decide +kernel
theorem g_Ma_lengthOf : Cond.initialized y_Ma_lengthOf.cls ∈ wG := wg_t 4 (by decide +kernel) (by decide +kernel)
theorem s_Ma_lengthOf : Cond.static y_Ma_lengthOf ∈ wG := wg_t 556 (by decide +kernel) (by decide +kernel)
theorem d_Ma_lengthOf_0 : decode b_Ma_lengthOf 0 = .ok (.iload_n 0, 1) := by decide +kernel
theorem d_Ma_lengthOf_1 : decode b_Ma_lengthOf 1 = .ok (.iconst 1, 1) := by decide +kernel
theorem d_Ma_lengthOf_2 : decode b_Ma_lengthOf 2 = .ok (.isub, 1) := by decide +kernel
theorem d_Ma_lengthOf_3 : decode b_Ma_lengthOf 3 = .ok (.bipush (15), 2) := by decide +kernel
theorem d_Ma_lengthOf_5 : decode b_Ma_lengthOf 5 = .ok (.iand, 1) := by decide +kernel
theorem d_Ma_lengthOf_6 : decode b_Ma_lengthOf 6 = .ok (.ireturn, 1) := by decide +kernel
def y_Ma_elementTrap : MethodName := ⟨"FrameVerifier$Machine", "elementTrap", "(II)LFrameVerifier$Trap;"⟩
abbrev b_Ma_elementTrap : ByteArray := prog_6_method_9_code
def rm_Ma_elementTrap : Room := { frames := 1, cells := 0, slots := 0, locals := 20 }
abbrev w_Ma_elementTrap : List Cond := Cond.code y_Ma_elementTrap b_Ma_elementTrap 2 (some (.object "FrameVerifier$Trap")) :: wG
theorem m_Ma_elementTrap : Cond.code y_Ma_elementTrap b_Ma_elementTrap 2 (some (.object "FrameVerifier$Trap")) ∈ wG := wg_t 552 (by decide +kernel) (by decide +kernel)
theorem q_Ma_elementTrap : y_Ma_elementTrap.cls ≠ "java/lang/invoke/MethodHandle" ∧ y_Ma_elementTrap.cls ≠ "java/lang/invoke/VarHandle" ∧ (parseMethodDescriptor y_Ma_elementTrap.desc).map (fun d => d.parameters.length) = some 2 := by decide +kernel
theorem g_Ma_elementTrap : Cond.initialized y_Ma_elementTrap.cls ∈ wG := wg_t 4 (by decide +kernel) (by decide +kernel)
theorem s_Ma_elementTrap : Cond.static y_Ma_elementTrap ∈ wG := wg_t 551 (by decide +kernel) (by decide +kernel)
theorem d_Ma_elementTrap_0 : decode b_Ma_elementTrap 0 = .ok (.iload_n 0, 1) := by decide +kernel
theorem d_Ma_elementTrap_1 : decode b_Ma_elementTrap 1 = .ok (.ifCond .ne (7), 3) := by decide +kernel
theorem d_Ma_elementTrap_4 : decode b_Ma_elementTrap 4 = .ok (.getstatic 140, 3) := by decide +kernel
theorem d_Ma_elementTrap_7 : decode b_Ma_elementTrap 7 = .ok (.areturn, 1) := by decide +kernel
theorem d_Ma_elementTrap_8 : decode b_Ma_elementTrap 8 = .ok (.iload_n 1, 1) := by decide +kernel
theorem d_Ma_elementTrap_9 : decode b_Ma_elementTrap 9 = .ok (.ifCond .lt (17), 3) := by decide +kernel
theorem d_Ma_elementTrap_12 : decode b_Ma_elementTrap 12 = .ok (.iload_n 1, 1) := by decide +kernel
theorem d_Ma_elementTrap_13 : decode b_Ma_elementTrap 13 = .ok (.iload_n 0, 1) := by decide +kernel
theorem d_Ma_elementTrap_14 : decode b_Ma_elementTrap 14 = .ok (.invokestatic 150, 3) := by decide +kernel
theorem d_Ma_elementTrap_17 : decode b_Ma_elementTrap 17 = .ok (.if_icmp .ge (9), 3) := by decide +kernel
theorem d_Ma_elementTrap_20 : decode b_Ma_elementTrap 20 = .ok (.getstatic 56, 3) := by decide +kernel
theorem d_Ma_elementTrap_23 : decode b_Ma_elementTrap 23 = .ok (.goto (6), 3) := by decide +kernel
theorem d_Ma_elementTrap_26 : decode b_Ma_elementTrap 26 = .ok (.getstatic 153, 3) := by decide +kernel
theorem d_Ma_elementTrap_29 : decode b_Ma_elementTrap 29 = .ok (.areturn, 1) := by decide +kernel
def y_Ma_canMake : MethodName := ⟨"FrameVerifier$Machine", "canMake", "(I)Z"⟩
abbrev b_Ma_canMake : ByteArray := prog_6_method_10_code
def rm_Ma_canMake : Room := { frames := 0, cells := 0, slots := 0, locals := 0 }
abbrev w_Ma_canMake : List Cond := Cond.code y_Ma_canMake b_Ma_canMake 2 (some .boolean) :: wG
theorem m_Ma_canMake : Cond.code y_Ma_canMake b_Ma_canMake 2 (some .boolean) ∈ wG := wg_t 563 (by decide +kernel) (by decide +kernel)
theorem q_Ma_canMake : y_Ma_canMake.cls ≠ "java/lang/invoke/MethodHandle" ∧ y_Ma_canMake.cls ≠ "java/lang/invoke/VarHandle" ∧ (parseMethodDescriptor y_Ma_canMake.desc).map (fun d => d.parameters.length) = some 1 := by decide +kernel
theorem g_Ma_canMake : Cond.initialized y_Ma_canMake.cls ∈ wG := wg_t 4 (by decide +kernel) (by decide +kernel)
theorem s_Ma_canMake : Cond.instanceMethod y_Ma_canMake ∈ wG := wg_t 562 (by decide +kernel) (by decide +kernel)
theorem e_Ma_canMake : Cond.selects "FrameVerifier$Machine" y_Ma_canMake y_Ma_canMake ∈ wG := wg_s (q := (y_Ma_canMake, 6)) 15 (by decide +kernel) (by decide +kernel)
theorem d_Ma_canMake_0 : decode b_Ma_canMake 0 = .ok (.iload_n 1, 1) := by decide +kernel
theorem d_Ma_canMake_1 : decode b_Ma_canMake 1 = .ok (.ifCond .lt (24), 3) := by decide +kernel
theorem d_Ma_canMake_4 : decode b_Ma_canMake 4 = .ok (.iload_n 1, 1) := by decide +kernel
theorem d_Ma_canMake_5 : decode b_Ma_canMake 5 = .ok (.bipush (12), 2) := by decide +kernel
theorem d_Ma_canMake_7 : decode b_Ma_canMake 7 = .ok (.if_icmp .gt (18), 3) := by decide +kernel
theorem d_Ma_canMake_10 : decode b_Ma_canMake 10 = .ok (.aload_n 0, 1) := by decide +kernel
theorem d_Ma_canMake_11 : decode b_Ma_canMake 11 = .ok (.getfield 19, 3) := by decide +kernel
theorem d_Ma_canMake_14 : decode b_Ma_canMake 14 = .ok (.iload_n 1, 1) := by decide +kernel
theorem d_Ma_canMake_15 : decode b_Ma_canMake 15 = .ok (.iadd, 1) := by decide +kernel
theorem d_Ma_canMake_16 : decode b_Ma_canMake 16 = .ok (.bipush (30), 2) := by decide +kernel
theorem d_Ma_canMake_18 : decode b_Ma_canMake 18 = .ok (.if_icmp .gt (7), 3) := by decide +kernel
theorem d_Ma_canMake_21 : decode b_Ma_canMake 21 = .ok (.iconst 1, 1) := by decide +kernel
theorem d_Ma_canMake_22 : decode b_Ma_canMake 22 = .ok (.goto (4), 3) := by decide +kernel
theorem d_Ma_canMake_25 : decode b_Ma_canMake 25 = .ok (.iconst 0, 1) := by decide +kernel
theorem d_Ma_canMake_26 : decode b_Ma_canMake 26 = .ok (.ireturn, 1) := by decide +kernel
def y_Ma_trapOf : MethodName := ⟨"FrameVerifier$Machine", "trapOf", "(LFrameVerifier$Frame;)LFrameVerifier$Trap;"⟩
abbrev b_Ma_trapOf : ByteArray := prog_6_method_8_code
def rm_Ma_trapOf : Room := { frames := 8, cells := 0, slots := 0, locals := 183 }
abbrev w_Ma_trapOf : List Cond := Cond.code y_Ma_trapOf b_Ma_trapOf 2 (some (.object "FrameVerifier$Trap")) :: wG
theorem m_Ma_trapOf : Cond.code y_Ma_trapOf b_Ma_trapOf 2 (some (.object "FrameVerifier$Trap")) ∈ wG := wg_t 534 (by decide +kernel) (by decide +kernel)
theorem q_Ma_trapOf : y_Ma_trapOf.cls ≠ "java/lang/invoke/MethodHandle" ∧ y_Ma_trapOf.cls ≠ "java/lang/invoke/VarHandle" ∧ (parseMethodDescriptor y_Ma_trapOf.desc).map (fun d => d.parameters.length) = some 1 := by decide +kernel
theorem g_Ma_trapOf : Cond.initialized y_Ma_trapOf.cls ∈ wG := wg_t 4 (by decide +kernel) (by decide +kernel)
theorem s_Ma_trapOf : Cond.instanceMethod y_Ma_trapOf ∈ wG := wg_t 533 (by decide +kernel) (by decide +kernel)
theorem e_Ma_trapOf : Cond.selects "FrameVerifier$Machine" y_Ma_trapOf y_Ma_trapOf ∈ wG := wg_s (q := (y_Ma_trapOf, 6)) 14 (by decide +kernel) (by decide +kernel)
theorem d_Ma_trapOf_0 : decode b_Ma_trapOf 0 = .ok (.aload_n 0, 1) := by decide +kernel
theorem d_Ma_trapOf_1 : decode b_Ma_trapOf 1 = .ok (.getfield 9, 3) := by decide +kernel
theorem d_Ma_trapOf_4 : decode b_Ma_trapOf 4 = .ok (.aload_n 1, 1) := by decide +kernel
theorem d_Ma_trapOf_5 : decode b_Ma_trapOf 5 = .ok (.getfield 111, 3) := by decide +kernel
theorem d_Ma_trapOf_8 : decode b_Ma_trapOf 8 = .ok (.aload_n 1, 1) := by decide +kernel
theorem d_Ma_trapOf_9 : decode b_Ma_trapOf 9 = .ok (.getfield 66, 3) := by decide +kernel
theorem d_Ma_trapOf_12 : decode b_Ma_trapOf 12 = .ok (.aload_n 1, 1) := by decide +kernel
theorem d_Ma_trapOf_13 : decode b_Ma_trapOf 13 = .ok (.getfield 92, 3) := by decide +kernel
theorem d_Ma_trapOf_16 : decode b_Ma_trapOf 16 = .ok (.invokevirtual 114, 3) := by decide +kernel
theorem d_Ma_trapOf_19 : decode b_Ma_trapOf 19 = .ok (.ifCond .ne (7), 3) := by decide +kernel
theorem d_Ma_trapOf_22 : decode b_Ma_trapOf 22 = .ok (.getstatic 118, 3) := by decide +kernel
theorem d_Ma_trapOf_25 : decode b_Ma_trapOf 25 = .ok (.areturn, 1) := by decide +kernel
theorem d_Ma_trapOf_26 : decode b_Ma_trapOf 26 = .ok (.getstatic 121, 3) := by decide +kernel
theorem d_Ma_trapOf_29 : decode b_Ma_trapOf 29 = .ok (.aload_n 0, 1) := by decide +kernel
theorem d_Ma_trapOf_30 : decode b_Ma_trapOf 30 = .ok (.getfield 9, 3) := by decide +kernel
theorem d_Ma_trapOf_33 : decode b_Ma_trapOf 33 = .ok (.aload_n 1, 1) := by decide +kernel
theorem d_Ma_trapOf_34 : decode b_Ma_trapOf 34 = .ok (.getfield 66, 3) := by decide +kernel
theorem d_Ma_trapOf_37 : decode b_Ma_trapOf 37 = .ok (.invokevirtual 69, 3) := by decide +kernel
theorem d_Ma_trapOf_40 : decode b_Ma_trapOf 40 = .ok (.invokevirtual 126, 3) := by decide +kernel
theorem d_Ma_trapOf_43 : decode b_Ma_trapOf 43 = .ok (.iaload, 1) := by decide +kernel
theorem d_Ma_trapOf_44 : decode b_Ma_trapOf 44 = .ok (.tableswitch (149) (5) (11) #[(130), (149), (44), (62), (76), (90), (108)], 44) := by decide +kernel
theorem d_Ma_trapOf_88 : decode b_Ma_trapOf 88 = .ok (.aload_n 1, 1) := by decide +kernel
theorem d_Ma_trapOf_89 : decode b_Ma_trapOf 89 = .ok (.iconst 0, 1) := by decide +kernel
theorem d_Ma_trapOf_90 : decode b_Ma_trapOf 90 = .ok (.invokevirtual 130, 3) := by decide +kernel
theorem d_Ma_trapOf_93 : decode b_Ma_trapOf 93 = .ok (.ifCond .ne (9), 3) := by decide +kernel
theorem d_Ma_trapOf_96 : decode b_Ma_trapOf 96 = .ok (.getstatic 133, 3) := by decide +kernel
theorem d_Ma_trapOf_99 : decode b_Ma_trapOf 99 = .ok (.goto (6), 3) := by decide +kernel
theorem d_Ma_trapOf_102 : decode b_Ma_trapOf 102 = .ok (.getstatic 56, 3) := by decide +kernel
theorem d_Ma_trapOf_105 : decode b_Ma_trapOf 105 = .ok (.areturn, 1) := by decide +kernel
theorem d_Ma_trapOf_106 : decode b_Ma_trapOf 106 = .ok (.aload_n 1, 1) := by decide +kernel
theorem d_Ma_trapOf_107 : decode b_Ma_trapOf 107 = .ok (.iconst 1, 1) := by decide +kernel
theorem d_Ma_trapOf_108 : decode b_Ma_trapOf 108 = .ok (.invokevirtual 130, 3) := by decide +kernel
theorem d_Ma_trapOf_111 : decode b_Ma_trapOf 111 = .ok (.aload_n 1, 1) := by decide +kernel
theorem d_Ma_trapOf_112 : decode b_Ma_trapOf 112 = .ok (.iconst 0, 1) := by decide +kernel
theorem d_Ma_trapOf_113 : decode b_Ma_trapOf 113 = .ok (.invokevirtual 130, 3) := by decide +kernel
theorem d_Ma_trapOf_116 : decode b_Ma_trapOf 116 = .ok (.invokestatic 136, 3) := by decide +kernel
theorem d_Ma_trapOf_119 : decode b_Ma_trapOf 119 = .ok (.areturn, 1) := by decide +kernel
theorem d_Ma_trapOf_120 : decode b_Ma_trapOf 120 = .ok (.aload_n 1, 1) := by decide +kernel
theorem d_Ma_trapOf_121 : decode b_Ma_trapOf 121 = .ok (.iconst 2, 1) := by decide +kernel
theorem d_Ma_trapOf_122 : decode b_Ma_trapOf 122 = .ok (.invokevirtual 130, 3) := by decide +kernel
theorem d_Ma_trapOf_125 : decode b_Ma_trapOf 125 = .ok (.aload_n 1, 1) := by decide +kernel
theorem d_Ma_trapOf_126 : decode b_Ma_trapOf 126 = .ok (.iconst 1, 1) := by decide +kernel
theorem d_Ma_trapOf_127 : decode b_Ma_trapOf 127 = .ok (.invokevirtual 130, 3) := by decide +kernel
theorem d_Ma_trapOf_130 : decode b_Ma_trapOf 130 = .ok (.invokestatic 136, 3) := by decide +kernel
theorem d_Ma_trapOf_133 : decode b_Ma_trapOf 133 = .ok (.areturn, 1) := by decide +kernel
theorem d_Ma_trapOf_134 : decode b_Ma_trapOf 134 = .ok (.aload_n 1, 1) := by decide +kernel
theorem d_Ma_trapOf_135 : decode b_Ma_trapOf 135 = .ok (.iconst 0, 1) := by decide +kernel
theorem d_Ma_trapOf_136 : decode b_Ma_trapOf 136 = .ok (.invokevirtual 130, 3) := by decide +kernel
theorem d_Ma_trapOf_139 : decode b_Ma_trapOf 139 = .ok (.ifCond .ne (9), 3) := by decide +kernel
theorem d_Ma_trapOf_142 : decode b_Ma_trapOf 142 = .ok (.getstatic 140, 3) := by decide +kernel
theorem d_Ma_trapOf_145 : decode b_Ma_trapOf 145 = .ok (.goto (6), 3) := by decide +kernel
theorem d_Ma_trapOf_148 : decode b_Ma_trapOf 148 = .ok (.getstatic 56, 3) := by decide +kernel
theorem d_Ma_trapOf_151 : decode b_Ma_trapOf 151 = .ok (.areturn, 1) := by decide +kernel
theorem d_Ma_trapOf_152 : decode b_Ma_trapOf 152 = .ok (.aload_n 0, 1) := by decide +kernel
theorem d_Ma_trapOf_153 : decode b_Ma_trapOf 153 = .ok (.aload_n 1, 1) := by decide +kernel
theorem d_Ma_trapOf_154 : decode b_Ma_trapOf 154 = .ok (.iconst 0, 1) := by decide +kernel
theorem d_Ma_trapOf_155 : decode b_Ma_trapOf 155 = .ok (.invokevirtual 130, 3) := by decide +kernel
theorem d_Ma_trapOf_158 : decode b_Ma_trapOf 158 = .ok (.invokevirtual 143, 3) := by decide +kernel
theorem d_Ma_trapOf_161 : decode b_Ma_trapOf 161 = .ok (.ifCond .eq (9), 3) := by decide +kernel
theorem d_Ma_trapOf_164 : decode b_Ma_trapOf 164 = .ok (.getstatic 56, 3) := by decide +kernel
theorem d_Ma_trapOf_167 : decode b_Ma_trapOf 167 = .ok (.goto (6), 3) := by decide +kernel
theorem d_Ma_trapOf_170 : decode b_Ma_trapOf 170 = .ok (.getstatic 147, 3) := by decide +kernel
theorem d_Ma_trapOf_173 : decode b_Ma_trapOf 173 = .ok (.areturn, 1) := by decide +kernel
theorem d_Ma_trapOf_174 : decode b_Ma_trapOf 174 = .ok (.aload_n 0, 1) := by decide +kernel
theorem d_Ma_trapOf_175 : decode b_Ma_trapOf 175 = .ok (.getfield 15, 3) := by decide +kernel
theorem d_Ma_trapOf_178 : decode b_Ma_trapOf 178 = .ok (.bipush (8), 2) := by decide +kernel
theorem d_Ma_trapOf_180 : decode b_Ma_trapOf 180 = .ok (.if_icmp .ge (9), 3) := by decide +kernel
theorem d_Ma_trapOf_183 : decode b_Ma_trapOf 183 = .ok (.getstatic 56, 3) := by decide +kernel
theorem d_Ma_trapOf_186 : decode b_Ma_trapOf 186 = .ok (.goto (6), 3) := by decide +kernel
theorem d_Ma_trapOf_189 : decode b_Ma_trapOf 189 = .ok (.getstatic 147, 3) := by decide +kernel
theorem d_Ma_trapOf_192 : decode b_Ma_trapOf 192 = .ok (.areturn, 1) := by decide +kernel
theorem d_Ma_trapOf_193 : decode b_Ma_trapOf 193 = .ok (.getstatic 56, 3) := by decide +kernel
theorem d_Ma_trapOf_196 : decode b_Ma_trapOf 196 = .ok (.areturn, 1) := by decide +kernel
def y_Ma_jump : MethodName := ⟨"FrameVerifier$Machine", "jump", "(LFrameVerifier$Frame;LFrameVerifier$Op;I)V"⟩
abbrev b_Ma_jump : ByteArray := prog_6_method_12_code
def rm_Ma_jump : Room := { frames := 3, cells := 0, slots := 0, locals := 67 }
abbrev w_Ma_jump : List Cond := Cond.code y_Ma_jump b_Ma_jump 3 none :: wG
theorem m_Ma_jump : Cond.code y_Ma_jump b_Ma_jump 3 none ∈ wG := wg_t 640 (by decide +kernel) (by decide +kernel)
theorem q_Ma_jump : y_Ma_jump.cls ≠ "java/lang/invoke/MethodHandle" ∧ y_Ma_jump.cls ≠ "java/lang/invoke/VarHandle" ∧ (parseMethodDescriptor y_Ma_jump.desc).map (fun d => d.parameters.length) = some 3 := by decide +kernel
theorem g_Ma_jump : Cond.initialized y_Ma_jump.cls ∈ wG := wg_t 4 (by decide +kernel) (by decide +kernel)
theorem s_Ma_jump : Cond.static y_Ma_jump ∈ wG := wg_t 639 (by decide +kernel) (by decide +kernel)
theorem d_Ma_jump_0 : decode b_Ma_jump 0 = .ok (.aload_n 1, 1) := by decide +kernel
theorem d_Ma_jump_1 : decode b_Ma_jump 1 = .ok (.getstatic 175, 3) := by decide +kernel
theorem d_Ma_jump_4 : decode b_Ma_jump 4 = .ok (.if_acmp .eq (10), 3) := by decide +kernel
theorem d_Ma_jump_7 : decode b_Ma_jump 7 = .ok (.aload_n 0, 1) := by decide +kernel
theorem d_Ma_jump_8 : decode b_Ma_jump 8 = .ok (.invokevirtual 179, 3) := by decide +kernel
theorem d_Ma_jump_11 : decode b_Ma_jump 11 = .ok (.ifCond .ne (8), 3) := by decide +kernel
theorem d_Ma_jump_14 : decode b_Ma_jump 14 = .ok (.aload_n 0, 1) := by decide +kernel
theorem d_Ma_jump_15 : decode b_Ma_jump 15 = .ok (.iload_n 2, 1) := by decide +kernel
theorem d_Ma_jump_16 : decode b_Ma_jump 16 = .ok (.putfield 66, 3) := by decide +kernel
theorem d_Ma_jump_19 : decode b_Ma_jump 19 = .ok (.return_, 1) := by decide +kernel
def y_Ma_reckoned : MethodName := ⟨"FrameVerifier$Machine", "reckoned", "(LFrameVerifier$Op;II)I"⟩
abbrev b_Ma_reckoned : ByteArray := prog_6_method_15_code
def rm_Ma_reckoned : Room := { frames := 1, cells := 0, slots := 0, locals := 20 }
abbrev w_Ma_reckoned : List Cond := Cond.code y_Ma_reckoned b_Ma_reckoned 3 (some .int) :: wG
theorem m_Ma_reckoned : Cond.code y_Ma_reckoned b_Ma_reckoned 3 (some .int) ∈ wG := wg_t 657 (by decide +kernel) (by decide +kernel)
theorem q_Ma_reckoned : y_Ma_reckoned.cls ≠ "java/lang/invoke/MethodHandle" ∧ y_Ma_reckoned.cls ≠ "java/lang/invoke/VarHandle" ∧ (parseMethodDescriptor y_Ma_reckoned.desc).map (fun d => d.parameters.length) = some 3 := by decide +kernel
theorem g_Ma_reckoned : Cond.initialized y_Ma_reckoned.cls ∈ wG := wg_t 4 (by decide +kernel) (by decide +kernel)
theorem s_Ma_reckoned : Cond.static y_Ma_reckoned ∈ wG := wg_t 656 (by decide +kernel) (by decide +kernel)
theorem d_Ma_reckoned_0 : decode b_Ma_reckoned 0 = .ok (.getstatic 121, 3) := by decide +kernel
theorem d_Ma_reckoned_3 : decode b_Ma_reckoned 3 = .ok (.aload_n 0, 1) := by decide +kernel
theorem d_Ma_reckoned_4 : decode b_Ma_reckoned 4 = .ok (.invokevirtual 126, 3) := by decide +kernel
theorem d_Ma_reckoned_7 : decode b_Ma_reckoned 7 = .ok (.iaload, 1) := by decide +kernel
theorem d_Ma_reckoned_8 : decode b_Ma_reckoned 8 = .ok (.tableswitch (40) (12) (14) #[(28), (32), (36)], 28) := by decide +kernel
theorem d_Ma_reckoned_36 : decode b_Ma_reckoned 36 = .ok (.iload_n 1, 1) := by decide +kernel
theorem d_Ma_reckoned_37 : decode b_Ma_reckoned 37 = .ok (.iload_n 2, 1) := by decide +kernel
theorem d_Ma_reckoned_38 : decode b_Ma_reckoned 38 = .ok (.iadd, 1) := by decide +kernel
theorem d_Ma_reckoned_39 : decode b_Ma_reckoned 39 = .ok (.ireturn, 1) := by decide +kernel
theorem d_Ma_reckoned_40 : decode b_Ma_reckoned 40 = .ok (.iload_n 1, 1) := by decide +kernel
theorem d_Ma_reckoned_41 : decode b_Ma_reckoned 41 = .ok (.iload_n 2, 1) := by decide +kernel
theorem d_Ma_reckoned_42 : decode b_Ma_reckoned 42 = .ok (.isub, 1) := by decide +kernel
theorem d_Ma_reckoned_43 : decode b_Ma_reckoned 43 = .ok (.ireturn, 1) := by decide +kernel
theorem d_Ma_reckoned_44 : decode b_Ma_reckoned 44 = .ok (.iload_n 1, 1) := by decide +kernel
theorem d_Ma_reckoned_45 : decode b_Ma_reckoned 45 = .ok (.iload_n 2, 1) := by decide +kernel
theorem d_Ma_reckoned_46 : decode b_Ma_reckoned 46 = .ok (.imul, 1) := by decide +kernel
theorem d_Ma_reckoned_47 : decode b_Ma_reckoned 47 = .ok (.ireturn, 1) := by decide +kernel
theorem d_Ma_reckoned_48 : decode b_Ma_reckoned 48 = .ok (.iload_n 2, 1) := by decide +kernel
theorem d_Ma_reckoned_49 : decode b_Ma_reckoned 49 = .ok (.ifCond .ne (7), 3) := by decide +kernel
theorem d_Ma_reckoned_52 : decode b_Ma_reckoned 52 = .ok (.iconst 0, 1) := by decide +kernel
theorem d_Ma_reckoned_53 : decode b_Ma_reckoned 53 = .ok (.goto (6), 3) := by decide +kernel
theorem d_Ma_reckoned_56 : decode b_Ma_reckoned 56 = .ok (.iload_n 1, 1) := by decide +kernel
theorem d_Ma_reckoned_57 : decode b_Ma_reckoned 57 = .ok (.iload_n 2, 1) := by decide +kernel
theorem d_Ma_reckoned_58 : decode b_Ma_reckoned 58 = .ok (.idiv, 1) := by decide +kernel
theorem d_Ma_reckoned_59 : decode b_Ma_reckoned 59 = .ok (.ireturn, 1) := by decide +kernel
def y_Ma_reckon : MethodName := ⟨"FrameVerifier$Machine", "reckon", "(LFrameVerifier$Frame;LFrameVerifier$Op;)V"⟩
abbrev b_Ma_reckon : ByteArray := prog_6_method_14_code
def rm_Ma_reckon : Room := { frames := 3, cells := 0, slots := 0, locals := 67 }
abbrev w_Ma_reckon : List Cond := Cond.code y_Ma_reckon b_Ma_reckon 4 none :: wG
theorem m_Ma_reckon : Cond.code y_Ma_reckon b_Ma_reckon 4 none ∈ wG := wg_t 654 (by decide +kernel) (by decide +kernel)
theorem q_Ma_reckon : y_Ma_reckon.cls ≠ "java/lang/invoke/MethodHandle" ∧ y_Ma_reckon.cls ≠ "java/lang/invoke/VarHandle" ∧ (parseMethodDescriptor y_Ma_reckon.desc).map (fun d => d.parameters.length) = some 2 := by decide +kernel
theorem g_Ma_reckon : Cond.initialized y_Ma_reckon.cls ∈ wG := wg_t 4 (by decide +kernel) (by decide +kernel)
theorem s_Ma_reckon : Cond.static y_Ma_reckon ∈ wG := wg_t 653 (by decide +kernel) (by decide +kernel)
theorem d_Ma_reckon_0 : decode b_Ma_reckon 0 = .ok (.aload_n 0, 1) := by decide +kernel
theorem d_Ma_reckon_1 : decode b_Ma_reckon 1 = .ok (.invokevirtual 179, 3) := by decide +kernel
theorem d_Ma_reckon_4 : decode b_Ma_reckon 4 = .ok (.istore_n 2, 1) := by decide +kernel
theorem d_Ma_reckon_5 : decode b_Ma_reckon 5 = .ok (.aload_n 0, 1) := by decide +kernel
theorem d_Ma_reckon_6 : decode b_Ma_reckon 6 = .ok (.invokevirtual 179, 3) := by decide +kernel
theorem d_Ma_reckon_9 : decode b_Ma_reckon 9 = .ok (.istore_n 3, 1) := by decide +kernel
theorem d_Ma_reckon_10 : decode b_Ma_reckon 10 = .ok (.aload_n 0, 1) := by decide +kernel
theorem d_Ma_reckon_11 : decode b_Ma_reckon 11 = .ok (.iconst 1, 1) := by decide +kernel
theorem d_Ma_reckon_12 : decode b_Ma_reckon 12 = .ok (.aload_n 1, 1) := by decide +kernel
theorem d_Ma_reckon_13 : decode b_Ma_reckon 13 = .ok (.iload_n 3, 1) := by decide +kernel
theorem d_Ma_reckon_14 : decode b_Ma_reckon 14 = .ok (.iload_n 2, 1) := by decide +kernel
theorem d_Ma_reckon_15 : decode b_Ma_reckon 15 = .ok (.invokestatic 200, 3) := by decide +kernel
theorem d_Ma_reckon_18 : decode b_Ma_reckon 18 = .ok (.invokevirtual 204, 3) := by decide +kernel
theorem d_Ma_reckon_21 : decode b_Ma_reckon 21 = .ok (.return_, 1) := by decide +kernel
def y_Ma_makeArray : MethodName := ⟨"FrameVerifier$Machine", "makeArray", "(I)I"⟩
abbrev b_Ma_makeArray : ByteArray := prog_6_method_17_code
def rm_Ma_makeArray : Room := { frames := 0, cells := 0, slots := 0, locals := 0 }
abbrev w_Ma_makeArray : List Cond := Cond.code y_Ma_makeArray b_Ma_makeArray 4 (some .int) :: wG
theorem m_Ma_makeArray : Cond.code y_Ma_makeArray b_Ma_makeArray 4 (some .int) ∈ wG := wg_t 670 (by decide +kernel) (by decide +kernel)
theorem q_Ma_makeArray : y_Ma_makeArray.cls ≠ "java/lang/invoke/MethodHandle" ∧ y_Ma_makeArray.cls ≠ "java/lang/invoke/VarHandle" ∧ (parseMethodDescriptor y_Ma_makeArray.desc).map (fun d => d.parameters.length) = some 1 := by decide +kernel
theorem g_Ma_makeArray : Cond.initialized y_Ma_makeArray.cls ∈ wG := wg_t 4 (by decide +kernel) (by decide +kernel)
theorem s_Ma_makeArray : Cond.instanceMethod y_Ma_makeArray ∈ wG := wg_t 669 (by decide +kernel) (by decide +kernel)
theorem e_Ma_makeArray : Cond.selects "FrameVerifier$Machine" y_Ma_makeArray y_Ma_makeArray ∈ wG := wg_s (q := (y_Ma_makeArray, 6)) 18 (by decide +kernel) (by decide +kernel)
theorem d_Ma_makeArray_0 : decode b_Ma_makeArray 0 = .ok (.iconst 1, 1) := by decide +kernel
theorem d_Ma_makeArray_1 : decode b_Ma_makeArray 1 = .ok (.aload_n 0, 1) := by decide +kernel
theorem d_Ma_makeArray_2 : decode b_Ma_makeArray 2 = .ok (.getfield 19, 3) := by decide +kernel
theorem d_Ma_makeArray_5 : decode b_Ma_makeArray 5 = .ok (.iconst 4, 1) := by decide +kernel
theorem d_Ma_makeArray_6 : decode b_Ma_makeArray 6 = .ok (.ishl, 1) := by decide +kernel
theorem d_Ma_makeArray_7 : decode b_Ma_makeArray 7 = .ok (.iadd, 1) := by decide +kernel
theorem d_Ma_makeArray_8 : decode b_Ma_makeArray 8 = .ok (.iload_n 1, 1) := by decide +kernel
theorem d_Ma_makeArray_9 : decode b_Ma_makeArray 9 = .ok (.iadd, 1) := by decide +kernel
theorem d_Ma_makeArray_10 : decode b_Ma_makeArray 10 = .ok (.istore_n 2, 1) := by decide +kernel
theorem d_Ma_makeArray_11 : decode b_Ma_makeArray 11 = .ok (.iconst 0, 1) := by decide +kernel
theorem d_Ma_makeArray_12 : decode b_Ma_makeArray 12 = .ok (.istore_n 3, 1) := by decide +kernel
theorem d_Ma_makeArray_13 : decode b_Ma_makeArray 13 = .ok (.iload_n 3, 1) := by decide +kernel
theorem d_Ma_makeArray_14 : decode b_Ma_makeArray 14 = .ok (.iload_n 1, 1) := by decide +kernel
theorem d_Ma_makeArray_15 : decode b_Ma_makeArray 15 = .ok (.if_icmp .ge (21), 3) := by decide +kernel
theorem d_Ma_makeArray_18 : decode b_Ma_makeArray 18 = .ok (.aload_n 0, 1) := by decide +kernel
theorem d_Ma_makeArray_19 : decode b_Ma_makeArray 19 = .ok (.getfield 25, 3) := by decide +kernel
theorem d_Ma_makeArray_22 : decode b_Ma_makeArray 22 = .ok (.aload_n 0, 1) := by decide +kernel
theorem d_Ma_makeArray_23 : decode b_Ma_makeArray 23 = .ok (.getfield 19, 3) := by decide +kernel
theorem d_Ma_makeArray_26 : decode b_Ma_makeArray 26 = .ok (.iload_n 3, 1) := by decide +kernel
theorem d_Ma_makeArray_27 : decode b_Ma_makeArray 27 = .ok (.iadd, 1) := by decide +kernel
theorem d_Ma_makeArray_28 : decode b_Ma_makeArray 28 = .ok (.iconst 0, 1) := by decide +kernel
theorem d_Ma_makeArray_29 : decode b_Ma_makeArray 29 = .ok (.iastore, 1) := by decide +kernel
theorem d_Ma_makeArray_30 : decode b_Ma_makeArray 30 = .ok (.iinc 3 (1), 3) := by decide +kernel
theorem d_Ma_makeArray_33 : decode b_Ma_makeArray 33 = .ok (.goto (-20), 3) := by decide +kernel
theorem d_Ma_makeArray_36 : decode b_Ma_makeArray 36 = .ok (.aload_n 0, 1) := by decide +kernel
theorem d_Ma_makeArray_37 : decode b_Ma_makeArray 37 = .ok (.dup, 1) := by decide +kernel
theorem d_Ma_makeArray_38 : decode b_Ma_makeArray 38 = .ok (.getfield 19, 3) := by decide +kernel
theorem d_Ma_makeArray_41 : decode b_Ma_makeArray 41 = .ok (.iload_n 1, 1) := by decide +kernel
theorem d_Ma_makeArray_42 : decode b_Ma_makeArray 42 = .ok (.iadd, 1) := by decide +kernel
theorem d_Ma_makeArray_43 : decode b_Ma_makeArray 43 = .ok (.putfield 19, 3) := by decide +kernel
theorem d_Ma_makeArray_46 : decode b_Ma_makeArray 46 = .ok (.iload_n 2, 1) := by decide +kernel
theorem d_Ma_makeArray_47 : decode b_Ma_makeArray 47 = .ok (.ireturn, 1) := by decide +kernel
def y_Ma_placeOf : MethodName := ⟨"FrameVerifier$Machine", "placeOf", "(II)I"⟩
abbrev b_Ma_placeOf : ByteArray := prog_6_method_19_code
def rm_Ma_placeOf : Room := { frames := 0, cells := 0, slots := 0, locals := 0 }
abbrev w_Ma_placeOf : List Cond := Cond.code y_Ma_placeOf b_Ma_placeOf 2 (some .int) :: wG
theorem m_Ma_placeOf : Cond.code y_Ma_placeOf b_Ma_placeOf 2 (some .int) ∈ wG := wg_t 673 (by decide +kernel) (by decide +kernel)
theorem q_Ma_placeOf : y_Ma_placeOf.cls ≠ "java/lang/invoke/MethodHandle" ∧ y_Ma_placeOf.cls ≠ "java/lang/invoke/VarHandle" ∧ (parseMethodDescriptor y_Ma_placeOf.desc).map (fun d => d.parameters.length) = some 2 := by decide +kernel
theorem g_Ma_placeOf : Cond.initialized y_Ma_placeOf.cls ∈ wG := wg_t 4 (by decide +kernel) (by decide +kernel)
theorem s_Ma_placeOf : Cond.static y_Ma_placeOf ∈ wG := wg_t 672 (by decide +kernel) (by decide +kernel)
theorem d_Ma_placeOf_0 : decode b_Ma_placeOf 0 = .ok (.iload_n 0, 1) := by decide +kernel
theorem d_Ma_placeOf_1 : decode b_Ma_placeOf 1 = .ok (.iconst 1, 1) := by decide +kernel
theorem d_Ma_placeOf_2 : decode b_Ma_placeOf 2 = .ok (.isub, 1) := by decide +kernel
theorem d_Ma_placeOf_3 : decode b_Ma_placeOf 3 = .ok (.iconst 4, 1) := by decide +kernel
theorem d_Ma_placeOf_4 : decode b_Ma_placeOf 4 = .ok (.ishr, 1) := by decide +kernel
theorem d_Ma_placeOf_5 : decode b_Ma_placeOf 5 = .ok (.iload_n 1, 1) := by decide +kernel
theorem d_Ma_placeOf_6 : decode b_Ma_placeOf 6 = .ok (.iadd, 1) := by decide +kernel
theorem d_Ma_placeOf_7 : decode b_Ma_placeOf 7 = .ok (.ireturn, 1) := by decide +kernel
def y_Ma_useArray : MethodName := ⟨"FrameVerifier$Machine", "useArray", "(LFrameVerifier$Frame;LFrameVerifier$Op;)V"⟩
abbrev b_Ma_useArray : ByteArray := prog_6_method_16_code
def rm_Ma_useArray : Room := { frames := 3, cells := 0, slots := 0, locals := 67 }
abbrev w_Ma_useArray : List Cond := Cond.code y_Ma_useArray b_Ma_useArray 6 none :: wG
theorem m_Ma_useArray : Cond.code y_Ma_useArray b_Ma_useArray 6 none ∈ wG := wg_t 666 (by decide +kernel) (by decide +kernel)
theorem q_Ma_useArray : y_Ma_useArray.cls ≠ "java/lang/invoke/MethodHandle" ∧ y_Ma_useArray.cls ≠ "java/lang/invoke/VarHandle" ∧ (parseMethodDescriptor y_Ma_useArray.desc).map (fun d => d.parameters.length) = some 2 := by decide +kernel
theorem g_Ma_useArray : Cond.initialized y_Ma_useArray.cls ∈ wG := wg_t 4 (by decide +kernel) (by decide +kernel)
theorem s_Ma_useArray : Cond.instanceMethod y_Ma_useArray ∈ wG := wg_t 665 (by decide +kernel) (by decide +kernel)
theorem e_Ma_useArray : Cond.selects "FrameVerifier$Machine" y_Ma_useArray y_Ma_useArray ∈ wG := wg_s (q := (y_Ma_useArray, 6)) 17 (by decide +kernel) (by decide +kernel)
theorem d_Ma_useArray_0 : decode b_Ma_useArray 0 = .ok (.getstatic 121, 3) := by decide +kernel
theorem d_Ma_useArray_3 : decode b_Ma_useArray 3 = .ok (.aload_n 2, 1) := by decide +kernel
theorem d_Ma_useArray_4 : decode b_Ma_useArray 4 = .ok (.invokevirtual 126, 3) := by decide +kernel
theorem d_Ma_useArray_7 : decode b_Ma_useArray 7 = .ok (.iaload, 1) := by decide +kernel
theorem d_Ma_useArray_8 : decode b_Ma_useArray 8 = .ok (.tableswitch (89) (8) (11) #[(63), (89), (48), (32)], 32) := by decide +kernel
theorem d_Ma_useArray_40 : decode b_Ma_useArray 40 = .ok (.aload_n 1, 1) := by decide +kernel
theorem d_Ma_useArray_41 : decode b_Ma_useArray 41 = .ok (.iconst 2, 1) := by decide +kernel
theorem d_Ma_useArray_42 : decode b_Ma_useArray 42 = .ok (.aload_n 0, 1) := by decide +kernel
theorem d_Ma_useArray_43 : decode b_Ma_useArray 43 = .ok (.aload_n 1, 1) := by decide +kernel
theorem d_Ma_useArray_44 : decode b_Ma_useArray 44 = .ok (.invokevirtual 179, 3) := by decide +kernel
theorem d_Ma_useArray_47 : decode b_Ma_useArray 47 = .ok (.invokevirtual 207, 3) := by decide +kernel
theorem d_Ma_useArray_50 : decode b_Ma_useArray 50 = .ok (.invokevirtual 204, 3) := by decide +kernel
theorem d_Ma_useArray_53 : decode b_Ma_useArray 53 = .ok (.goto (72), 3) := by decide +kernel
theorem d_Ma_useArray_56 : decode b_Ma_useArray 56 = .ok (.aload_n 1, 1) := by decide +kernel
theorem d_Ma_useArray_57 : decode b_Ma_useArray 57 = .ok (.iconst 1, 1) := by decide +kernel
theorem d_Ma_useArray_58 : decode b_Ma_useArray 58 = .ok (.aload_n 1, 1) := by decide +kernel
theorem d_Ma_useArray_59 : decode b_Ma_useArray 59 = .ok (.invokevirtual 179, 3) := by decide +kernel
theorem d_Ma_useArray_62 : decode b_Ma_useArray 62 = .ok (.invokestatic 150, 3) := by decide +kernel
theorem d_Ma_useArray_65 : decode b_Ma_useArray 65 = .ok (.invokevirtual 204, 3) := by decide +kernel
theorem d_Ma_useArray_68 : decode b_Ma_useArray 68 = .ok (.goto (57), 3) := by decide +kernel
theorem d_Ma_useArray_71 : decode b_Ma_useArray 71 = .ok (.aload_n 1, 1) := by decide +kernel
theorem d_Ma_useArray_72 : decode b_Ma_useArray 72 = .ok (.invokevirtual 179, 3) := by decide +kernel
theorem d_Ma_useArray_75 : decode b_Ma_useArray 75 = .ok (.istore_n 3, 1) := by decide +kernel
theorem d_Ma_useArray_76 : decode b_Ma_useArray 76 = .ok (.aload_n 1, 1) := by decide +kernel
theorem d_Ma_useArray_77 : decode b_Ma_useArray 77 = .ok (.iconst 1, 1) := by decide +kernel
theorem d_Ma_useArray_78 : decode b_Ma_useArray 78 = .ok (.aload_n 0, 1) := by decide +kernel
theorem d_Ma_useArray_79 : decode b_Ma_useArray 79 = .ok (.getfield 25, 3) := by decide +kernel
theorem d_Ma_useArray_82 : decode b_Ma_useArray 82 = .ok (.aload_n 1, 1) := by decide +kernel
theorem d_Ma_useArray_83 : decode b_Ma_useArray 83 = .ok (.invokevirtual 179, 3) := by decide +kernel
theorem d_Ma_useArray_86 : decode b_Ma_useArray 86 = .ok (.iload_n 3, 1) := by decide +kernel
theorem d_Ma_useArray_87 : decode b_Ma_useArray 87 = .ok (.invokestatic 210, 3) := by decide +kernel
theorem d_Ma_useArray_90 : decode b_Ma_useArray 90 = .ok (.iaload, 1) := by decide +kernel
theorem d_Ma_useArray_91 : decode b_Ma_useArray 91 = .ok (.invokevirtual 204, 3) := by decide +kernel
theorem d_Ma_useArray_94 : decode b_Ma_useArray 94 = .ok (.goto (31), 3) := by decide +kernel
theorem d_Ma_useArray_97 : decode b_Ma_useArray 97 = .ok (.aload_n 1, 1) := by decide +kernel
theorem d_Ma_useArray_98 : decode b_Ma_useArray 98 = .ok (.invokevirtual 179, 3) := by decide +kernel
theorem d_Ma_useArray_101 : decode b_Ma_useArray 101 = .ok (.istore 4, 2) := by decide +kernel
theorem d_Ma_useArray_103 : decode b_Ma_useArray 103 = .ok (.aload_n 1, 1) := by decide +kernel
theorem d_Ma_useArray_104 : decode b_Ma_useArray 104 = .ok (.invokevirtual 179, 3) := by decide +kernel
theorem d_Ma_useArray_107 : decode b_Ma_useArray 107 = .ok (.istore 5, 2) := by decide +kernel
theorem d_Ma_useArray_109 : decode b_Ma_useArray 109 = .ok (.aload_n 0, 1) := by decide +kernel
theorem d_Ma_useArray_110 : decode b_Ma_useArray 110 = .ok (.getfield 25, 3) := by decide +kernel
theorem d_Ma_useArray_113 : decode b_Ma_useArray 113 = .ok (.aload_n 1, 1) := by decide +kernel
theorem d_Ma_useArray_114 : decode b_Ma_useArray 114 = .ok (.invokevirtual 179, 3) := by decide +kernel
theorem d_Ma_useArray_117 : decode b_Ma_useArray 117 = .ok (.iload 5, 2) := by decide +kernel
theorem d_Ma_useArray_119 : decode b_Ma_useArray 119 = .ok (.invokestatic 210, 3) := by decide +kernel
theorem d_Ma_useArray_122 : decode b_Ma_useArray 122 = .ok (.iload 4, 2) := by decide +kernel
theorem d_Ma_useArray_124 : decode b_Ma_useArray 124 = .ok (.iastore, 1) := by decide +kernel
theorem d_Ma_useArray_125 : decode b_Ma_useArray 125 = .ok (.return_, 1) := by decide +kernel
def y_Ma_enter : MethodName := ⟨"FrameVerifier$Machine", "enter", "(LFrameVerifier$Frame;I)V"⟩
abbrev b_Ma_enter : ByteArray := prog_6_method_20_code
def rm_Ma_enter : Room := { frames := 3, cells := 0, slots := 0, locals := 68 }
abbrev w_Ma_enter : List Cond := Cond.code y_Ma_enter b_Ma_enter 5 none :: wG
theorem m_Ma_enter : Cond.code y_Ma_enter b_Ma_enter 5 none ∈ wG := wg_t 677 (by decide +kernel) (by decide +kernel)
theorem q_Ma_enter : y_Ma_enter.cls ≠ "java/lang/invoke/MethodHandle" ∧ y_Ma_enter.cls ≠ "java/lang/invoke/VarHandle" ∧ (parseMethodDescriptor y_Ma_enter.desc).map (fun d => d.parameters.length) = some 2 := by decide +kernel
theorem g_Ma_enter : Cond.initialized y_Ma_enter.cls ∈ wG := wg_t 4 (by decide +kernel) (by decide +kernel)
theorem s_Ma_enter : Cond.instanceMethod y_Ma_enter ∈ wG := wg_t 676 (by decide +kernel) (by decide +kernel)
theorem e_Ma_enter : Cond.selects "FrameVerifier$Machine" y_Ma_enter y_Ma_enter ∈ wG := wg_s (q := (y_Ma_enter, 6)) 19 (by decide +kernel) (by decide +kernel)
theorem d_Ma_enter_0 : decode b_Ma_enter 0 = .ok (.aload_n 0, 1) := by decide +kernel
theorem d_Ma_enter_1 : decode b_Ma_enter 1 = .ok (.iload_n 2, 1) := by decide +kernel
theorem d_Ma_enter_2 : decode b_Ma_enter 2 = .ok (.invokevirtual 36, 3) := by decide +kernel
theorem d_Ma_enter_5 : decode b_Ma_enter 5 = .ok (.astore_n 3, 1) := by decide +kernel
theorem d_Ma_enter_6 : decode b_Ma_enter 6 = .ok (.aload_n 0, 1) := by decide +kernel
theorem d_Ma_enter_7 : decode b_Ma_enter 7 = .ok (.getfield 9, 3) := by decide +kernel
theorem d_Ma_enter_10 : decode b_Ma_enter 10 = .ok (.iload_n 2, 1) := by decide +kernel
theorem d_Ma_enter_11 : decode b_Ma_enter 11 = .ok (.invokevirtual 213, 3) := by decide +kernel
theorem d_Ma_enter_14 : decode b_Ma_enter 14 = .ok (.iconst 1, 1) := by decide +kernel
theorem d_Ma_enter_15 : decode b_Ma_enter 15 = .ok (.isub, 1) := by decide +kernel
theorem d_Ma_enter_16 : decode b_Ma_enter 16 = .ok (.istore 4, 2) := by decide +kernel
theorem d_Ma_enter_18 : decode b_Ma_enter 18 = .ok (.iload 4, 2) := by decide +kernel
theorem d_Ma_enter_20 : decode b_Ma_enter 20 = .ok (.ifCond .lt (19), 3) := by decide +kernel
theorem d_Ma_enter_23 : decode b_Ma_enter 23 = .ok (.aload_n 3, 1) := by decide +kernel
theorem d_Ma_enter_24 : decode b_Ma_enter 24 = .ok (.iload 4, 2) := by decide +kernel
theorem d_Ma_enter_26 : decode b_Ma_enter 26 = .ok (.aload_n 1, 1) := by decide +kernel
theorem d_Ma_enter_27 : decode b_Ma_enter 27 = .ok (.invokevirtual 179, 3) := by decide +kernel
theorem d_Ma_enter_30 : decode b_Ma_enter 30 = .ok (.invokevirtual 44, 3) := by decide +kernel
theorem d_Ma_enter_33 : decode b_Ma_enter 33 = .ok (.iinc 4 (-1), 3) := by decide +kernel
theorem d_Ma_enter_36 : decode b_Ma_enter 36 = .ok (.goto (-18), 3) := by decide +kernel
theorem d_Ma_enter_39 : decode b_Ma_enter 39 = .ok (.return_, 1) := by decide +kernel
def y_Ma_leave : MethodName := ⟨"FrameVerifier$Machine", "leave", "(LFrameVerifier$Frame;)V"⟩
abbrev b_Ma_leave : ByteArray := prog_6_method_21_code
def rm_Ma_leave : Room := { frames := 3, cells := 0, slots := 0, locals := 66 }
abbrev w_Ma_leave : List Cond := Cond.code y_Ma_leave b_Ma_leave 2 none :: wG
theorem m_Ma_leave : Cond.code y_Ma_leave b_Ma_leave 2 none ∈ wG := wg_t 685 (by decide +kernel) (by decide +kernel)
theorem q_Ma_leave : y_Ma_leave.cls ≠ "java/lang/invoke/MethodHandle" ∧ y_Ma_leave.cls ≠ "java/lang/invoke/VarHandle" ∧ (parseMethodDescriptor y_Ma_leave.desc).map (fun d => d.parameters.length) = some 1 := by decide +kernel
theorem g_Ma_leave : Cond.initialized y_Ma_leave.cls ∈ wG := wg_t 4 (by decide +kernel) (by decide +kernel)
theorem s_Ma_leave : Cond.instanceMethod y_Ma_leave ∈ wG := wg_t 684 (by decide +kernel) (by decide +kernel)
theorem e_Ma_leave : Cond.selects "FrameVerifier$Machine" y_Ma_leave y_Ma_leave ∈ wG := wg_s (q := (y_Ma_leave, 6)) 20 (by decide +kernel) (by decide +kernel)
theorem d_Ma_leave_0 : decode b_Ma_leave 0 = .ok (.aload_n 0, 1) := by decide +kernel
theorem d_Ma_leave_1 : decode b_Ma_leave 1 = .ok (.getfield 15, 3) := by decide +kernel
theorem d_Ma_leave_4 : decode b_Ma_leave 4 = .ok (.iconst 1, 1) := by decide +kernel
theorem d_Ma_leave_5 : decode b_Ma_leave 5 = .ok (.if_icmp .ne (25), 3) := by decide +kernel
theorem d_Ma_leave_8 : decode b_Ma_leave 8 = .ok (.aload_n 0, 1) := by decide +kernel
theorem d_Ma_leave_9 : decode b_Ma_leave 9 = .ok (.aload_n 1, 1) := by decide +kernel
theorem d_Ma_leave_10 : decode b_Ma_leave 10 = .ok (.aload_n 1, 1) := by decide +kernel
theorem d_Ma_leave_11 : decode b_Ma_leave 11 = .ok (.getfield 92, 3) := by decide +kernel
theorem d_Ma_leave_14 : decode b_Ma_leave 14 = .ok (.iconst 0, 1) := by decide +kernel
theorem d_Ma_leave_15 : decode b_Ma_leave 15 = .ok (.invokestatic 216, 3) := by decide +kernel
theorem d_Ma_leave_18 : decode b_Ma_leave 18 = .ok (.invokevirtual 219, 3) := by decide +kernel
theorem d_Ma_leave_21 : decode b_Ma_leave 21 = .ok (.putfield 22, 3) := by decide +kernel
theorem d_Ma_leave_24 : decode b_Ma_leave 24 = .ok (.aload_n 0, 1) := by decide +kernel
theorem d_Ma_leave_25 : decode b_Ma_leave 25 = .ok (.iconst 0, 1) := by decide +kernel
theorem d_Ma_leave_26 : decode b_Ma_leave 26 = .ok (.putfield 15, 3) := by decide +kernel
theorem d_Ma_leave_29 : decode b_Ma_leave 29 = .ok (.return_, 1) := by decide +kernel
theorem d_Ma_leave_30 : decode b_Ma_leave 30 = .ok (.aload_n 0, 1) := by decide +kernel
theorem d_Ma_leave_31 : decode b_Ma_leave 31 = .ok (.dup, 1) := by decide +kernel
theorem d_Ma_leave_32 : decode b_Ma_leave 32 = .ok (.getfield 15, 3) := by decide +kernel
theorem d_Ma_leave_35 : decode b_Ma_leave 35 = .ok (.iconst 1, 1) := by decide +kernel
theorem d_Ma_leave_36 : decode b_Ma_leave 36 = .ok (.isub, 1) := by decide +kernel
theorem d_Ma_leave_37 : decode b_Ma_leave 37 = .ok (.putfield 15, 3) := by decide +kernel
theorem d_Ma_leave_40 : decode b_Ma_leave 40 = .ok (.aload_n 0, 1) := by decide +kernel
theorem d_Ma_leave_41 : decode b_Ma_leave 41 = .ok (.invokevirtual 48, 3) := by decide +kernel
theorem d_Ma_leave_44 : decode b_Ma_leave 44 = .ok (.aload_n 1, 1) := by decide +kernel
theorem d_Ma_leave_45 : decode b_Ma_leave 45 = .ok (.iconst 0, 1) := by decide +kernel
theorem d_Ma_leave_46 : decode b_Ma_leave 46 = .ok (.invokevirtual 222, 3) := by decide +kernel
theorem d_Ma_leave_49 : decode b_Ma_leave 49 = .ok (.aload_n 1, 1) := by decide +kernel
theorem d_Ma_leave_50 : decode b_Ma_leave 50 = .ok (.iconst 0, 1) := by decide +kernel
theorem d_Ma_leave_51 : decode b_Ma_leave 51 = .ok (.invokevirtual 130, 3) := by decide +kernel
theorem d_Ma_leave_54 : decode b_Ma_leave 54 = .ok (.invokevirtual 204, 3) := by decide +kernel
theorem d_Ma_leave_57 : decode b_Ma_leave 57 = .ok (.return_, 1) := by decide +kernel
def y_Ma_move : MethodName := ⟨"FrameVerifier$Machine", "move", "(LFrameVerifier$Frame;LFrameVerifier$Op;I)V"⟩
abbrev b_Ma_move : ByteArray := prog_6_method_22_code
def rm_Ma_move : Room := { frames := 4, cells := 0, slots := 0, locals := 91 }
abbrev w_Ma_move : List Cond := Cond.code y_Ma_move b_Ma_move 3 none :: wG
theorem m_Ma_move : Cond.code y_Ma_move b_Ma_move 3 none ∈ wG := wg_t 695 (by decide +kernel) (by decide +kernel)
theorem q_Ma_move : y_Ma_move.cls ≠ "java/lang/invoke/MethodHandle" ∧ y_Ma_move.cls ≠ "java/lang/invoke/VarHandle" ∧ (parseMethodDescriptor y_Ma_move.desc).map (fun d => d.parameters.length) = some 3 := by decide +kernel
theorem g_Ma_move : Cond.initialized y_Ma_move.cls ∈ wG := wg_t 4 (by decide +kernel) (by decide +kernel)
theorem s_Ma_move : Cond.static y_Ma_move ∈ wG := wg_t 694 (by decide +kernel) (by decide +kernel)
theorem d_Ma_move_0 : decode b_Ma_move 0 = .ok (.getstatic 121, 3) := by decide +kernel
theorem d_Ma_move_3 : decode b_Ma_move 3 = .ok (.aload_n 1, 1) := by decide +kernel
theorem d_Ma_move_4 : decode b_Ma_move 4 = .ok (.invokevirtual 126, 3) := by decide +kernel
theorem d_Ma_move_7 : decode b_Ma_move 7 = .ok (.iaload, 1) := by decide +kernel
theorem d_Ma_move_8 : decode b_Ma_move 8 = .ok (.tableswitch (138) (1) (16) #[(98), (106), (114), (131), (138), (138), (138), (138), (138), (138), (138), (138), (138), (138), (80), (89)], 80) := by decide +kernel
theorem d_Ma_move_88 : decode b_Ma_move 88 = .ok (.aload_n 0, 1) := by decide +kernel
theorem d_Ma_move_89 : decode b_Ma_move 89 = .ok (.iconst 1, 1) := by decide +kernel
theorem d_Ma_move_90 : decode b_Ma_move 90 = .ok (.iload_n 2, 1) := by decide +kernel
theorem d_Ma_move_91 : decode b_Ma_move 91 = .ok (.invokevirtual 204, 3) := by decide +kernel
theorem d_Ma_move_94 : decode b_Ma_move 94 = .ok (.goto (57), 3) := by decide +kernel
theorem d_Ma_move_97 : decode b_Ma_move 97 = .ok (.aload_n 0, 1) := by decide +kernel
theorem d_Ma_move_98 : decode b_Ma_move 98 = .ok (.iconst 2, 1) := by decide +kernel
theorem d_Ma_move_99 : decode b_Ma_move 99 = .ok (.iconst 0, 1) := by decide +kernel
theorem d_Ma_move_100 : decode b_Ma_move 100 = .ok (.invokevirtual 204, 3) := by decide +kernel
theorem d_Ma_move_103 : decode b_Ma_move 103 = .ok (.goto (48), 3) := by decide +kernel
theorem d_Ma_move_106 : decode b_Ma_move 106 = .ok (.aload_n 0, 1) := by decide +kernel
theorem d_Ma_move_107 : decode b_Ma_move 107 = .ok (.iload_n 2, 1) := by decide +kernel
theorem d_Ma_move_108 : decode b_Ma_move 108 = .ok (.invokevirtual 225, 3) := by decide +kernel
theorem d_Ma_move_111 : decode b_Ma_move 111 = .ok (.goto (40), 3) := by decide +kernel
theorem d_Ma_move_114 : decode b_Ma_move 114 = .ok (.aload_n 0, 1) := by decide +kernel
theorem d_Ma_move_115 : decode b_Ma_move 115 = .ok (.iload_n 2, 1) := by decide +kernel
theorem d_Ma_move_116 : decode b_Ma_move 116 = .ok (.invokevirtual 229, 3) := by decide +kernel
theorem d_Ma_move_119 : decode b_Ma_move 119 = .ok (.goto (32), 3) := by decide +kernel
theorem d_Ma_move_122 : decode b_Ma_move 122 = .ok (.aload_n 0, 1) := by decide +kernel
theorem d_Ma_move_123 : decode b_Ma_move 123 = .ok (.aload_n 0, 1) := by decide +kernel
theorem d_Ma_move_124 : decode b_Ma_move 124 = .ok (.iconst 0, 1) := by decide +kernel
theorem d_Ma_move_125 : decode b_Ma_move 125 = .ok (.invokevirtual 222, 3) := by decide +kernel
theorem d_Ma_move_128 : decode b_Ma_move 128 = .ok (.aload_n 0, 1) := by decide +kernel
theorem d_Ma_move_129 : decode b_Ma_move 129 = .ok (.iconst 0, 1) := by decide +kernel
theorem d_Ma_move_130 : decode b_Ma_move 130 = .ok (.invokevirtual 130, 3) := by decide +kernel
theorem d_Ma_move_133 : decode b_Ma_move 133 = .ok (.invokevirtual 204, 3) := by decide +kernel
theorem d_Ma_move_136 : decode b_Ma_move 136 = .ok (.goto (15), 3) := by decide +kernel
theorem d_Ma_move_139 : decode b_Ma_move 139 = .ok (.aload_n 0, 1) := by decide +kernel
theorem d_Ma_move_140 : decode b_Ma_move 140 = .ok (.invokevirtual 232, 3) := by decide +kernel
theorem d_Ma_move_143 : decode b_Ma_move 143 = .ok (.goto (8), 3) := by decide +kernel
theorem d_Ma_move_146 : decode b_Ma_move 146 = .ok (.aload_n 0, 1) := by decide +kernel
theorem d_Ma_move_147 : decode b_Ma_move 147 = .ok (.invokevirtual 179, 3) := by decide +kernel
theorem d_Ma_move_150 : decode b_Ma_move 150 = .ok (.pop, 1) := by decide +kernel
theorem d_Ma_move_151 : decode b_Ma_move 151 = .ok (.return_, 1) := by decide +kernel
def y_Ma_act : MethodName := ⟨"FrameVerifier$Machine", "act", "(LFrameVerifier$Frame;LFrameVerifier$Op;I)V"⟩
abbrev b_Ma_act : ByteArray := prog_6_method_13_code
def rm_Ma_act : Room := { frames := 5, cells := 0, slots := 0, locals := 113 }
abbrev w_Ma_act : List Cond := Cond.code y_Ma_act b_Ma_act 4 none :: wG
theorem m_Ma_act : Cond.code y_Ma_act b_Ma_act 4 none ∈ wG := wg_t 651 (by decide +kernel) (by decide +kernel)
theorem q_Ma_act : y_Ma_act.cls ≠ "java/lang/invoke/MethodHandle" ∧ y_Ma_act.cls ≠ "java/lang/invoke/VarHandle" ∧ (parseMethodDescriptor y_Ma_act.desc).map (fun d => d.parameters.length) = some 3 := by decide +kernel
theorem g_Ma_act : Cond.initialized y_Ma_act.cls ∈ wG := wg_t 4 (by decide +kernel) (by decide +kernel)
theorem s_Ma_act : Cond.instanceMethod y_Ma_act ∈ wG := wg_t 650 (by decide +kernel) (by decide +kernel)
theorem e_Ma_act : Cond.selects "FrameVerifier$Machine" y_Ma_act y_Ma_act ∈ wG := wg_s (q := (y_Ma_act, 6)) 16 (by decide +kernel) (by decide +kernel)
theorem d_Ma_act_0 : decode b_Ma_act 0 = .ok (.getstatic 121, 3) := by decide +kernel
theorem d_Ma_act_3 : decode b_Ma_act 3 = .ok (.aload_n 2, 1) := by decide +kernel
theorem d_Ma_act_4 : decode b_Ma_act 4 = .ok (.invokevirtual 126, 3) := by decide +kernel
theorem d_Ma_act_7 : decode b_Ma_act 7 = .ok (.iaload, 1) := by decide +kernel
theorem d_Ma_act_8 : decode b_Ma_act 8 = .ok (.tableswitch (90) (5) (14) #[(73), (82), (56), (64), (64), (64), (64), (56), (56), (56)], 56) := by decide +kernel
theorem d_Ma_act_64 : decode b_Ma_act 64 = .ok (.aload_n 1, 1) := by decide +kernel
theorem d_Ma_act_65 : decode b_Ma_act 65 = .ok (.aload_n 2, 1) := by decide +kernel
theorem d_Ma_act_66 : decode b_Ma_act 66 = .ok (.invokestatic 182, 3) := by decide +kernel
theorem d_Ma_act_69 : decode b_Ma_act 69 = .ok (.goto (35), 3) := by decide +kernel
theorem d_Ma_act_72 : decode b_Ma_act 72 = .ok (.aload_n 0, 1) := by decide +kernel
theorem d_Ma_act_73 : decode b_Ma_act 73 = .ok (.aload_n 1, 1) := by decide +kernel
theorem d_Ma_act_74 : decode b_Ma_act 74 = .ok (.aload_n 2, 1) := by decide +kernel
theorem d_Ma_act_75 : decode b_Ma_act 75 = .ok (.invokevirtual 186, 3) := by decide +kernel
theorem d_Ma_act_78 : decode b_Ma_act 78 = .ok (.goto (26), 3) := by decide +kernel
theorem d_Ma_act_81 : decode b_Ma_act 81 = .ok (.aload_n 0, 1) := by decide +kernel
theorem d_Ma_act_82 : decode b_Ma_act 82 = .ok (.aload_n 1, 1) := by decide +kernel
theorem d_Ma_act_83 : decode b_Ma_act 83 = .ok (.iload_n 3, 1) := by decide +kernel
theorem d_Ma_act_84 : decode b_Ma_act 84 = .ok (.invokevirtual 189, 3) := by decide +kernel
theorem d_Ma_act_87 : decode b_Ma_act 87 = .ok (.goto (17), 3) := by decide +kernel
theorem d_Ma_act_90 : decode b_Ma_act 90 = .ok (.aload_n 0, 1) := by decide +kernel
theorem d_Ma_act_91 : decode b_Ma_act 91 = .ok (.aload_n 1, 1) := by decide +kernel
theorem d_Ma_act_92 : decode b_Ma_act 92 = .ok (.invokevirtual 193, 3) := by decide +kernel
theorem d_Ma_act_95 : decode b_Ma_act 95 = .ok (.goto (9), 3) := by decide +kernel
theorem d_Ma_act_98 : decode b_Ma_act 98 = .ok (.aload_n 1, 1) := by decide +kernel
theorem d_Ma_act_99 : decode b_Ma_act 99 = .ok (.aload_n 2, 1) := by decide +kernel
theorem d_Ma_act_100 : decode b_Ma_act 100 = .ok (.iload_n 3, 1) := by decide +kernel
theorem d_Ma_act_101 : decode b_Ma_act 101 = .ok (.invokestatic 197, 3) := by decide +kernel
theorem d_Ma_act_104 : decode b_Ma_act 104 = .ok (.return_, 1) := by decide +kernel
theorem wd_104 : (Jvm.Cond.fieldLink "FrameVerifier$Machine" (111 : Nat) "FrameVerifier$Frame" "owner" "I") ∈ wG := wg_t 104 (by decide +kernel) (by decide +kernel)
theorem wd_106 : (Jvm.Cond.fieldLink "FrameVerifier$Machine" (66 : Nat) "FrameVerifier$Frame" "address" "I") ∈ wG := wg_t 106 (by decide +kernel) (by decide +kernel)
theorem wd_109 : (Jvm.Cond.fieldLink "FrameVerifier$Machine" (92 : Nat) "FrameVerifier$Frame" "types" "I") ∈ wG := wg_t 109 (by decide +kernel) (by decide +kernel)
theorem wd_121 : (Jvm.Cond.fieldLink "FrameVerifier$Machine" (15 : Nat) "FrameVerifier$Machine" "depth" "I") ∈ wG := wg_t 121 (by decide +kernel) (by decide +kernel)
theorem wd_123 : (Jvm.Cond.fieldLink "FrameVerifier$Machine" (19 : Nat) "FrameVerifier$Machine" "used" "I") ∈ wG := wg_t 123 (by decide +kernel) (by decide +kernel)
theorem wd_125 : (Jvm.Cond.fieldLink "FrameVerifier$Machine" (22 : Nat) "FrameVerifier$Machine" "result" "I") ∈ wG := wg_t 125 (by decide +kernel) (by decide +kernel)
theorem wd_127 : (Jvm.Cond.fieldLink "FrameVerifier$Machine" (9 : Nat) "FrameVerifier$Machine" "code" "LFrameVerifier$Code;") ∈ wG := wg_t 127 (by decide +kernel) (by decide +kernel)
theorem wd_128 : (Jvm.Cond.fieldLink "FrameVerifier$Machine" (31 : Nat) "FrameVerifier$Machine" "frames" "[LFrameVerifier$Frame;") ∈ wG := wg_t 128 (by decide +kernel) (by decide +kernel)
theorem wd_129 : (Jvm.Cond.fieldLink "FrameVerifier$Machine" (25 : Nat) "FrameVerifier$Machine" "elements" "[I") ∈ wG := wg_t 129 (by decide +kernel) (by decide +kernel)
theorem wd_536 : (Jvm.Cond.fieldLink "FrameVerifier$Machine" (118 : Nat) "FrameVerifier$Trap" "UNFIT" "LFrameVerifier$Trap;") ∈ wG := wg_t 536 (by decide +kernel) (by decide +kernel)
theorem wd_538 : (Jvm.Cond.fieldLink "FrameVerifier$Machine" (121 : Nat) "FrameVerifier$1" "$SwitchMap$FrameVerifier$Op" "[I") ∈ wG := wg_t 538 (by decide +kernel) (by decide +kernel)
theorem wd_546 : (Jvm.Cond.fieldLink "FrameVerifier$Machine" (133 : Nat) "FrameVerifier$Trap" "DIVISION" "LFrameVerifier$Trap;") ∈ wG := wg_t 546 (by decide +kernel) (by decide +kernel)
theorem wd_548 : (Jvm.Cond.fieldLink "FrameVerifier$Machine" (56 : Nat) "FrameVerifier$Trap" "NO_TRAP" "LFrameVerifier$Trap;") ∈ wG := wg_t 548 (by decide +kernel) (by decide +kernel)
theorem wd_553 : (Jvm.Cond.fieldLink "FrameVerifier$Machine" (140 : Nat) "FrameVerifier$Trap" "MISSING_ARRAY" "LFrameVerifier$Trap;") ∈ wG := wg_t 553 (by decide +kernel) (by decide +kernel)
theorem wd_558 : (Jvm.Cond.fieldLink "FrameVerifier$Machine" (153 : Nat) "FrameVerifier$Trap" "OUTSIDE" "LFrameVerifier$Trap;") ∈ wG := wg_t 558 (by decide +kernel) (by decide +kernel)
theorem wd_564 : (Jvm.Cond.fieldLink "FrameVerifier$Machine" (147 : Nat) "FrameVerifier$Trap" "FULL" "LFrameVerifier$Trap;") ∈ wG := wg_t 564 (by decide +kernel) (by decide +kernel)
theorem wd_641 : (Jvm.Cond.fieldLink "FrameVerifier$Machine" (175 : Nat) "FrameVerifier$Op" "JUMP" "LFrameVerifier$Op;") ∈ wG := wg_t 641 (by decide +kernel) (by decide +kernel)
theorem k_Ma_36 {R : Room} {s : State} {args : Array Value} {Ts : List Cond} (hts : ∀ w ∈ Ts, w.before args s = true) (hsub : ∀ w ∈ wG, w ∈ Ts) (hR : rm_Ma_openFrame.frames + 1 ≤ R.frames ∧ 8 + (3 + 11) + rm_Ma_openFrame.locals ≤ R.locals) : CallW R s args "FrameVerifier$Machine" "FrameVerifier$Machine" 36 y_Ma_openFrame b_Ma_openFrame 3 (some (.object "FrameVerifier$Frame")) w_Ma_openFrame rm_Ma_openFrame 0 0 1 := ⟨cb_G hts hsub m_Ma_openFrame g_Ma_openFrame (wg_t 392 (by decide +kernel) (by decide +kernel) : Cond.methodLink "FrameVerifier$Machine" 36 y_Ma_openFrame ∈ wG) q_Ma_openFrame rfl rfl hR, hts _ (hsub _ s_Ma_openFrame), hts _ (hsub _ e_Ma_openFrame)⟩
theorem k_Ma_40 {R : Room} {s : State} {args : Array Value} {Ts : List Cond} (hts : ∀ w ∈ Ts, w.before args s = true) (hsub : ∀ w ∈ wG, w ∈ Ts) (hR : rm_Ma_firstValue.frames + 1 ≤ R.frames ∧ 8 + (3 + 11) + rm_Ma_firstValue.locals ≤ R.locals) : CallB R s args "FrameVerifier$Machine" 40 y_Ma_firstValue b_Ma_firstValue 3 (some .int) w_Ma_firstValue rm_Ma_firstValue 0 0 3 ∧ (Cond.static y_Ma_firstValue).before args s = true := ⟨cb_G hts hsub m_Ma_firstValue g_Ma_firstValue (wg_t 402 (by decide +kernel) (by decide +kernel) : Cond.methodLink "FrameVerifier$Machine" 40 y_Ma_firstValue ∈ wG) q_Ma_firstValue rfl rfl hR, hts _ (hsub _ s_Ma_firstValue)⟩
theorem k_Ma_44 {R : Room} {s : State} {args : Array Value} {Ts : List Cond} (hts : ∀ w ∈ Ts, w.before args s = true) (hsub : ∀ w ∈ wG, w ∈ Ts) (hR : rm_Fr_setParameter.frames + 1 ≤ R.frames ∧ 8 + (3 + 11) + rm_Fr_setParameter.locals ≤ R.locals) : CallW R s args "FrameVerifier$Machine" "FrameVerifier$Frame" 44 y_Fr_setParameter b_Fr_setParameter 3 none w_Fr_setParameter rm_Fr_setParameter 0 0 2 := ⟨cb_G hts hsub m_Fr_setParameter g_Fr_setParameter (wg_t 406 (by decide +kernel) (by decide +kernel) : Cond.methodLink "FrameVerifier$Machine" 44 y_Fr_setParameter ∈ wG) q_Fr_setParameter rfl rfl hR, hts _ (hsub _ s_Fr_setParameter), hts _ (hsub _ e_Fr_setParameter)⟩
theorem k_Ma_48 {R : Room} {s : State} {args : Array Value} {Ts : List Cond} (hts : ∀ w ∈ Ts, w.before args s = true) (hsub : ∀ w ∈ wG, w ∈ Ts) (hR : rm_Ma_top.frames + 1 ≤ R.frames ∧ 8 + (1 + 11) + rm_Ma_top.locals ≤ R.locals) : CallW R s args "FrameVerifier$Machine" "FrameVerifier$Machine" 48 y_Ma_top b_Ma_top 1 (some (.object "FrameVerifier$Frame")) w_Ma_top rm_Ma_top 0 0 0 := ⟨cb_G hts hsub m_Ma_top g_Ma_top (wg_t 530 (by decide +kernel) (by decide +kernel) : Cond.methodLink "FrameVerifier$Machine" 48 y_Ma_top ∈ wG) q_Ma_top rfl rfl hR, hts _ (hsub _ s_Ma_top), hts _ (hsub _ e_Ma_top)⟩
theorem k_Ma_69 {R : Room} {s : State} {args : Array Value} {Ts : List Cond} (hts : ∀ w ∈ Ts, w.before args s = true) (hsub : ∀ w ∈ wG, w ∈ Ts) (hR : rm_Co_opAt.frames + 1 ≤ R.frames ∧ 8 + (2 + 11) + rm_Co_opAt.locals ≤ R.locals) : CallW R s args "FrameVerifier$Machine" "FrameVerifier$Code" 69 y_Co_opAt b_Co_opAt 2 (some (.object "FrameVerifier$Op")) w_Co_opAt rm_Co_opAt 0 0 1 := ⟨cb_G hts hsub m_Co_opAt g_Co_opAt (wg_t 539 (by decide +kernel) (by decide +kernel) : Cond.methodLink "FrameVerifier$Machine" 69 y_Co_opAt ∈ wG) q_Co_opAt rfl rfl hR, hts _ (hsub _ s_Co_opAt), hts _ (hsub _ e_Co_opAt)⟩
theorem k_Ma_95 {R : Room} {s : State} {args : Array Value} {Ts : List Cond} (hts : ∀ w ∈ Ts, w.before args s = true) (hsub : ∀ w ∈ wG, w ∈ Ts) (hR : rm_Ty_at.frames + 1 ≤ R.frames ∧ 8 + (2 + 11) + rm_Ty_at.locals ≤ R.locals) : CallB R s args "FrameVerifier$Machine" 95 y_Ty_at b_Ty_at 2 (some .int) w_Ty_at rm_Ty_at 0 0 2 ∧ (Cond.static y_Ty_at).before args s = true := ⟨cb_G hts hsub m_Ty_at g_Ty_at (wg_t 405 (by decide +kernel) (by decide +kernel) : Cond.methodLink "FrameVerifier$Machine" 95 y_Ty_at ∈ wG) q_Ty_at rfl rfl hR, hts _ (hsub _ s_Ty_at)⟩
theorem k_Ma_101 {R : Room} {s : State} {args : Array Value} {Ts : List Cond} (hts : ∀ w ∈ Ts, w.before args s = true) (hsub : ∀ w ∈ wG, w ∈ Ts) (hR : rm_Co_startOf.frames + 1 ≤ R.frames ∧ 8 + (2 + 11) + rm_Co_startOf.locals ≤ R.locals) : CallW R s args "FrameVerifier$Machine" "FrameVerifier$Code" 101 y_Co_startOf b_Co_startOf 2 (some .int) w_Co_startOf rm_Co_startOf 0 0 1 := ⟨cb_G hts hsub m_Co_startOf g_Co_startOf (wg_t 396 (by decide +kernel) (by decide +kernel) : Cond.methodLink "FrameVerifier$Machine" 101 y_Co_startOf ∈ wG) q_Co_startOf rfl rfl hR, hts _ (hsub _ s_Co_startOf), hts _ (hsub _ e_Co_startOf)⟩
theorem k_Ma_104 {R : Room} {s : State} {args : Array Value} {Ts : List Cond} (hts : ∀ w ∈ Ts, w.before args s = true) (hsub : ∀ w ∈ wG, w ∈ Ts) (hR : rm_Co_firstState.frames + 1 ≤ R.frames ∧ 8 + (4 + 11) + rm_Co_firstState.locals ≤ R.locals) : CallW R s args "FrameVerifier$Machine" "FrameVerifier$Code" 104 y_Co_firstState b_Co_firstState 4 (some .int) w_Co_firstState rm_Co_firstState 0 0 1 := ⟨cb_G hts hsub m_Co_firstState g_Co_firstState (wg_t 397 (by decide +kernel) (by decide +kernel) : Cond.methodLink "FrameVerifier$Machine" 104 y_Co_firstState ∈ wG) q_Co_firstState rfl rfl hR, hts _ (hsub _ s_Co_firstState), hts _ (hsub _ e_Co_firstState)⟩
theorem k_Ma_107 {R : Room} {s : State} {args : Array Value} {Ts : List Cond} (hts : ∀ w ∈ Ts, w.before args s = true) (hsub : ∀ w ∈ wG, w ∈ Ts) (hR : rm_Fr_open.frames + 1 ≤ R.frames ∧ 8 + (4 + 11) + rm_Fr_open.locals ≤ R.locals) : CallW R s args "FrameVerifier$Machine" "FrameVerifier$Frame" 107 y_Fr_open b_Fr_open 4 none w_Fr_open rm_Fr_open 0 0 3 := ⟨cb_G hts hsub m_Fr_open g_Fr_open (wg_t 398 (by decide +kernel) (by decide +kernel) : Cond.methodLink "FrameVerifier$Machine" 107 y_Fr_open ∈ wG) q_Fr_open rfl rfl hR, hts _ (hsub _ s_Fr_open), hts _ (hsub _ e_Fr_open)⟩
theorem k_Ma_114 {R : Room} {s : State} {args : Array Value} {Ts : List Cond} (hts : ∀ w ∈ Ts, w.before args s = true) (hsub : ∀ w ∈ wG, w ∈ Ts) (hR : rm_Co_fits.frames + 1 ≤ R.frames ∧ 8 + (6 + 11) + rm_Co_fits.locals ≤ R.locals) : CallW R s args "FrameVerifier$Machine" "FrameVerifier$Code" 114 y_Co_fits b_Co_fits 6 (some .boolean) w_Co_fits rm_Co_fits 0 0 3 := ⟨cb_G hts hsub m_Co_fits g_Co_fits (wg_t 535 (by decide +kernel) (by decide +kernel) : Cond.methodLink "FrameVerifier$Machine" 114 y_Co_fits ∈ wG) q_Co_fits rfl rfl hR, hts _ (hsub _ s_Co_fits), hts _ (hsub _ e_Co_fits)⟩
theorem k_Ma_130 {R : Room} {s : State} {args : Array Value} {Ts : List Cond} (hts : ∀ w ∈ Ts, w.before args s = true) (hsub : ∀ w ∈ wG, w ∈ Ts) (hR : rm_Fr_below.frames + 1 ≤ R.frames ∧ 8 + (2 + 11) + rm_Fr_below.locals ≤ R.locals) : CallW R s args "FrameVerifier$Machine" "FrameVerifier$Frame" 130 y_Fr_below b_Fr_below 2 (some .int) w_Fr_below rm_Fr_below 0 0 1 := ⟨cb_G hts hsub m_Fr_below g_Fr_below (wg_t 541 (by decide +kernel) (by decide +kernel) : Cond.methodLink "FrameVerifier$Machine" 130 y_Fr_below ∈ wG) q_Fr_below rfl rfl hR, hts _ (hsub _ s_Fr_below), hts _ (hsub _ e_Fr_below)⟩
theorem k_Ma_136 {R : Room} {s : State} {args : Array Value} {Ts : List Cond} (hts : ∀ w ∈ Ts, w.before args s = true) (hsub : ∀ w ∈ wG, w ∈ Ts) (hR : rm_Ma_elementTrap.frames + 1 ≤ R.frames ∧ 8 + (2 + 11) + rm_Ma_elementTrap.locals ≤ R.locals) : CallB R s args "FrameVerifier$Machine" 136 y_Ma_elementTrap b_Ma_elementTrap 2 (some (.object "FrameVerifier$Trap")) w_Ma_elementTrap rm_Ma_elementTrap 0 0 2 ∧ (Cond.static y_Ma_elementTrap).before args s = true := ⟨cb_G hts hsub m_Ma_elementTrap g_Ma_elementTrap (wg_t 550 (by decide +kernel) (by decide +kernel) : Cond.methodLink "FrameVerifier$Machine" 136 y_Ma_elementTrap ∈ wG) q_Ma_elementTrap rfl rfl hR, hts _ (hsub _ s_Ma_elementTrap)⟩
theorem k_Ma_143 {R : Room} {s : State} {args : Array Value} {Ts : List Cond} (hts : ∀ w ∈ Ts, w.before args s = true) (hsub : ∀ w ∈ wG, w ∈ Ts) (hR : rm_Ma_canMake.frames + 1 ≤ R.frames ∧ 8 + (2 + 11) + rm_Ma_canMake.locals ≤ R.locals) : CallW R s args "FrameVerifier$Machine" "FrameVerifier$Machine" 143 y_Ma_canMake b_Ma_canMake 2 (some .boolean) w_Ma_canMake rm_Ma_canMake 0 0 1 := ⟨cb_G hts hsub m_Ma_canMake g_Ma_canMake (wg_t 560 (by decide +kernel) (by decide +kernel) : Cond.methodLink "FrameVerifier$Machine" 143 y_Ma_canMake ∈ wG) q_Ma_canMake rfl rfl hR, hts _ (hsub _ s_Ma_canMake), hts _ (hsub _ e_Ma_canMake)⟩
theorem k_Ma_150 {R : Room} {s : State} {args : Array Value} {Ts : List Cond} (hts : ∀ w ∈ Ts, w.before args s = true) (hsub : ∀ w ∈ wG, w ∈ Ts) (hR : rm_Ma_lengthOf.frames + 1 ≤ R.frames ∧ 8 + (1 + 11) + rm_Ma_lengthOf.locals ≤ R.locals) : CallB R s args "FrameVerifier$Machine" 150 y_Ma_lengthOf b_Ma_lengthOf 1 (some .int) w_Ma_lengthOf rm_Ma_lengthOf 0 0 1 ∧ (Cond.static y_Ma_lengthOf).before args s = true := ⟨cb_G hts hsub m_Ma_lengthOf g_Ma_lengthOf (wg_t 555 (by decide +kernel) (by decide +kernel) : Cond.methodLink "FrameVerifier$Machine" 150 y_Ma_lengthOf ∈ wG) q_Ma_lengthOf rfl rfl hR, hts _ (hsub _ s_Ma_lengthOf)⟩
theorem k_Ma_179 {R : Room} {s : State} {args : Array Value} {Ts : List Cond} (hts : ∀ w ∈ Ts, w.before args s = true) (hsub : ∀ w ∈ wG, w ∈ Ts) (hR : rm_Fr_pop.frames + 1 ≤ R.frames ∧ 8 + (2 + 11) + rm_Fr_pop.locals ≤ R.locals) : CallW R s args "FrameVerifier$Machine" "FrameVerifier$Frame" 179 y_Fr_pop b_Fr_pop 2 (some .int) w_Fr_pop rm_Fr_pop 0 0 0 := ⟨cb_G hts hsub m_Fr_pop g_Fr_pop (wg_t 642 (by decide +kernel) (by decide +kernel) : Cond.methodLink "FrameVerifier$Machine" 179 y_Fr_pop ∈ wG) q_Fr_pop rfl rfl hR, hts _ (hsub _ s_Fr_pop), hts _ (hsub _ e_Fr_pop)⟩
theorem k_Ma_182 {R : Room} {s : State} {args : Array Value} {Ts : List Cond} (hts : ∀ w ∈ Ts, w.before args s = true) (hsub : ∀ w ∈ wG, w ∈ Ts) (hR : rm_Ma_reckon.frames + 1 ≤ R.frames ∧ 8 + (4 + 11) + rm_Ma_reckon.locals ≤ R.locals) : CallB R s args "FrameVerifier$Machine" 182 y_Ma_reckon b_Ma_reckon 4 none w_Ma_reckon rm_Ma_reckon 0 0 2 ∧ (Cond.static y_Ma_reckon).before args s = true := ⟨cb_G hts hsub m_Ma_reckon g_Ma_reckon (wg_t 652 (by decide +kernel) (by decide +kernel) : Cond.methodLink "FrameVerifier$Machine" 182 y_Ma_reckon ∈ wG) q_Ma_reckon rfl rfl hR, hts _ (hsub _ s_Ma_reckon)⟩
theorem k_Ma_186 {R : Room} {s : State} {args : Array Value} {Ts : List Cond} (hts : ∀ w ∈ Ts, w.before args s = true) (hsub : ∀ w ∈ wG, w ∈ Ts) (hR : rm_Ma_useArray.frames + 1 ≤ R.frames ∧ 8 + (6 + 11) + rm_Ma_useArray.locals ≤ R.locals) : CallW R s args "FrameVerifier$Machine" "FrameVerifier$Machine" 186 y_Ma_useArray b_Ma_useArray 6 none w_Ma_useArray rm_Ma_useArray 0 0 2 := ⟨cb_G hts hsub m_Ma_useArray g_Ma_useArray (wg_t 663 (by decide +kernel) (by decide +kernel) : Cond.methodLink "FrameVerifier$Machine" 186 y_Ma_useArray ∈ wG) q_Ma_useArray rfl rfl hR, hts _ (hsub _ s_Ma_useArray), hts _ (hsub _ e_Ma_useArray)⟩
theorem k_Ma_189 {R : Room} {s : State} {args : Array Value} {Ts : List Cond} (hts : ∀ w ∈ Ts, w.before args s = true) (hsub : ∀ w ∈ wG, w ∈ Ts) (hR : rm_Ma_enter.frames + 1 ≤ R.frames ∧ 8 + (5 + 11) + rm_Ma_enter.locals ≤ R.locals) : CallW R s args "FrameVerifier$Machine" "FrameVerifier$Machine" 189 y_Ma_enter b_Ma_enter 5 none w_Ma_enter rm_Ma_enter 0 0 2 := ⟨cb_G hts hsub m_Ma_enter g_Ma_enter (wg_t 674 (by decide +kernel) (by decide +kernel) : Cond.methodLink "FrameVerifier$Machine" 189 y_Ma_enter ∈ wG) q_Ma_enter rfl rfl hR, hts _ (hsub _ s_Ma_enter), hts _ (hsub _ e_Ma_enter)⟩
theorem k_Ma_193 {R : Room} {s : State} {args : Array Value} {Ts : List Cond} (hts : ∀ w ∈ Ts, w.before args s = true) (hsub : ∀ w ∈ wG, w ∈ Ts) (hR : rm_Ma_leave.frames + 1 ≤ R.frames ∧ 8 + (2 + 11) + rm_Ma_leave.locals ≤ R.locals) : CallW R s args "FrameVerifier$Machine" "FrameVerifier$Machine" 193 y_Ma_leave b_Ma_leave 2 none w_Ma_leave rm_Ma_leave 0 0 1 := ⟨cb_G hts hsub m_Ma_leave g_Ma_leave (wg_t 682 (by decide +kernel) (by decide +kernel) : Cond.methodLink "FrameVerifier$Machine" 193 y_Ma_leave ∈ wG) q_Ma_leave rfl rfl hR, hts _ (hsub _ s_Ma_leave), hts _ (hsub _ e_Ma_leave)⟩
theorem k_Ma_197 {R : Room} {s : State} {args : Array Value} {Ts : List Cond} (hts : ∀ w ∈ Ts, w.before args s = true) (hsub : ∀ w ∈ wG, w ∈ Ts) (hR : rm_Ma_move.frames + 1 ≤ R.frames ∧ 8 + (3 + 11) + rm_Ma_move.locals ≤ R.locals) : CallB R s args "FrameVerifier$Machine" 197 y_Ma_move b_Ma_move 3 none w_Ma_move rm_Ma_move 0 0 3 ∧ (Cond.static y_Ma_move).before args s = true := ⟨cb_G hts hsub m_Ma_move g_Ma_move (wg_t 693 (by decide +kernel) (by decide +kernel) : Cond.methodLink "FrameVerifier$Machine" 197 y_Ma_move ∈ wG) q_Ma_move rfl rfl hR, hts _ (hsub _ s_Ma_move)⟩
theorem k_Ma_200 {R : Room} {s : State} {args : Array Value} {Ts : List Cond} (hts : ∀ w ∈ Ts, w.before args s = true) (hsub : ∀ w ∈ wG, w ∈ Ts) (hR : rm_Ma_reckoned.frames + 1 ≤ R.frames ∧ 8 + (3 + 11) + rm_Ma_reckoned.locals ≤ R.locals) : CallB R s args "FrameVerifier$Machine" 200 y_Ma_reckoned b_Ma_reckoned 3 (some .int) w_Ma_reckoned rm_Ma_reckoned 0 0 3 ∧ (Cond.static y_Ma_reckoned).before args s = true := ⟨cb_G hts hsub m_Ma_reckoned g_Ma_reckoned (wg_t 655 (by decide +kernel) (by decide +kernel) : Cond.methodLink "FrameVerifier$Machine" 200 y_Ma_reckoned ∈ wG) q_Ma_reckoned rfl rfl hR, hts _ (hsub _ s_Ma_reckoned)⟩
theorem k_Ma_204 {R : Room} {s : State} {args : Array Value} {Ts : List Cond} (hts : ∀ w ∈ Ts, w.before args s = true) (hsub : ∀ w ∈ wG, w ∈ Ts) (hR : rm_Fr_push.frames + 1 ≤ R.frames ∧ 8 + (3 + 11) + rm_Fr_push.locals ≤ R.locals) : CallW R s args "FrameVerifier$Machine" "FrameVerifier$Frame" 204 y_Fr_push b_Fr_push 3 none w_Fr_push rm_Fr_push 0 0 2 := ⟨cb_G hts hsub m_Fr_push g_Fr_push (wg_t 658 (by decide +kernel) (by decide +kernel) : Cond.methodLink "FrameVerifier$Machine" 204 y_Fr_push ∈ wG) q_Fr_push rfl rfl hR, hts _ (hsub _ s_Fr_push), hts _ (hsub _ e_Fr_push)⟩
theorem k_Ma_207 {R : Room} {s : State} {args : Array Value} {Ts : List Cond} (hts : ∀ w ∈ Ts, w.before args s = true) (hsub : ∀ w ∈ wG, w ∈ Ts) (hR : rm_Ma_makeArray.frames + 1 ≤ R.frames ∧ 8 + (4 + 11) + rm_Ma_makeArray.locals ≤ R.locals) : CallW R s args "FrameVerifier$Machine" "FrameVerifier$Machine" 207 y_Ma_makeArray b_Ma_makeArray 4 (some .int) w_Ma_makeArray rm_Ma_makeArray 0 0 1 := ⟨cb_G hts hsub m_Ma_makeArray g_Ma_makeArray (wg_t 667 (by decide +kernel) (by decide +kernel) : Cond.methodLink "FrameVerifier$Machine" 207 y_Ma_makeArray ∈ wG) q_Ma_makeArray rfl rfl hR, hts _ (hsub _ s_Ma_makeArray), hts _ (hsub _ e_Ma_makeArray)⟩
theorem k_Ma_210 {R : Room} {s : State} {args : Array Value} {Ts : List Cond} (hts : ∀ w ∈ Ts, w.before args s = true) (hsub : ∀ w ∈ wG, w ∈ Ts) (hR : rm_Ma_placeOf.frames + 1 ≤ R.frames ∧ 8 + (2 + 11) + rm_Ma_placeOf.locals ≤ R.locals) : CallB R s args "FrameVerifier$Machine" 210 y_Ma_placeOf b_Ma_placeOf 2 (some .int) w_Ma_placeOf rm_Ma_placeOf 0 0 2 ∧ (Cond.static y_Ma_placeOf).before args s = true := ⟨cb_G hts hsub m_Ma_placeOf g_Ma_placeOf (wg_t 671 (by decide +kernel) (by decide +kernel) : Cond.methodLink "FrameVerifier$Machine" 210 y_Ma_placeOf ∈ wG) q_Ma_placeOf rfl rfl hR, hts _ (hsub _ s_Ma_placeOf)⟩
theorem k_Ma_213 {R : Room} {s : State} {args : Array Value} {Ts : List Cond} (hts : ∀ w ∈ Ts, w.before args s = true) (hsub : ∀ w ∈ wG, w ∈ Ts) (hR : rm_Co_parametersOf.frames + 1 ≤ R.frames ∧ 8 + (2 + 11) + rm_Co_parametersOf.locals ≤ R.locals) : CallW R s args "FrameVerifier$Machine" "FrameVerifier$Code" 213 y_Co_parametersOf b_Co_parametersOf 2 (some .int) w_Co_parametersOf rm_Co_parametersOf 0 0 1 := ⟨cb_G hts hsub m_Co_parametersOf g_Co_parametersOf (wg_t 678 (by decide +kernel) (by decide +kernel) : Cond.methodLink "FrameVerifier$Machine" 213 y_Co_parametersOf ∈ wG) q_Co_parametersOf rfl rfl hR, hts _ (hsub _ s_Co_parametersOf), hts _ (hsub _ e_Co_parametersOf)⟩
theorem k_Ma_216 {R : Room} {s : State} {args : Array Value} {Ts : List Cond} (hts : ∀ w ∈ Ts, w.before args s = true) (hsub : ∀ w ∈ wG, w ∈ Ts) (hR : rm_Ty_slotBelow.frames + 1 ≤ R.frames ∧ 8 + (2 + 11) + rm_Ty_slotBelow.locals ≤ R.locals) : CallB R s args "FrameVerifier$Machine" 216 y_Ty_slotBelow b_Ty_slotBelow 2 (some .int) w_Ty_slotBelow rm_Ty_slotBelow 0 0 2 ∧ (Cond.static y_Ty_slotBelow).before args s = true := ⟨cb_G hts hsub m_Ty_slotBelow g_Ty_slotBelow (wg_t 686 (by decide +kernel) (by decide +kernel) : Cond.methodLink "FrameVerifier$Machine" 216 y_Ty_slotBelow ∈ wG) q_Ty_slotBelow rfl rfl hR, hts _ (hsub _ s_Ty_slotBelow)⟩
theorem k_Ma_219 {R : Room} {s : State} {args : Array Value} {Ts : List Cond} (hts : ∀ w ∈ Ts, w.before args s = true) (hsub : ∀ w ∈ wG, w ∈ Ts) (hR : rm_Fr_shown.frames + 1 ≤ R.frames ∧ 8 + (3 + 11) + rm_Fr_shown.locals ≤ R.locals) : CallW R s args "FrameVerifier$Machine" "FrameVerifier$Frame" 219 y_Fr_shown b_Fr_shown 3 (some .int) w_Fr_shown rm_Fr_shown 0 0 1 := ⟨cb_G hts hsub m_Fr_shown g_Fr_shown (wg_t 687 (by decide +kernel) (by decide +kernel) : Cond.methodLink "FrameVerifier$Machine" 219 y_Fr_shown ∈ wG) q_Fr_shown rfl rfl hR, hts _ (hsub _ s_Fr_shown), hts _ (hsub _ e_Fr_shown)⟩
theorem k_Ma_222 {R : Room} {s : State} {args : Array Value} {Ts : List Cond} (hts : ∀ w ∈ Ts, w.before args s = true) (hsub : ∀ w ∈ wG, w ∈ Ts) (hR : rm_Fr_typeBelow.frames + 1 ≤ R.frames ∧ 8 + (2 + 11) + rm_Fr_typeBelow.locals ≤ R.locals) : CallW R s args "FrameVerifier$Machine" "FrameVerifier$Frame" 222 y_Fr_typeBelow b_Fr_typeBelow 2 (some .int) w_Fr_typeBelow rm_Fr_typeBelow 0 0 1 := ⟨cb_G hts hsub m_Fr_typeBelow g_Fr_typeBelow (wg_t 688 (by decide +kernel) (by decide +kernel) : Cond.methodLink "FrameVerifier$Machine" 222 y_Fr_typeBelow ∈ wG) q_Fr_typeBelow rfl rfl hR, hts _ (hsub _ s_Fr_typeBelow), hts _ (hsub _ e_Fr_typeBelow)⟩
theorem k_Ma_225 {R : Room} {s : State} {args : Array Value} {Ts : List Cond} (hts : ∀ w ∈ Ts, w.before args s = true) (hsub : ∀ w ∈ wG, w ∈ Ts) (hR : rm_Fr_load.frames + 1 ≤ R.frames ∧ 8 + (2 + 11) + rm_Fr_load.locals ≤ R.locals) : CallW R s args "FrameVerifier$Machine" "FrameVerifier$Frame" 225 y_Fr_load b_Fr_load 2 none w_Fr_load rm_Fr_load 0 0 1 := ⟨cb_G hts hsub m_Fr_load g_Fr_load (wg_t 696 (by decide +kernel) (by decide +kernel) : Cond.methodLink "FrameVerifier$Machine" 225 y_Fr_load ∈ wG) q_Fr_load rfl rfl hR, hts _ (hsub _ s_Fr_load), hts _ (hsub _ e_Fr_load)⟩
theorem k_Ma_229 {R : Room} {s : State} {args : Array Value} {Ts : List Cond} (hts : ∀ w ∈ Ts, w.before args s = true) (hsub : ∀ w ∈ wG, w ∈ Ts) (hR : rm_Fr_store.frames + 1 ≤ R.frames ∧ 8 + (3 + 11) + rm_Fr_store.locals ≤ R.locals) : CallW R s args "FrameVerifier$Machine" "FrameVerifier$Frame" 229 y_Fr_store b_Fr_store 3 none w_Fr_store rm_Fr_store 0 0 1 := ⟨cb_G hts hsub m_Fr_store g_Fr_store (wg_t 701 (by decide +kernel) (by decide +kernel) : Cond.methodLink "FrameVerifier$Machine" 229 y_Fr_store ∈ wG) q_Fr_store rfl rfl hR, hts _ (hsub _ s_Fr_store), hts _ (hsub _ e_Fr_store)⟩
theorem k_Ma_232 {R : Room} {s : State} {args : Array Value} {Ts : List Cond} (hts : ∀ w ∈ Ts, w.before args s = true) (hsub : ∀ w ∈ wG, w ∈ Ts) (hR : rm_Fr_exchange.frames + 1 ≤ R.frames ∧ 8 + (5 + 11) + rm_Fr_exchange.locals ≤ R.locals) : CallW R s args "FrameVerifier$Machine" "FrameVerifier$Frame" 232 y_Fr_exchange b_Fr_exchange 5 none w_Fr_exchange rm_Fr_exchange 0 0 0 := ⟨cb_G hts hsub m_Fr_exchange g_Fr_exchange (wg_t 708 (by decide +kernel) (by decide +kernel) : Cond.methodLink "FrameVerifier$Machine" 232 y_Fr_exchange ∈ wG) q_Fr_exchange rfl rfl hR, hts _ (hsub _ s_Fr_exchange), hts _ (hsub _ e_Fr_exchange)⟩
theorem k_Ma_126 {R : Room} {s : State} {args : Array Value} {Ts : List Cond} (hts : ∀ w ∈ Ts, w.before args s = true) (hsub : ∀ w ∈ wG, w ∈ Ts) (hR : rm_En_ordinal.frames + 1 ≤ R.frames ∧ 8 + (1 + 11) + rm_En_ordinal.locals ≤ R.locals) : va_CU R s args "FrameVerifier$Machine" "FrameVerifier$Op" "java/lang/Enum" 126 ⟨"FrameVerifier$Op", "ordinal", "()I"⟩ y_En_ordinal b_En_ordinal 1 (some .int) w_En_ordinal rm_En_ordinal 0 0 0 := by
  refine va_cwU 0 hts (fun w hw => ?_) rfl rfl rfl rfl (by decide +kernel) hR
  have h1 : w ∈ wG := by
    rcases List.mem_append.mp hw with h | h
    · simp only [List.mem_cons, List.not_mem_nil, or_false] at h
      rcases h with rfl | rfl | rfl | rfl | rfl
      · exact wg_t 540 (by decide +kernel) (by decide +kernel)
      · exact wg_t 254 (by decide +kernel) (by decide +kernel)
      · exact wg_t 256 (by decide +kernel) (by decide +kernel)
      · exact s_En_ordinal
      · exact g_En_ordinal
    · rcases List.mem_cons.mp h with rfl | h
      · exact m_En_ordinal
      · exact h
  exact ⟨hsub w h1, good_of_word (List.mem_filter.mp h1).2⟩
end
section
/-! contracts of 10.machine; written by wip/whole/make.py -/
def fn_Ma_isRunning (σ : mm_M)  : Option (Int32 × mm_M) :=
    (if (σ 16 0) ≤ 0 then
    (if (0 : Int32) = 0 ∨ (0 : Int32) = 1 then some ((0 : Int32), σ) else none)
    else
    (if (1 : Int32) = 0 ∨ (1 : Int32) = 1 then some ((1 : Int32), σ) else none))
set_option maxRecDepth 100000 in
set_option maxHeartbeats 40000000 in
theorem c_Ma_isRunning (l : Launch) (D : va_G) (ca : Nat → ClassId) (ax : Nat → Nat → Nat) (b : Nat) (σ : mm_M)   {r : Int32} {σ' : mm_M} (hf : fn_Ma_isRunning σ  = some (r, σ')) : Met l y_Ma_isRunning w_Ma_isRunning rm_Ma_isRunning (pc_w D cls b N_C (ce_C ca b) (kC D ca ax b) [.ref (b + 16)] σ) (qc_i D cls b N_C (ce_C ca b) r σ') 0 0 (mm_A b N_C) := by
  refine vv_go (cc := b_Ma_isRunning) (maxL := 1) (ret := (some .boolean)) (fin := (r, σ')) (k := fn_Ma_isRunning σ ) (by decide) rfl (by simp [Value.category]) (Nat.le_of_ble_eq_true rfl) hf ?_
  intro p e s m below meth c hlocks hret S hKK
  unfold fn_Ma_isRunning
  refine v_aload_n S d_Ma_isRunning_0 rfl rfl ?_
  refine v_get S (fun w h => List.mem_cons_of_mem _ (i_Ma w h)) hKK.1 16 (by decide) rfl rfl 0 (by decide) (S.2.2.2.2 _ (List.mem_cons_of_mem _ (wd_121))) (fun _ h => h) rfl d_Ma_isRunning_1 ?_
  refine v_if_le S d_Ma_isRunning_4 (tgt := 11) (by decide) (fun h1 => ?_) (fun h1 => ?_)
  · refine v_iconst S d_Ma_isRunning_11 (v := (0 : Int32)) (by decide) ?_
    exact v_zret S hret hlocks d_Ma_isRunning_12
  · refine v_iconst S d_Ma_isRunning_7 (v := (1 : Int32)) (by decide) ?_
    refine v_goto S d_Ma_isRunning_8 (tgt := 12) (by decide) ?_
    exact v_zret S hret hlocks d_Ma_isRunning_12
def fn_Ma_top (σ : mm_M)  : Option (Nat × mm_M) :=
    (if (((σ 16 0) - (1 : Int32)) < 0 ∨ 8 ≤ ((σ 16 0) - (1 : Int32)).toNatClampNeg) then none else
    (some ((((σ 16 0) - (1 : Int32)).toNatClampNeg), σ)))
set_option maxRecDepth 100000 in
set_option maxHeartbeats 40000000 in
theorem c_Ma_top (l : Launch) (D : va_G) (ca : Nat → ClassId) (ax : Nat → Nat → Nat) (b : Nat) (σ : mm_M)   {r : Nat} {σ' : mm_M} (hf : fn_Ma_top σ  = some (r, σ')) : Met l y_Ma_top w_Ma_top rm_Ma_top (pc_w D cls b N_C (ce_C ca b) (kC D ca ax b) [.ref (b + 16)] σ) (qc_a D cls b N_C (ce_C ca b) (b + (19 + 2 * r)) σ') 0 0 (mm_A b N_C) := by
  refine vv_go (cc := b_Ma_top) (maxL := 1) (ret := (some (.object "FrameVerifier$Frame"))) (fin := (r, σ')) (k := fn_Ma_top σ ) (by decide) rfl (by simp [Value.category]) (Nat.le_of_ble_eq_true rfl) hf ?_
  intro p e s m below meth c hlocks hret S hKK
  unfold fn_Ma_top
  refine v_aload_n S d_Ma_top_0 rfl rfl ?_
  refine v_get S (fun w h => List.mem_cons_of_mem _ (i_Ma w h)) hKK.1 16 (by decide) rfl rfl 4 (by decide) (S.2.2.2.2 _ (List.mem_cons_of_mem _ (wd_128))) (fun _ h => h) rfl d_Ma_top_1 ?_
  refine v_aload_n S d_Ma_top_4 rfl rfl ?_
  refine v_get S (fun w h => List.mem_cons_of_mem _ (i_Ma w h)) hKK.1 16 (by decide) rfl rfl 0 (by decide) (S.2.2.2.2 _ (List.mem_cons_of_mem _ (wd_121))) (fun _ h => h) rfl d_Ma_top_5 ?_
  refine v_iconst S d_Ma_top_8 (v := (1 : Int32)) (by decide) ?_
  refine v_isub S d_Ma_top_9 ?_
  refine v_aald S hKK.1 18 2 (by decide) (ty := .object "FrameVerifier$Frame") rfl rfl rfl d_Ma_top_10 (fun h1 => ?_)
  exact v_aret (fun q => b + (19 + 2 * q)) S hret hlocks d_Ma_top_11
theorem rb_Ma_top {σ : mm_M}  {r : Nat} {σ' : mm_M} (h : fn_Ma_top σ  = some (r, σ')) : r < 8 := by
  unfold fn_Ma_top at h
  try simp only [bd, bv, nm] at h
  repeat' (split at h)
  all_goals (first | (cases h; done) | (cases h; first | decide | exact ib (by assumption) ))
def fn_Ma_openFrame (σ : mm_M) (a0 : Int32) : Option (Nat × mm_M) :=
    (if ((σ 16 0) < 0 ∨ 8 ≤ (σ 16 0).toNatClampNeg) then none else
    (nm (mw σ 16 0 ((σ 16 0) + (1 : Int32))) (fun σ2 =>
    (bd (fn_Co_startOf σ2 a0) (fun r4 σ3 =>
    (bd (fn_Co_firstState σ3 a0) (fun r6 σ5 =>
    (bv (fn_Fr_open σ5 ((σ 16 0).toNatClampNeg) a0 r4 r6) (fun σ7 =>
    (some (((σ 16 0).toNatClampNeg), σ7)))))))))))
set_option maxRecDepth 100000 in
set_option maxHeartbeats 40000000 in
theorem c_Ma_openFrame (l : Launch) (D : va_G) (ca : Nat → ClassId) (ax : Nat → Nat → Nat) (b : Nat) (σ : mm_M) (a0 : Int32)  {r : Nat} {σ' : mm_M} (hf : fn_Ma_openFrame σ a0 = some (r, σ')) : Met l y_Ma_openFrame w_Ma_openFrame rm_Ma_openFrame (pc_w D cls b N_C (ce_C ca b) (kC D ca ax b) [.ref (b + 16), .int a0] σ) (qc_a D cls b N_C (ce_C ca b) (b + (19 + 2 * r)) σ') 0 0 (mm_A b N_C) := by
  refine vv_go (cc := b_Ma_openFrame) (maxL := 3) (ret := (some (.object "FrameVerifier$Frame"))) (fin := (r, σ')) (k := fn_Ma_openFrame σ a0) (by decide) rfl (by simp [Value.category]) (Nat.le_of_ble_eq_true rfl) hf ?_
  intro p e s m below meth c hlocks hret S hKK
  unfold fn_Ma_openFrame
  refine v_aload_n S d_Ma_openFrame_0 rfl rfl ?_
  refine v_get S (fun w h => List.mem_cons_of_mem _ (i_Ma w h)) hKK.1 16 (by decide) rfl rfl 4 (by decide) (S.2.2.2.2 _ (List.mem_cons_of_mem _ (wd_128))) (fun _ h => h) rfl d_Ma_openFrame_1 ?_
  refine v_aload_n S d_Ma_openFrame_4 rfl rfl ?_
  refine v_get S (fun w h => List.mem_cons_of_mem _ (i_Ma w h)) hKK.1 16 (by decide) rfl rfl 0 (by decide) (S.2.2.2.2 _ (List.mem_cons_of_mem _ (wd_121))) (fun _ h => h) rfl d_Ma_openFrame_5 ?_
  refine v_aald S hKK.1 18 2 (by decide) (ty := .object "FrameVerifier$Frame") rfl rfl rfl d_Ma_openFrame_8 (fun h1 => ?_)
  refine v_astore_nP S d_Ma_openFrame_9 rfl (by decide) (L2 := [some (.ref (b + 16)), some (.int a0), some (.ref (b + (19 + 2 * ((σ 16 0).toNatClampNeg))))]) rfl ?_
  refine v_aload_n S d_Ma_openFrame_10 rfl rfl ?_
  refine v_dup S d_Ma_openFrame_11 rfl ?_
  refine v_get S (fun w h => List.mem_cons_of_mem _ (i_Ma w h)) hKK.1 16 (by decide) rfl rfl 0 (by decide) (S.2.2.2.2 _ (List.mem_cons_of_mem _ (wd_121))) (fun _ h => h) rfl d_Ma_openFrame_12 ?_
  refine v_iconst S d_Ma_openFrame_15 (v := (1 : Int32)) (by decide) ?_
  refine v_iadd S d_Ma_openFrame_16 ?_
  refine v_puti S (fun w h => List.mem_cons_of_mem _ (i_Ma w h)) hKK.1 16 (by decide) rfl rfl 0 (by decide) (S.2.2.2.2 _ (List.mem_cons_of_mem _ (wd_121))) (fun _ h => h) t_Ma t_Ma_ok n_Ma rfl (ty := .int) rfl rfl rfl (Nat.le_of_ble_eq_true rfl) rfl d_Ma_openFrame_17 ?_
  refine v_sg (fun σ2 eσ2 => ?_)
  refine v_aload_n S d_Ma_openFrame_20 rfl rfl ?_
  refine v_iload_n S d_Ma_openFrame_21 rfl rfl ?_
  refine v_aload_n S d_Ma_openFrame_22 rfl rfl ?_
  refine v_get S (fun w h => List.mem_cons_of_mem _ (i_Ma w h)) hKK.1 16 (by decide) rfl rfl 3 (by decide) (S.2.2.2.2 _ (List.mem_cons_of_mem _ (wd_127))) (fun _ h => h) rfl d_Ma_openFrame_23 ?_
  refine v_iload_n S d_Ma_openFrame_26 rfl rfl ?_
  refine v_ci (rest := [.int a0, .ref (b + (19 + 2 * ((σ 16 0).toNatClampNeg)))]) (fun _ _ hg H locs ls hsz hP hS => run_V (As := [.int a0]) (rest := [.int a0, .ref (b + (19 + 2 * ((σ 16 0).toNatClampNeg)))]) S kC_ok hKK (c_Co_startOf l D ca ax b σ2 a0 hg) (k_Ma_101 S.2.2.2.2 (fun _ => List.mem_cons_of_mem _) ⟨Nat.le_of_ble_eq_true rfl, Nat.le_of_ble_eq_true rfl⟩) (rc_w hKK.1 hP 1 (by decide) rfl rfl) rfl rfl (by simp [Value.category]) d_Ma_openFrame_27 hsz hP hS) (fun r4 σ3 _ => ?_)
  refine v_aload_n S d_Ma_openFrame_30 rfl rfl ?_
  refine v_get S (fun w h => List.mem_cons_of_mem _ (i_Ma w h)) hKK.1 16 (by decide) rfl rfl 3 (by decide) (S.2.2.2.2 _ (List.mem_cons_of_mem _ (wd_127))) (fun _ h => h) rfl d_Ma_openFrame_31 ?_
  refine v_iload_n S d_Ma_openFrame_34 rfl rfl ?_
  refine v_ci (rest := [.int r4, .int a0, .ref (b + (19 + 2 * ((σ 16 0).toNatClampNeg)))]) (fun _ _ hg H locs ls hsz hP hS => run_V (As := [.int a0]) (rest := [.int r4, .int a0, .ref (b + (19 + 2 * ((σ 16 0).toNatClampNeg)))]) S kC_ok hKK (c_Co_firstState l D ca ax b σ3 a0 hg) (k_Ma_104 S.2.2.2.2 (fun _ => List.mem_cons_of_mem _) ⟨Nat.le_of_ble_eq_true rfl, Nat.le_of_ble_eq_true rfl⟩) (rc_w hKK.1 hP 1 (by decide) rfl rfl) rfl rfl (by simp [Value.category]) d_Ma_openFrame_35 hsz hP hS) (fun r6 σ5 _ => ?_)
  refine v_cv (rest := []) (fun _ hg H locs ls hsz hP hS => run_V (As := [.int a0, .int r4, .int r6]) (rest := []) S kC_ok hKK (c_Fr_open l D ca ax b σ5 ((σ 16 0).toNatClampNeg) a0 r4 r6 (ib h1) hg) (k_Ma_107 S.2.2.2.2 (fun _ => List.mem_cons_of_mem _) ⟨Nat.le_of_ble_eq_true rfl, Nat.le_of_ble_eq_true rfl⟩) (rc_w hKK.1 hP (19 + 2 * ((σ 16 0).toNatClampNeg)) (fr_lt (ib h1)) (ce_fr (ib h1)) rfl) rfl rfl (Nat.zero_le _) d_Ma_openFrame_38 hsz hP hS) (fun σ7 _ => ?_)
  refine v_aload_n S d_Ma_openFrame_41 rfl rfl ?_
  exact v_aret (fun q => b + (19 + 2 * q)) S hret hlocks d_Ma_openFrame_42
theorem rb_Ma_openFrame {σ : mm_M} {a0 : Int32} {r : Nat} {σ' : mm_M} (h : fn_Ma_openFrame σ a0 = some (r, σ')) : r < 8 := by
  unfold fn_Ma_openFrame at h
  try simp only [bd, bv, nm] at h
  repeat' (split at h)
  all_goals (first | (cases h; done) | (cases h; first | decide | exact ib (by assumption) ))
def fn_Ma_firstValue (σ : mm_M) (i0 : Nat) (a1 : Int32) (a2 : Int32) : Option (Int32 × mm_M) :=
    (bd (fn_Ty_at σ (σ (19 + 2 * i0) 2) a1) (fun r2 σ1 =>
    (if r2 = (2 : Int32) then
    (some ((0 : Int32), σ1))
    else
    (some (a2, σ1)))))
set_option maxRecDepth 100000 in
set_option maxHeartbeats 40000000 in
theorem c_Ma_firstValue (l : Launch) (D : va_G) (ca : Nat → ClassId) (ax : Nat → Nat → Nat) (b : Nat) (σ : mm_M) (i0 : Nat) (a1 : Int32) (a2 : Int32) (hi0 : i0 < 8) {r : Int32} {σ' : mm_M} (hf : fn_Ma_firstValue σ i0 a1 a2 = some (r, σ')) : Met l y_Ma_firstValue w_Ma_firstValue rm_Ma_firstValue (pc_w D cls b N_C (ce_C ca b) (kC D ca ax b) [.ref (b + (19 + 2 * i0)), .int a1, .int a2] σ) (qc_i D cls b N_C (ce_C ca b) r σ') 0 0 (mm_A b N_C) := by
  refine vv_go (cc := b_Ma_firstValue) (maxL := 3) (ret := (some .int)) (fin := (r, σ')) (k := fn_Ma_firstValue σ i0 a1 a2) (by decide) rfl (by simp [Value.category]) (Nat.le_of_ble_eq_true rfl) hf ?_
  intro p e s m below meth c hlocks hret S hKK
  unfold fn_Ma_firstValue
  refine v_aload_n S d_Ma_firstValue_0 rfl rfl ?_
  refine v_get S (fun w h => List.mem_cons_of_mem _ (i_Fr w h)) hKK.1 (19 + 2 * i0) (fr_lt hi0) (ce_fr hi0) rfl 2 (by decide) (S.2.2.2.2 _ (List.mem_cons_of_mem _ (wd_109))) (fun _ h => h) rfl d_Ma_firstValue_1 ?_
  refine v_iload_n S d_Ma_firstValue_4 rfl rfl ?_
  refine v_ci (rest := []) (fun _ _ hg H locs ls hsz hP hS => run_S (As := [.int (σ (19 + 2 * i0) 2), .int a1]) (rest := []) S kC_ok hKK (c_Ty_at l D ca ax b σ (σ (19 + 2 * i0) 2) a1 hg) (k_Ma_95 S.2.2.2.2 (fun _ => List.mem_cons_of_mem _) ⟨Nat.le_of_ble_eq_true rfl, Nat.le_of_ble_eq_true rfl⟩) rfl rfl (Nat.zero_le _) d_Ma_firstValue_5 hsz hP hS) (fun r2 σ1 _ => ?_)
  refine v_iconst S d_Ma_firstValue_8 (v := (2 : Int32)) (by decide) ?_
  refine v_icmp_ne S d_Ma_firstValue_9 (tgt := 16) (by decide) (fun h3 => ?_) (fun h3 => ?_)
  · refine v_iload_n S d_Ma_firstValue_16 rfl rfl ?_
    exact v_iret S hret hlocks d_Ma_firstValue_17
  · refine v_iconst S d_Ma_firstValue_12 (v := (0 : Int32)) (by decide) ?_
    refine v_goto S d_Ma_firstValue_13 (tgt := 17) (by decide) ?_
    exact v_iret S hret hlocks d_Ma_firstValue_17
def fn_Ma_begin (σ : mm_M) (a0 : Int32) (a1 : Int32) (a2 : Int32) : Option (mm_M) :=
    (nm (mw σ 16 0 (0 : Int32)) (fun σ1 =>
    (nm (mw σ1 16 1 (0 : Int32)) (fun σ2 =>
    (bd (fn_Ma_openFrame σ2 (0 : Int32)) (fun r4 σ3 =>
    (bd (fn_Ma_firstValue σ3 r4 (0 : Int32) a0) (fun r7 σ6 =>
    (bv (fn_Fr_setParameter σ6 r4 (0 : Int32) r7) (fun σ8 =>
    (bd (fn_Ma_firstValue σ8 r4 (1 : Int32) a1) (fun r10 σ9 =>
    (bv (fn_Fr_setParameter σ9 r4 (1 : Int32) r10) (fun σ11 =>
    (bd (fn_Ma_firstValue σ11 r4 (2 : Int32) a2) (fun r13 σ12 =>
    (bv (fn_Fr_setParameter σ12 r4 (2 : Int32) r13) (fun σ14 =>
    (some σ14)))))))))))))))))))
set_option maxRecDepth 100000 in
set_option maxHeartbeats 40000000 in
theorem c_Ma_begin (l : Launch) (D : va_G) (ca : Nat → ClassId) (ax : Nat → Nat → Nat) (b : Nat) (σ : mm_M) (a0 : Int32) (a1 : Int32) (a2 : Int32)  {σ' : mm_M} (hf : fn_Ma_begin σ a0 a1 a2 = some σ') : Met l y_Ma_begin w_Ma_begin rm_Ma_begin (pc_w D cls b N_C (ce_C ca b) (kC D ca ax b) [.ref (b + 16), .int a0, .int a1, .int a2] σ) (qc_v D cls b N_C (ce_C ca b) σ') 0 0 (mm_A b N_C) := by
  refine vv_go (cc := b_Ma_begin) (maxL := 5) (ret := none) (fin := σ') (k := fn_Ma_begin σ a0 a1 a2) (by decide) rfl (by simp [Value.category]) (Nat.le_of_ble_eq_true rfl) hf ?_
  intro p e s m below meth c hlocks hret S hKK
  unfold fn_Ma_begin
  refine v_aload_n S d_Ma_begin_0 rfl rfl ?_
  refine v_iconst S d_Ma_begin_1 (v := (0 : Int32)) (by decide) ?_
  refine v_puti S (fun w h => List.mem_cons_of_mem _ (i_Ma w h)) hKK.1 16 (by decide) rfl rfl 0 (by decide) (S.2.2.2.2 _ (List.mem_cons_of_mem _ (wd_121))) (fun _ h => h) t_Ma t_Ma_ok n_Ma rfl (ty := .int) rfl rfl rfl (Nat.le_of_ble_eq_true rfl) rfl d_Ma_begin_2 ?_
  refine v_sg (fun σ1 eσ1 => ?_)
  refine v_aload_n S d_Ma_begin_5 rfl rfl ?_
  refine v_iconst S d_Ma_begin_6 (v := (0 : Int32)) (by decide) ?_
  refine v_puti S (fun w h => List.mem_cons_of_mem _ (i_Ma w h)) hKK.1 16 (by decide) rfl rfl 1 (by decide) (S.2.2.2.2 _ (List.mem_cons_of_mem _ (wd_123))) (fun _ h => h) t_Ma t_Ma_ok n_Ma rfl (ty := .int) rfl rfl rfl (Nat.le_of_ble_eq_true rfl) rfl d_Ma_begin_7 ?_
  refine v_sg (fun σ2 eσ2 => ?_)
  refine v_aload_n S d_Ma_begin_10 rfl rfl ?_
  refine v_iconst S d_Ma_begin_11 (v := (0 : Int32)) (by decide) ?_
  refine v_ca (fun q => b + (19 + 2 * q)) (rest := []) (fun _ _ hg H locs ls hsz hP hS => run_V (As := [.int (0 : Int32)]) (rest := []) S kC_ok hKK (c_Ma_openFrame l D ca ax b σ2 (0 : Int32) hg) (k_Ma_36 S.2.2.2.2 (fun _ => List.mem_cons_of_mem _) ⟨Nat.le_of_ble_eq_true rfl, Nat.le_of_ble_eq_true rfl⟩) (rc_w hKK.1 hP 16 (by decide) rfl rfl) rfl rfl (Nat.zero_le _) d_Ma_begin_12 hsz hP hS) (fun r4 σ3 g5 => ?_)
  refine v_astoreP S d_Ma_begin_15 (by decide) (L2 := [some (.ref (b + 16)), some (.int a0), some (.int a1), some (.int a2), some (.ref (b + (19 + 2 * r4)))]) rfl ?_
  refine v_aload S d_Ma_begin_17 rfl ?_
  refine v_iconst S d_Ma_begin_19 (v := (0 : Int32)) (by decide) ?_
  refine v_aload S d_Ma_begin_20 rfl ?_
  refine v_iconst S d_Ma_begin_22 (v := (0 : Int32)) (by decide) ?_
  refine v_iload_n S d_Ma_begin_23 rfl rfl ?_
  refine v_ci (rest := [.int (0 : Int32), .ref (b + (19 + 2 * r4))]) (fun _ _ hg H locs ls hsz hP hS => run_S (As := [.ref (b + (19 + 2 * r4)), .int (0 : Int32), .int a0]) (rest := [.int (0 : Int32), .ref (b + (19 + 2 * r4))]) S kC_ok hKK (c_Ma_firstValue l D ca ax b σ3 r4 (0 : Int32) a0 (rb_Ma_openFrame g5) hg) (k_Ma_40 S.2.2.2.2 (fun _ => List.mem_cons_of_mem _) ⟨Nat.le_of_ble_eq_true rfl, Nat.le_of_ble_eq_true rfl⟩) rfl rfl (by simp [Value.category]) d_Ma_begin_24 hsz hP hS) (fun r7 σ6 _ => ?_)
  refine v_cv (rest := []) (fun _ hg H locs ls hsz hP hS => run_V (As := [.int (0 : Int32), .int r7]) (rest := []) S kC_ok hKK (c_Fr_setParameter l D ca ax b σ6 r4 (0 : Int32) r7 (rb_Ma_openFrame g5) hg) (k_Ma_44 S.2.2.2.2 (fun _ => List.mem_cons_of_mem _) ⟨Nat.le_of_ble_eq_true rfl, Nat.le_of_ble_eq_true rfl⟩) (rc_w hKK.1 hP (19 + 2 * r4) (fr_lt (rb_Ma_openFrame g5)) (ce_fr (rb_Ma_openFrame g5)) rfl) rfl rfl (Nat.zero_le _) d_Ma_begin_27 hsz hP hS) (fun σ8 _ => ?_)
  refine v_aload S d_Ma_begin_30 rfl ?_
  refine v_iconst S d_Ma_begin_32 (v := (1 : Int32)) (by decide) ?_
  refine v_aload S d_Ma_begin_33 rfl ?_
  refine v_iconst S d_Ma_begin_35 (v := (1 : Int32)) (by decide) ?_
  refine v_iload_n S d_Ma_begin_36 rfl rfl ?_
  refine v_ci (rest := [.int (1 : Int32), .ref (b + (19 + 2 * r4))]) (fun _ _ hg H locs ls hsz hP hS => run_S (As := [.ref (b + (19 + 2 * r4)), .int (1 : Int32), .int a1]) (rest := [.int (1 : Int32), .ref (b + (19 + 2 * r4))]) S kC_ok hKK (c_Ma_firstValue l D ca ax b σ8 r4 (1 : Int32) a1 (rb_Ma_openFrame g5) hg) (k_Ma_40 S.2.2.2.2 (fun _ => List.mem_cons_of_mem _) ⟨Nat.le_of_ble_eq_true rfl, Nat.le_of_ble_eq_true rfl⟩) rfl rfl (by simp [Value.category]) d_Ma_begin_37 hsz hP hS) (fun r10 σ9 _ => ?_)
  refine v_cv (rest := []) (fun _ hg H locs ls hsz hP hS => run_V (As := [.int (1 : Int32), .int r10]) (rest := []) S kC_ok hKK (c_Fr_setParameter l D ca ax b σ9 r4 (1 : Int32) r10 (rb_Ma_openFrame g5) hg) (k_Ma_44 S.2.2.2.2 (fun _ => List.mem_cons_of_mem _) ⟨Nat.le_of_ble_eq_true rfl, Nat.le_of_ble_eq_true rfl⟩) (rc_w hKK.1 hP (19 + 2 * r4) (fr_lt (rb_Ma_openFrame g5)) (ce_fr (rb_Ma_openFrame g5)) rfl) rfl rfl (Nat.zero_le _) d_Ma_begin_40 hsz hP hS) (fun σ11 _ => ?_)
  refine v_aload S d_Ma_begin_43 rfl ?_
  refine v_iconst S d_Ma_begin_45 (v := (2 : Int32)) (by decide) ?_
  refine v_aload S d_Ma_begin_46 rfl ?_
  refine v_iconst S d_Ma_begin_48 (v := (2 : Int32)) (by decide) ?_
  refine v_iload_n S d_Ma_begin_49 rfl rfl ?_
  refine v_ci (rest := [.int (2 : Int32), .ref (b + (19 + 2 * r4))]) (fun _ _ hg H locs ls hsz hP hS => run_S (As := [.ref (b + (19 + 2 * r4)), .int (2 : Int32), .int a2]) (rest := [.int (2 : Int32), .ref (b + (19 + 2 * r4))]) S kC_ok hKK (c_Ma_firstValue l D ca ax b σ11 r4 (2 : Int32) a2 (rb_Ma_openFrame g5) hg) (k_Ma_40 S.2.2.2.2 (fun _ => List.mem_cons_of_mem _) ⟨Nat.le_of_ble_eq_true rfl, Nat.le_of_ble_eq_true rfl⟩) rfl rfl (by simp [Value.category]) d_Ma_begin_50 hsz hP hS) (fun r13 σ12 _ => ?_)
  refine v_cv (rest := []) (fun _ hg H locs ls hsz hP hS => run_V (As := [.int (2 : Int32), .int r13]) (rest := []) S kC_ok hKK (c_Fr_setParameter l D ca ax b σ12 r4 (2 : Int32) r13 (rb_Ma_openFrame g5) hg) (k_Ma_44 S.2.2.2.2 (fun _ => List.mem_cons_of_mem _) ⟨Nat.le_of_ble_eq_true rfl, Nat.le_of_ble_eq_true rfl⟩) (rc_w hKK.1 hP (19 + 2 * r4) (fr_lt (rb_Ma_openFrame g5)) (ce_fr (rb_Ma_openFrame g5)) rfl) rfl rfl (Nat.zero_le _) d_Ma_begin_53 hsz hP hS) (fun σ14 _ => ?_)
  exact v_vret S hret hlocks d_Ma_begin_56
def fn_Ma_lengthOf (σ : mm_M) (a0 : Int32) : Option (Int32 × mm_M) :=
    (some (((a0 - (1 : Int32)) &&& (15 : Int32)), σ))
set_option maxRecDepth 100000 in
set_option maxHeartbeats 40000000 in
theorem c_Ma_lengthOf (l : Launch) (D : va_G) (ca : Nat → ClassId) (ax : Nat → Nat → Nat) (b : Nat) (σ : mm_M) (a0 : Int32)  {r : Int32} {σ' : mm_M} (hf : fn_Ma_lengthOf σ a0 = some (r, σ')) : Met l y_Ma_lengthOf w_Ma_lengthOf rm_Ma_lengthOf (pc_w D cls b N_C (ce_C ca b) (kC D ca ax b) [.int a0] σ) (qc_i D cls b N_C (ce_C ca b) r σ') 0 0 (mm_A b N_C) := by
  refine vv_go (cc := b_Ma_lengthOf) (maxL := 1) (ret := (some .int)) (fin := (r, σ')) (k := fn_Ma_lengthOf σ a0) (by decide) rfl (by simp [Value.category]) (Nat.le_of_ble_eq_true rfl) hf ?_
  intro p e s m below meth c hlocks hret S hKK
  unfold fn_Ma_lengthOf
  refine v_iload_n S d_Ma_lengthOf_0 rfl rfl ?_
  refine v_iconst S d_Ma_lengthOf_1 (v := (1 : Int32)) (by decide) ?_
  refine v_isub S d_Ma_lengthOf_2 ?_
  refine v_bipush S d_Ma_lengthOf_3 (v := (15 : Int32)) (by decide) ?_
  refine v_iand S d_Ma_lengthOf_5 ?_
  exact v_iret S hret hlocks d_Ma_lengthOf_6
def fn_Ma_elementTrap (σ : mm_M) (a0 : Int32) (a1 : Int32) : Option (Nat × mm_M) :=
    (if a0 = 0 then
    (some (3, σ))
    else
    (if a1 < 0 then
    (some (4, σ))
    else
    (bd (fn_Ma_lengthOf σ a0) (fun r4 σ3 =>
    (if r4 ≤ a1 then
    (some (4, σ3))
    else
    (some (0, σ3)))))))
set_option maxRecDepth 100000 in
set_option maxHeartbeats 40000000 in
theorem c_Ma_elementTrap (l : Launch) (D : va_G) (ca : Nat → ClassId) (ax : Nat → Nat → Nat) (b : Nat) (σ : mm_M) (a0 : Int32) (a1 : Int32)  {r : Nat} {σ' : mm_M} (hf : fn_Ma_elementTrap σ a0 a1 = some (r, σ')) : Met l y_Ma_elementTrap w_Ma_elementTrap rm_Ma_elementTrap (pc_w D cls b N_C (ce_C ca b) (kC D ca ax b) [.int a0, .int a1] σ) (qc_a D cls b N_C (ce_C ca b) (ax 1 r) σ') 0 0 (mm_A b N_C) := by
  refine vv_go (cc := b_Ma_elementTrap) (maxL := 2) (ret := (some (.object "FrameVerifier$Trap"))) (fin := (r, σ')) (k := fn_Ma_elementTrap σ a0 a1) (by decide) rfl (by simp [Value.category]) (Nat.le_of_ble_eq_true rfl) hf ?_
  intro p e s m below meth c hlocks hret S hKK
  unfold fn_Ma_elementTrap
  refine v_iload_n S d_Ma_elementTrap_0 rfl rfl ?_
  refine v_if_ne S d_Ma_elementTrap_1 (tgt := 8) (by decide) (fun h1 => ?_) (fun h1 => ?_)
  · refine v_iload_n S d_Ma_elementTrap_8 rfl rfl ?_
    refine v_if_lt S d_Ma_elementTrap_9 (tgt := 26) (by decide) (fun h2 => ?_) (fun h2 => ?_)
    · refine v_gets S (kc_zT hKK (i := 4) (by decide)) (S.2.2.2.2 _ (List.mem_cons_of_mem _ (wd_558))) (fun _ h => h) d_Ma_elementTrap_26 ?_
      exact v_aret (ax 1) S hret hlocks d_Ma_elementTrap_29
    · refine v_iload_n S d_Ma_elementTrap_12 rfl rfl ?_
      refine v_iload_n S d_Ma_elementTrap_13 rfl rfl ?_
      refine v_ci (rest := [.int a1]) (fun _ _ hg H locs ls hsz hP hS => run_S (As := [.int a0]) (rest := [.int a1]) S kC_ok hKK (c_Ma_lengthOf l D ca ax b σ a0 hg) (k_Ma_150 S.2.2.2.2 (fun _ => List.mem_cons_of_mem _) ⟨Nat.le_of_ble_eq_true rfl, Nat.le_of_ble_eq_true rfl⟩) rfl rfl (by simp [Value.category]) d_Ma_elementTrap_14 hsz hP hS) (fun r4 σ3 _ => ?_)
      refine v_icmp_ge S d_Ma_elementTrap_17 (tgt := 26) (by decide) (fun h5 => ?_) (fun h5 => ?_)
      · refine v_gets S (kc_zT hKK (i := 4) (by decide)) (S.2.2.2.2 _ (List.mem_cons_of_mem _ (wd_558))) (fun _ h => h) d_Ma_elementTrap_26 ?_
        exact v_aret (ax 1) S hret hlocks d_Ma_elementTrap_29
      · refine v_gets S (kc_zT hKK (i := 0) (by decide)) (S.2.2.2.2 _ (List.mem_cons_of_mem _ (wd_548))) (fun _ h => h) d_Ma_elementTrap_20 ?_
        refine v_goto S d_Ma_elementTrap_23 (tgt := 29) (by decide) ?_
        exact v_aret (ax 1) S hret hlocks d_Ma_elementTrap_29
  · refine v_gets S (kc_zT hKK (i := 3) (by decide)) (S.2.2.2.2 _ (List.mem_cons_of_mem _ (wd_553))) (fun _ h => h) d_Ma_elementTrap_4 ?_
    exact v_aret (ax 1) S hret hlocks d_Ma_elementTrap_7
theorem rb_Ma_elementTrap {σ : mm_M} {a0 : Int32} {a1 : Int32} {r : Nat} {σ' : mm_M} (h : fn_Ma_elementTrap σ a0 a1 = some (r, σ')) : r < 6 := by
  unfold fn_Ma_elementTrap at h
  try simp only [bd, bv, nm] at h
  repeat' (split at h)
  all_goals (first | (cases h; done) | (cases h; first | decide | exact ib (by assumption) ))
def fn_Ma_canMake (σ : mm_M) (a0 : Int32) : Option (Int32 × mm_M) :=
    (if a0 < 0 then
    (if (0 : Int32) = 0 ∨ (0 : Int32) = 1 then some ((0 : Int32), σ) else none)
    else
    (if (12 : Int32) < a0 then
    (if (0 : Int32) = 0 ∨ (0 : Int32) = 1 then some ((0 : Int32), σ) else none)
    else
    (if (30 : Int32) < ((σ 16 1) + a0) then
    (if (0 : Int32) = 0 ∨ (0 : Int32) = 1 then some ((0 : Int32), σ) else none)
    else
    (if (1 : Int32) = 0 ∨ (1 : Int32) = 1 then some ((1 : Int32), σ) else none))))
set_option maxRecDepth 100000 in
set_option maxHeartbeats 40000000 in
theorem c_Ma_canMake (l : Launch) (D : va_G) (ca : Nat → ClassId) (ax : Nat → Nat → Nat) (b : Nat) (σ : mm_M) (a0 : Int32)  {r : Int32} {σ' : mm_M} (hf : fn_Ma_canMake σ a0 = some (r, σ')) : Met l y_Ma_canMake w_Ma_canMake rm_Ma_canMake (pc_w D cls b N_C (ce_C ca b) (kC D ca ax b) [.ref (b + 16), .int a0] σ) (qc_i D cls b N_C (ce_C ca b) r σ') 0 0 (mm_A b N_C) := by
  refine vv_go (cc := b_Ma_canMake) (maxL := 2) (ret := (some .boolean)) (fin := (r, σ')) (k := fn_Ma_canMake σ a0) (by decide) rfl (by simp [Value.category]) (Nat.le_of_ble_eq_true rfl) hf ?_
  intro p e s m below meth c hlocks hret S hKK
  unfold fn_Ma_canMake
  refine v_iload_n S d_Ma_canMake_0 rfl rfl ?_
  refine v_if_lt S d_Ma_canMake_1 (tgt := 25) (by decide) (fun h1 => ?_) (fun h1 => ?_)
  · refine v_iconst S d_Ma_canMake_25 (v := (0 : Int32)) (by decide) ?_
    exact v_zret S hret hlocks d_Ma_canMake_26
  · refine v_iload_n S d_Ma_canMake_4 rfl rfl ?_
    refine v_bipush S d_Ma_canMake_5 (v := (12 : Int32)) (by decide) ?_
    refine v_icmp_gt S d_Ma_canMake_7 (tgt := 25) (by decide) (fun h2 => ?_) (fun h2 => ?_)
    · refine v_iconst S d_Ma_canMake_25 (v := (0 : Int32)) (by decide) ?_
      exact v_zret S hret hlocks d_Ma_canMake_26
    · refine v_aload_n S d_Ma_canMake_10 rfl rfl ?_
      refine v_get S (fun w h => List.mem_cons_of_mem _ (i_Ma w h)) hKK.1 16 (by decide) rfl rfl 1 (by decide) (S.2.2.2.2 _ (List.mem_cons_of_mem _ (wd_123))) (fun _ h => h) rfl d_Ma_canMake_11 ?_
      refine v_iload_n S d_Ma_canMake_14 rfl rfl ?_
      refine v_iadd S d_Ma_canMake_15 ?_
      refine v_bipush S d_Ma_canMake_16 (v := (30 : Int32)) (by decide) ?_
      refine v_icmp_gt S d_Ma_canMake_18 (tgt := 25) (by decide) (fun h3 => ?_) (fun h3 => ?_)
      · refine v_iconst S d_Ma_canMake_25 (v := (0 : Int32)) (by decide) ?_
        exact v_zret S hret hlocks d_Ma_canMake_26
      · refine v_iconst S d_Ma_canMake_21 (v := (1 : Int32)) (by decide) ?_
        refine v_goto S d_Ma_canMake_22 (tgt := 26) (by decide) ?_
        exact v_zret S hret hlocks d_Ma_canMake_26
def fn_Ma_trapOf (σ : mm_M) (i0 : Nat) : Option (Nat × mm_M) :=
    (bd (fn_Co_fits σ (σ (19 + 2 * i0) 0) (σ (19 + 2 * i0) 1) (σ (19 + 2 * i0) 2)) (fun r2 σ1 =>
    (if r2 = 0 then
    (some (1, σ1))
    else
    (bd (fn_Co_opAt σ1 (σ1 (19 + 2 * i0) 1)) (fun r5 σ4 =>
    (if ((nI r5) < 0 ∨ 20 ≤ (nI r5).toNatClampNeg) then none else
    (if (sw_op (nI r5).toNatClampNeg) = (5 : Int32) then
    (if (8 : Int32) ≤ (σ4 16 0) then
    (some (5, σ4))
    else
    (some (0, σ4)))
    else
    (if (sw_op (nI r5).toNatClampNeg) = (7 : Int32) then
    (bd (fn_Fr_below σ4 i0 (0 : Int32)) (fun r12 σ11 =>
    (if r12 = 0 then
    (some (2, σ11))
    else
    (some (0, σ11)))))
    else
    (if (sw_op (nI r5).toNatClampNeg) = (8 : Int32) then
    (bd (fn_Fr_below σ4 i0 (1 : Int32)) (fun r16 σ15 =>
    (bd (fn_Fr_below σ15 i0 (0 : Int32)) (fun r18 σ17 =>
    (bd (fn_Ma_elementTrap σ17 r16 r18) (fun r20 σ19 =>
    (some (r20, σ19))))))))
    else
    (if (sw_op (nI r5).toNatClampNeg) = (9 : Int32) then
    (bd (fn_Fr_below σ4 i0 (2 : Int32)) (fun r24 σ23 =>
    (bd (fn_Fr_below σ23 i0 (1 : Int32)) (fun r26 σ25 =>
    (bd (fn_Ma_elementTrap σ25 r24 r26) (fun r28 σ27 =>
    (some (r28, σ27))))))))
    else
    (if (sw_op (nI r5).toNatClampNeg) = (10 : Int32) then
    (bd (fn_Fr_below σ4 i0 (0 : Int32)) (fun r32 σ31 =>
    (if r32 = 0 then
    (some (3, σ31))
    else
    (some (0, σ31)))))
    else
    (if (sw_op (nI r5).toNatClampNeg) = (11 : Int32) then
    (bd (fn_Fr_below σ4 i0 (0 : Int32)) (fun r36 σ35 =>
    (bd (fn_Ma_canMake σ35 r36) (fun r38 σ37 =>
    (if r38 = 0 then
    (some (5, σ37))
    else
    (some (0, σ37)))))))
    else
    (some (0, σ4))))))))))))))
set_option maxRecDepth 100000 in
set_option maxHeartbeats 40000000 in
theorem c_Ma_trapOf (l : Launch) (D : va_G) (ca : Nat → ClassId) (ax : Nat → Nat → Nat) (b : Nat) (σ : mm_M) (i0 : Nat) (hi0 : i0 < 8) {r : Nat} {σ' : mm_M} (hf : fn_Ma_trapOf σ i0 = some (r, σ')) : Met l y_Ma_trapOf w_Ma_trapOf rm_Ma_trapOf (pc_w D cls b N_C (ce_C ca b) (kC D ca ax b) [.ref (b + 16), .ref (b + (19 + 2 * i0))] σ) (qc_a D cls b N_C (ce_C ca b) (ax 1 r) σ') 0 0 (mm_A b N_C) := by
  refine vv_go (cc := b_Ma_trapOf) (maxL := 2) (ret := (some (.object "FrameVerifier$Trap"))) (fin := (r, σ')) (k := fn_Ma_trapOf σ i0) (by decide) rfl (by simp [Value.category]) (Nat.le_of_ble_eq_true rfl) hf ?_
  intro p e s m below meth c hlocks hret S hKK
  unfold fn_Ma_trapOf
  refine v_aload_n S d_Ma_trapOf_0 rfl rfl ?_
  refine v_get S (fun w h => List.mem_cons_of_mem _ (i_Ma w h)) hKK.1 16 (by decide) rfl rfl 3 (by decide) (S.2.2.2.2 _ (List.mem_cons_of_mem _ (wd_127))) (fun _ h => h) rfl d_Ma_trapOf_1 ?_
  refine v_aload_n S d_Ma_trapOf_4 rfl rfl ?_
  refine v_get S (fun w h => List.mem_cons_of_mem _ (i_Fr w h)) hKK.1 (19 + 2 * i0) (fr_lt hi0) (ce_fr hi0) rfl 0 (by decide) (S.2.2.2.2 _ (List.mem_cons_of_mem _ (wd_104))) (fun _ h => h) rfl d_Ma_trapOf_5 ?_
  refine v_aload_n S d_Ma_trapOf_8 rfl rfl ?_
  refine v_get S (fun w h => List.mem_cons_of_mem _ (i_Fr w h)) hKK.1 (19 + 2 * i0) (fr_lt hi0) (ce_fr hi0) rfl 1 (by decide) (S.2.2.2.2 _ (List.mem_cons_of_mem _ (wd_106))) (fun _ h => h) rfl d_Ma_trapOf_9 ?_
  refine v_aload_n S d_Ma_trapOf_12 rfl rfl ?_
  refine v_get S (fun w h => List.mem_cons_of_mem _ (i_Fr w h)) hKK.1 (19 + 2 * i0) (fr_lt hi0) (ce_fr hi0) rfl 2 (by decide) (S.2.2.2.2 _ (List.mem_cons_of_mem _ (wd_109))) (fun _ h => h) rfl d_Ma_trapOf_13 ?_
  refine v_ci (rest := []) (fun _ _ hg H locs ls hsz hP hS => run_V (As := [.int (σ (19 + 2 * i0) 0), .int (σ (19 + 2 * i0) 1), .int (σ (19 + 2 * i0) 2)]) (rest := []) S kC_ok hKK (c_Co_fits l D ca ax b σ (σ (19 + 2 * i0) 0) (σ (19 + 2 * i0) 1) (σ (19 + 2 * i0) 2) hg) (k_Ma_114 S.2.2.2.2 (fun _ => List.mem_cons_of_mem _) ⟨Nat.le_of_ble_eq_true rfl, Nat.le_of_ble_eq_true rfl⟩) (rc_w hKK.1 hP 1 (by decide) rfl rfl) rfl rfl (Nat.zero_le _) d_Ma_trapOf_16 hsz hP hS) (fun r2 σ1 _ => ?_)
  refine v_if_ne S d_Ma_trapOf_19 (tgt := 26) (by decide) (fun h3 => ?_) (fun h3 => ?_)
  · refine v_gets S (kc_zOp hKK) (S.2.2.2.2 _ (List.mem_cons_of_mem _ (wd_538))) (fun _ h => h) d_Ma_trapOf_26 ?_
    refine v_aload_n S d_Ma_trapOf_29 rfl rfl ?_
    refine v_get S (fun w h => List.mem_cons_of_mem _ (i_Ma w h)) hKK.1 16 (by decide) rfl rfl 3 (by decide) (S.2.2.2.2 _ (List.mem_cons_of_mem _ (wd_127))) (fun _ h => h) rfl d_Ma_trapOf_30 ?_
    refine v_aload_n S d_Ma_trapOf_33 rfl rfl ?_
    refine v_get S (fun w h => List.mem_cons_of_mem _ (i_Fr w h)) hKK.1 (19 + 2 * i0) (fr_lt hi0) (ce_fr hi0) rfl 1 (by decide) (S.2.2.2.2 _ (List.mem_cons_of_mem _ (wd_106))) (fun _ h => h) rfl d_Ma_trapOf_34 ?_
    refine v_ca (ax 0) (rest := [.ref (ax 3 0)]) (fun _ _ hg H locs ls hsz hP hS => run_V (As := [.int (σ1 (19 + 2 * i0) 1)]) (rest := [.ref (ax 3 0)]) S kC_ok hKK (c_Co_opAt l D ca ax b σ1 (σ1 (19 + 2 * i0) 1) hg) (k_Ma_69 S.2.2.2.2 (fun _ => List.mem_cons_of_mem _) ⟨Nat.le_of_ble_eq_true rfl, Nat.le_of_ble_eq_true rfl⟩) (rc_w hKK.1 hP 1 (by decide) rfl rfl) rfl rfl (by simp [Value.category]) d_Ma_trapOf_37 hsz hP hS) (fun r5 σ4 g6 => ?_)
    refine v_ordO (rest := [.ref (ax 3 0)]) S hKK (rb_Co_opAt g6) (k_Ma_126 S.2.2.2.2 (fun _ => List.mem_cons_of_mem _) ⟨Nat.le_of_ble_eq_true rfl, Nat.le_of_ble_eq_true rfl⟩) (by simp [Value.category]) d_Ma_trapOf_40 ?_
    refine v_ti0 S (kc_swOp hKK) d_Ma_trapOf_43 (fun h7 => ?_)
    refine v_tsw S (5 : Int32) (tgt := 174) d_Ma_trapOf_44 (by decide) (by decide) (off := 130) rfl (by decide) (fun h8 => ?_) (fun h8 => ?_)
    · refine v_aload_n S d_Ma_trapOf_174 rfl rfl ?_
      refine v_get S (fun w h => List.mem_cons_of_mem _ (i_Ma w h)) hKK.1 16 (by decide) rfl rfl 0 (by decide) (S.2.2.2.2 _ (List.mem_cons_of_mem _ (wd_121))) (fun _ h => h) rfl d_Ma_trapOf_175 ?_
      refine v_bipush S d_Ma_trapOf_178 (v := (8 : Int32)) (by decide) ?_
      refine v_icmp_ge S d_Ma_trapOf_180 (tgt := 189) (by decide) (fun h9 => ?_) (fun h9 => ?_)
      · refine v_gets S (kc_zT hKK (i := 5) (by decide)) (S.2.2.2.2 _ (List.mem_cons_of_mem _ (wd_564))) (fun _ h => h) d_Ma_trapOf_189 ?_
        exact v_aret (ax 1) S hret hlocks d_Ma_trapOf_192
      · refine v_gets S (kc_zT hKK (i := 0) (by decide)) (S.2.2.2.2 _ (List.mem_cons_of_mem _ (wd_548))) (fun _ h => h) d_Ma_trapOf_183 ?_
        refine v_goto S d_Ma_trapOf_186 (tgt := 192) (by decide) ?_
        exact v_aret (ax 1) S hret hlocks d_Ma_trapOf_192
    · refine v_tsw S (7 : Int32) (tgt := 88) d_Ma_trapOf_44 (by decide) (by decide) (off := 44) rfl (by decide) (fun h10 => ?_) (fun h10 => ?_)
      · refine v_aload_n S d_Ma_trapOf_88 rfl rfl ?_
        refine v_iconst S d_Ma_trapOf_89 (v := (0 : Int32)) (by decide) ?_
        refine v_ci (rest := []) (fun _ _ hg H locs ls hsz hP hS => run_V (As := [.int (0 : Int32)]) (rest := []) S kC_ok hKK (c_Fr_below l D ca ax b σ4 i0 (0 : Int32) hi0 hg) (k_Ma_130 S.2.2.2.2 (fun _ => List.mem_cons_of_mem _) ⟨Nat.le_of_ble_eq_true rfl, Nat.le_of_ble_eq_true rfl⟩) (rc_w hKK.1 hP (19 + 2 * i0) (fr_lt hi0) (ce_fr hi0) rfl) rfl rfl (Nat.zero_le _) d_Ma_trapOf_90 hsz hP hS) (fun r12 σ11 _ => ?_)
        refine v_if_ne S d_Ma_trapOf_93 (tgt := 102) (by decide) (fun h13 => ?_) (fun h13 => ?_)
        · refine v_gets S (kc_zT hKK (i := 0) (by decide)) (S.2.2.2.2 _ (List.mem_cons_of_mem _ (wd_548))) (fun _ h => h) d_Ma_trapOf_102 ?_
          exact v_aret (ax 1) S hret hlocks d_Ma_trapOf_105
        · refine v_gets S (kc_zT hKK (i := 2) (by decide)) (S.2.2.2.2 _ (List.mem_cons_of_mem _ (wd_546))) (fun _ h => h) d_Ma_trapOf_96 ?_
          refine v_goto S d_Ma_trapOf_99 (tgt := 105) (by decide) ?_
          exact v_aret (ax 1) S hret hlocks d_Ma_trapOf_105
      · refine v_tsw S (8 : Int32) (tgt := 106) d_Ma_trapOf_44 (by decide) (by decide) (off := 62) rfl (by decide) (fun h14 => ?_) (fun h14 => ?_)
        · refine v_aload_n S d_Ma_trapOf_106 rfl rfl ?_
          refine v_iconst S d_Ma_trapOf_107 (v := (1 : Int32)) (by decide) ?_
          refine v_ci (rest := []) (fun _ _ hg H locs ls hsz hP hS => run_V (As := [.int (1 : Int32)]) (rest := []) S kC_ok hKK (c_Fr_below l D ca ax b σ4 i0 (1 : Int32) hi0 hg) (k_Ma_130 S.2.2.2.2 (fun _ => List.mem_cons_of_mem _) ⟨Nat.le_of_ble_eq_true rfl, Nat.le_of_ble_eq_true rfl⟩) (rc_w hKK.1 hP (19 + 2 * i0) (fr_lt hi0) (ce_fr hi0) rfl) rfl rfl (Nat.zero_le _) d_Ma_trapOf_108 hsz hP hS) (fun r16 σ15 _ => ?_)
          refine v_aload_n S d_Ma_trapOf_111 rfl rfl ?_
          refine v_iconst S d_Ma_trapOf_112 (v := (0 : Int32)) (by decide) ?_
          refine v_ci (rest := [.int r16]) (fun _ _ hg H locs ls hsz hP hS => run_V (As := [.int (0 : Int32)]) (rest := [.int r16]) S kC_ok hKK (c_Fr_below l D ca ax b σ15 i0 (0 : Int32) hi0 hg) (k_Ma_130 S.2.2.2.2 (fun _ => List.mem_cons_of_mem _) ⟨Nat.le_of_ble_eq_true rfl, Nat.le_of_ble_eq_true rfl⟩) (rc_w hKK.1 hP (19 + 2 * i0) (fr_lt hi0) (ce_fr hi0) rfl) rfl rfl (by simp [Value.category]) d_Ma_trapOf_113 hsz hP hS) (fun r18 σ17 _ => ?_)
          refine v_ca (ax 1) (rest := []) (fun _ _ hg H locs ls hsz hP hS => run_S (As := [.int r16, .int r18]) (rest := []) S kC_ok hKK (c_Ma_elementTrap l D ca ax b σ17 r16 r18 hg) (k_Ma_136 S.2.2.2.2 (fun _ => List.mem_cons_of_mem _) ⟨Nat.le_of_ble_eq_true rfl, Nat.le_of_ble_eq_true rfl⟩) rfl rfl (Nat.zero_le _) d_Ma_trapOf_116 hsz hP hS) (fun r20 σ19 g21 => ?_)
          exact v_aret (ax 1) S hret hlocks d_Ma_trapOf_119
        · refine v_tsw S (9 : Int32) (tgt := 120) d_Ma_trapOf_44 (by decide) (by decide) (off := 76) rfl (by decide) (fun h22 => ?_) (fun h22 => ?_)
          · refine v_aload_n S d_Ma_trapOf_120 rfl rfl ?_
            refine v_iconst S d_Ma_trapOf_121 (v := (2 : Int32)) (by decide) ?_
            refine v_ci (rest := []) (fun _ _ hg H locs ls hsz hP hS => run_V (As := [.int (2 : Int32)]) (rest := []) S kC_ok hKK (c_Fr_below l D ca ax b σ4 i0 (2 : Int32) hi0 hg) (k_Ma_130 S.2.2.2.2 (fun _ => List.mem_cons_of_mem _) ⟨Nat.le_of_ble_eq_true rfl, Nat.le_of_ble_eq_true rfl⟩) (rc_w hKK.1 hP (19 + 2 * i0) (fr_lt hi0) (ce_fr hi0) rfl) rfl rfl (Nat.zero_le _) d_Ma_trapOf_122 hsz hP hS) (fun r24 σ23 _ => ?_)
            refine v_aload_n S d_Ma_trapOf_125 rfl rfl ?_
            refine v_iconst S d_Ma_trapOf_126 (v := (1 : Int32)) (by decide) ?_
            refine v_ci (rest := [.int r24]) (fun _ _ hg H locs ls hsz hP hS => run_V (As := [.int (1 : Int32)]) (rest := [.int r24]) S kC_ok hKK (c_Fr_below l D ca ax b σ23 i0 (1 : Int32) hi0 hg) (k_Ma_130 S.2.2.2.2 (fun _ => List.mem_cons_of_mem _) ⟨Nat.le_of_ble_eq_true rfl, Nat.le_of_ble_eq_true rfl⟩) (rc_w hKK.1 hP (19 + 2 * i0) (fr_lt hi0) (ce_fr hi0) rfl) rfl rfl (by simp [Value.category]) d_Ma_trapOf_127 hsz hP hS) (fun r26 σ25 _ => ?_)
            refine v_ca (ax 1) (rest := []) (fun _ _ hg H locs ls hsz hP hS => run_S (As := [.int r24, .int r26]) (rest := []) S kC_ok hKK (c_Ma_elementTrap l D ca ax b σ25 r24 r26 hg) (k_Ma_136 S.2.2.2.2 (fun _ => List.mem_cons_of_mem _) ⟨Nat.le_of_ble_eq_true rfl, Nat.le_of_ble_eq_true rfl⟩) rfl rfl (Nat.zero_le _) d_Ma_trapOf_130 hsz hP hS) (fun r28 σ27 g29 => ?_)
            exact v_aret (ax 1) S hret hlocks d_Ma_trapOf_133
          · refine v_tsw S (10 : Int32) (tgt := 134) d_Ma_trapOf_44 (by decide) (by decide) (off := 90) rfl (by decide) (fun h30 => ?_) (fun h30 => ?_)
            · refine v_aload_n S d_Ma_trapOf_134 rfl rfl ?_
              refine v_iconst S d_Ma_trapOf_135 (v := (0 : Int32)) (by decide) ?_
              refine v_ci (rest := []) (fun _ _ hg H locs ls hsz hP hS => run_V (As := [.int (0 : Int32)]) (rest := []) S kC_ok hKK (c_Fr_below l D ca ax b σ4 i0 (0 : Int32) hi0 hg) (k_Ma_130 S.2.2.2.2 (fun _ => List.mem_cons_of_mem _) ⟨Nat.le_of_ble_eq_true rfl, Nat.le_of_ble_eq_true rfl⟩) (rc_w hKK.1 hP (19 + 2 * i0) (fr_lt hi0) (ce_fr hi0) rfl) rfl rfl (Nat.zero_le _) d_Ma_trapOf_136 hsz hP hS) (fun r32 σ31 _ => ?_)
              refine v_if_ne S d_Ma_trapOf_139 (tgt := 148) (by decide) (fun h33 => ?_) (fun h33 => ?_)
              · refine v_gets S (kc_zT hKK (i := 0) (by decide)) (S.2.2.2.2 _ (List.mem_cons_of_mem _ (wd_548))) (fun _ h => h) d_Ma_trapOf_148 ?_
                exact v_aret (ax 1) S hret hlocks d_Ma_trapOf_151
              · refine v_gets S (kc_zT hKK (i := 3) (by decide)) (S.2.2.2.2 _ (List.mem_cons_of_mem _ (wd_553))) (fun _ h => h) d_Ma_trapOf_142 ?_
                refine v_goto S d_Ma_trapOf_145 (tgt := 151) (by decide) ?_
                exact v_aret (ax 1) S hret hlocks d_Ma_trapOf_151
            · refine v_tsw S (11 : Int32) (tgt := 152) d_Ma_trapOf_44 (by decide) (by decide) (off := 108) rfl (by decide) (fun h34 => ?_) (fun h34 => ?_)
              · refine v_aload_n S d_Ma_trapOf_152 rfl rfl ?_
                refine v_aload_n S d_Ma_trapOf_153 rfl rfl ?_
                refine v_iconst S d_Ma_trapOf_154 (v := (0 : Int32)) (by decide) ?_
                refine v_ci (rest := [.ref (b + 16)]) (fun _ _ hg H locs ls hsz hP hS => run_V (As := [.int (0 : Int32)]) (rest := [.ref (b + 16)]) S kC_ok hKK (c_Fr_below l D ca ax b σ4 i0 (0 : Int32) hi0 hg) (k_Ma_130 S.2.2.2.2 (fun _ => List.mem_cons_of_mem _) ⟨Nat.le_of_ble_eq_true rfl, Nat.le_of_ble_eq_true rfl⟩) (rc_w hKK.1 hP (19 + 2 * i0) (fr_lt hi0) (ce_fr hi0) rfl) rfl rfl (by simp [Value.category]) d_Ma_trapOf_155 hsz hP hS) (fun r36 σ35 _ => ?_)
                refine v_ci (rest := []) (fun _ _ hg H locs ls hsz hP hS => run_V (As := [.int r36]) (rest := []) S kC_ok hKK (c_Ma_canMake l D ca ax b σ35 r36 hg) (k_Ma_143 S.2.2.2.2 (fun _ => List.mem_cons_of_mem _) ⟨Nat.le_of_ble_eq_true rfl, Nat.le_of_ble_eq_true rfl⟩) (rc_w hKK.1 hP 16 (by decide) rfl rfl) rfl rfl (Nat.zero_le _) d_Ma_trapOf_158 hsz hP hS) (fun r38 σ37 _ => ?_)
                refine v_if_eq S d_Ma_trapOf_161 (tgt := 170) (by decide) (fun h39 => ?_) (fun h39 => ?_)
                · refine v_gets S (kc_zT hKK (i := 5) (by decide)) (S.2.2.2.2 _ (List.mem_cons_of_mem _ (wd_564))) (fun _ h => h) d_Ma_trapOf_170 ?_
                  exact v_aret (ax 1) S hret hlocks d_Ma_trapOf_173
                · refine v_gets S (kc_zT hKK (i := 0) (by decide)) (S.2.2.2.2 _ (List.mem_cons_of_mem _ (wd_548))) (fun _ h => h) d_Ma_trapOf_164 ?_
                  refine v_goto S d_Ma_trapOf_167 (tgt := 173) (by decide) ?_
                  exact v_aret (ax 1) S hret hlocks d_Ma_trapOf_173
              · refine v_tswQ S (6 : Int32) (tgt := 193) d_Ma_trapOf_44 (by decide) (by decide) (off := 149) rfl (by decide) ?_ (fun h40 => ?_)
                · refine v_gets S (kc_zT hKK (i := 0) (by decide)) (S.2.2.2.2 _ (List.mem_cons_of_mem _ (wd_548))) (fun _ h => h) d_Ma_trapOf_193 ?_
                  exact v_aret (ax 1) S hret hlocks d_Ma_trapOf_196
                · refine v_tswD S (tgt := 193) d_Ma_trapOf_44 (by have nh8 := i32_ne (n := 5) h8 (by decide); have nh10 := i32_ne (n := 7) h10 (by decide); have nh14 := i32_ne (n := 8) h14 (by decide); have nh22 := i32_ne (n := 9) h22 (by decide); have nh30 := i32_ne (n := 10) h30 (by decide); have nh34 := i32_ne (n := 11) h34 (by decide); have nh40 := i32_ne (n := 6) h40 (by decide); omega) (by decide) ?_
                  refine v_gets S (kc_zT hKK (i := 0) (by decide)) (S.2.2.2.2 _ (List.mem_cons_of_mem _ (wd_548))) (fun _ h => h) d_Ma_trapOf_193 ?_
                  exact v_aret (ax 1) S hret hlocks d_Ma_trapOf_196
  · refine v_gets S (kc_zT hKK (i := 1) (by decide)) (S.2.2.2.2 _ (List.mem_cons_of_mem _ (wd_536))) (fun _ h => h) d_Ma_trapOf_22 ?_
    exact v_aret (ax 1) S hret hlocks d_Ma_trapOf_25
theorem rb_Ma_trapOf {σ : mm_M} {i0 : Nat} {r : Nat} {σ' : mm_M} (h : fn_Ma_trapOf σ i0 = some (r, σ')) : r < 6 := by
  unfold fn_Ma_trapOf at h
  try simp only [bd, bv, nm] at h
  repeat' (split at h)
  all_goals (first | (cases h; done) | (cases h; first | decide | exact ib (by assumption) | exact rb_Co_opAt (by assumption) | exact rb_Ma_elementTrap (by assumption) | exact rb_Ma_elementTrap (by assumption)))
def fn_Ma_jump (σ : mm_M) (i0 : Nat) (o1 : Nat) (a2 : Int32) : Option (mm_M) :=
    (if o1 = 7 then
    (nm (mw σ (19 + 2 * i0) 1 a2) (fun σ2 =>
    (some σ2)))
    else
    (bd (fn_Fr_pop σ i0) (fun r4 σ3 =>
    (if r4 = 0 then
    (nm (mw σ3 (19 + 2 * i0) 1 a2) (fun σ6 =>
    (some σ6)))
    else
    (some σ3)))))
set_option maxRecDepth 100000 in
set_option maxHeartbeats 40000000 in
theorem c_Ma_jump (l : Launch) (D : va_G) (ca : Nat → ClassId) (ax : Nat → Nat → Nat) (b : Nat) (σ : mm_M) (i0 : Nat) (o1 : Nat) (a2 : Int32) (hi0 : i0 < 8) (ho1 : o1 < 20) {σ' : mm_M} (hf : fn_Ma_jump σ i0 o1 a2 = some σ') : Met l y_Ma_jump w_Ma_jump rm_Ma_jump (pc_w D cls b N_C (ce_C ca b) (kC D ca ax b) [.ref (b + (19 + 2 * i0)), .ref (ax 0 o1), .int a2] σ) (qc_v D cls b N_C (ce_C ca b) σ') 0 0 (mm_A b N_C) := by
  refine vv_go (cc := b_Ma_jump) (maxL := 3) (ret := none) (fin := σ') (k := fn_Ma_jump σ i0 o1 a2) (by decide) rfl (by simp [Value.category]) (Nat.le_of_ble_eq_true rfl) hf ?_
  intro p e s m below meth c hlocks hret S hKK
  unfold fn_Ma_jump
  refine v_aload_n S d_Ma_jump_0 rfl rfl ?_
  refine v_gets S (kc_zO hKK (i := 7) (by decide)) (S.2.2.2.2 _ (List.mem_cons_of_mem _ (wd_641))) (fun _ h => h) d_Ma_jump_1 ?_
  refine v_acmp_eq S d_Ma_jump_4 (tgt := 14) (by decide) (op_inj hKK ho1 (by decide)) (fun h1 => ?_) (fun h1 => ?_)
  · refine v_aload_n S d_Ma_jump_14 rfl rfl ?_
    refine v_iload_n S d_Ma_jump_15 rfl rfl ?_
    refine v_puti S (fun w h => List.mem_cons_of_mem _ (i_Fr w h)) hKK.1 (19 + 2 * i0) (fr_lt hi0) (ce_fr hi0) rfl 1 (by decide) (S.2.2.2.2 _ (List.mem_cons_of_mem _ (wd_106))) (fun _ h => h) t_Fr t_Fr_ok n_Fr rfl (ty := .int) rfl rfl rfl (Nat.le_of_ble_eq_true rfl) (ce_frP hi0 1 (by decide)) d_Ma_jump_16 ?_
    refine v_sg (fun σ2 eσ2 => ?_)
    exact v_vret S hret hlocks d_Ma_jump_19
  · refine v_aload_n S d_Ma_jump_7 rfl rfl ?_
    refine v_ci (rest := []) (fun _ _ hg H locs ls hsz hP hS => run_V (As := []) (rest := []) S kC_ok hKK (c_Fr_pop l D ca ax b σ i0 hi0 hg) (k_Ma_179 S.2.2.2.2 (fun _ => List.mem_cons_of_mem _) ⟨Nat.le_of_ble_eq_true rfl, Nat.le_of_ble_eq_true rfl⟩) (rc_w hKK.1 hP (19 + 2 * i0) (fr_lt hi0) (ce_fr hi0) rfl) rfl rfl (Nat.zero_le _) d_Ma_jump_8 hsz hP hS) (fun r4 σ3 _ => ?_)
    refine v_if_ne S d_Ma_jump_11 (tgt := 19) (by decide) (fun h5 => ?_) (fun h5 => ?_)
    · exact v_vret S hret hlocks d_Ma_jump_19
    · refine v_aload_n S d_Ma_jump_14 rfl rfl ?_
      refine v_iload_n S d_Ma_jump_15 rfl rfl ?_
      refine v_puti S (fun w h => List.mem_cons_of_mem _ (i_Fr w h)) hKK.1 (19 + 2 * i0) (fr_lt hi0) (ce_fr hi0) rfl 1 (by decide) (S.2.2.2.2 _ (List.mem_cons_of_mem _ (wd_106))) (fun _ h => h) t_Fr t_Fr_ok n_Fr rfl (ty := .int) rfl rfl rfl (Nat.le_of_ble_eq_true rfl) (ce_frP hi0 1 (by decide)) d_Ma_jump_16 ?_
      refine v_sg (fun σ6 eσ6 => ?_)
      exact v_vret S hret hlocks d_Ma_jump_19
def fn_Ma_reckoned (σ : mm_M) (o0 : Nat) (a1 : Int32) (a2 : Int32) : Option (Int32 × mm_M) :=
    (if ((nI o0) < 0 ∨ 20 ≤ (nI o0).toNatClampNeg) then none else
    (if (sw_op (nI o0).toNatClampNeg) = (12 : Int32) then
    (some ((a1 + a2), σ))
    else
    (if (sw_op (nI o0).toNatClampNeg) = (13 : Int32) then
    (some ((a1 - a2), σ))
    else
    (if (sw_op (nI o0).toNatClampNeg) = (14 : Int32) then
    (some ((a1 * a2), σ))
    else
    (if a2 = 0 then
    (some ((0 : Int32), σ))
    else
    (if a2 = 0 then none else
    (some ((a1 / a2), σ))))))))
set_option maxRecDepth 100000 in
set_option maxHeartbeats 40000000 in
theorem c_Ma_reckoned (l : Launch) (D : va_G) (ca : Nat → ClassId) (ax : Nat → Nat → Nat) (b : Nat) (σ : mm_M) (o0 : Nat) (a1 : Int32) (a2 : Int32) (ho0 : o0 < 20) {r : Int32} {σ' : mm_M} (hf : fn_Ma_reckoned σ o0 a1 a2 = some (r, σ')) : Met l y_Ma_reckoned w_Ma_reckoned rm_Ma_reckoned (pc_w D cls b N_C (ce_C ca b) (kC D ca ax b) [.ref (ax 0 o0), .int a1, .int a2] σ) (qc_i D cls b N_C (ce_C ca b) r σ') 0 0 (mm_A b N_C) := by
  refine vv_go (cc := b_Ma_reckoned) (maxL := 3) (ret := (some .int)) (fin := (r, σ')) (k := fn_Ma_reckoned σ o0 a1 a2) (by decide) rfl (by simp [Value.category]) (Nat.le_of_ble_eq_true rfl) hf ?_
  intro p e s m below meth c hlocks hret S hKK
  unfold fn_Ma_reckoned
  refine v_gets S (kc_zOp hKK) (S.2.2.2.2 _ (List.mem_cons_of_mem _ (wd_538))) (fun _ h => h) d_Ma_reckoned_0 ?_
  refine v_aload_n S d_Ma_reckoned_3 rfl rfl ?_
  refine v_ordO (rest := [.ref (ax 3 0)]) S hKK ho0 (k_Ma_126 S.2.2.2.2 (fun _ => List.mem_cons_of_mem _) ⟨Nat.le_of_ble_eq_true rfl, Nat.le_of_ble_eq_true rfl⟩) (by simp [Value.category]) d_Ma_reckoned_4 ?_
  refine v_ti0 S (kc_swOp hKK) d_Ma_reckoned_7 (fun h1 => ?_)
  refine v_tsw S (12 : Int32) (tgt := 36) d_Ma_reckoned_8 (by decide) (by decide) (off := 28) rfl (by decide) (fun h2 => ?_) (fun h2 => ?_)
  · refine v_iload_n S d_Ma_reckoned_36 rfl rfl ?_
    refine v_iload_n S d_Ma_reckoned_37 rfl rfl ?_
    refine v_iadd S d_Ma_reckoned_38 ?_
    exact v_iret S hret hlocks d_Ma_reckoned_39
  · refine v_tsw S (13 : Int32) (tgt := 40) d_Ma_reckoned_8 (by decide) (by decide) (off := 32) rfl (by decide) (fun h3 => ?_) (fun h3 => ?_)
    · refine v_iload_n S d_Ma_reckoned_40 rfl rfl ?_
      refine v_iload_n S d_Ma_reckoned_41 rfl rfl ?_
      refine v_isub S d_Ma_reckoned_42 ?_
      exact v_iret S hret hlocks d_Ma_reckoned_43
    · refine v_tsw S (14 : Int32) (tgt := 44) d_Ma_reckoned_8 (by decide) (by decide) (off := 36) rfl (by decide) (fun h4 => ?_) (fun h4 => ?_)
      · refine v_iload_n S d_Ma_reckoned_44 rfl rfl ?_
        refine v_iload_n S d_Ma_reckoned_45 rfl rfl ?_
        refine v_imul S d_Ma_reckoned_46 ?_
        exact v_iret S hret hlocks d_Ma_reckoned_47
      · refine v_tswD S (tgt := 48) d_Ma_reckoned_8 (by have nh2 := i32_ne (n := 12) h2 (by decide); have nh3 := i32_ne (n := 13) h3 (by decide); have nh4 := i32_ne (n := 14) h4 (by decide); omega) (by decide) ?_
        refine v_iload_n S d_Ma_reckoned_48 rfl rfl ?_
        refine v_if_ne S d_Ma_reckoned_49 (tgt := 56) (by decide) (fun h5 => ?_) (fun h5 => ?_)
        · refine v_iload_n S d_Ma_reckoned_56 rfl rfl ?_
          refine v_iload_n S d_Ma_reckoned_57 rfl rfl ?_
          refine v_idiv S d_Ma_reckoned_58 (fun h6 => ?_)
          exact v_iret S hret hlocks d_Ma_reckoned_59
        · refine v_iconst S d_Ma_reckoned_52 (v := (0 : Int32)) (by decide) ?_
          refine v_goto S d_Ma_reckoned_53 (tgt := 59) (by decide) ?_
          exact v_iret S hret hlocks d_Ma_reckoned_59
def fn_Ma_reckon (σ : mm_M) (i0 : Nat) (o1 : Nat) : Option (mm_M) :=
    (bd (fn_Fr_pop σ i0) (fun r2 σ1 =>
    (bd (fn_Fr_pop σ1 i0) (fun r4 σ3 =>
    (bd (fn_Ma_reckoned σ3 o1 r4 r2) (fun r6 σ5 =>
    (bv (fn_Fr_push σ5 i0 (1 : Int32) r6) (fun σ7 =>
    (some σ7)))))))))
set_option maxRecDepth 100000 in
set_option maxHeartbeats 40000000 in
theorem c_Ma_reckon (l : Launch) (D : va_G) (ca : Nat → ClassId) (ax : Nat → Nat → Nat) (b : Nat) (σ : mm_M) (i0 : Nat) (o1 : Nat) (hi0 : i0 < 8) (ho1 : o1 < 20) {σ' : mm_M} (hf : fn_Ma_reckon σ i0 o1 = some σ') : Met l y_Ma_reckon w_Ma_reckon rm_Ma_reckon (pc_w D cls b N_C (ce_C ca b) (kC D ca ax b) [.ref (b + (19 + 2 * i0)), .ref (ax 0 o1)] σ) (qc_v D cls b N_C (ce_C ca b) σ') 0 0 (mm_A b N_C) := by
  refine vv_go (cc := b_Ma_reckon) (maxL := 4) (ret := none) (fin := σ') (k := fn_Ma_reckon σ i0 o1) (by decide) rfl (by simp [Value.category]) (Nat.le_of_ble_eq_true rfl) hf ?_
  intro p e s m below meth c hlocks hret S hKK
  unfold fn_Ma_reckon
  refine v_aload_n S d_Ma_reckon_0 rfl rfl ?_
  refine v_ci (rest := []) (fun _ _ hg H locs ls hsz hP hS => run_V (As := []) (rest := []) S kC_ok hKK (c_Fr_pop l D ca ax b σ i0 hi0 hg) (k_Ma_179 S.2.2.2.2 (fun _ => List.mem_cons_of_mem _) ⟨Nat.le_of_ble_eq_true rfl, Nat.le_of_ble_eq_true rfl⟩) (rc_w hKK.1 hP (19 + 2 * i0) (fr_lt hi0) (ce_fr hi0) rfl) rfl rfl (Nat.zero_le _) d_Ma_reckon_1 hsz hP hS) (fun r2 σ1 _ => ?_)
  refine v_istore_nP S d_Ma_reckon_4 rfl (by decide) (L2 := [some (.ref (b + (19 + 2 * i0))), some (.ref (ax 0 o1)), some (.int r2)]) rfl ?_
  refine v_aload_n S d_Ma_reckon_5 rfl rfl ?_
  refine v_ci (rest := []) (fun _ _ hg H locs ls hsz hP hS => run_V (As := []) (rest := []) S kC_ok hKK (c_Fr_pop l D ca ax b σ1 i0 hi0 hg) (k_Ma_179 S.2.2.2.2 (fun _ => List.mem_cons_of_mem _) ⟨Nat.le_of_ble_eq_true rfl, Nat.le_of_ble_eq_true rfl⟩) (rc_w hKK.1 hP (19 + 2 * i0) (fr_lt hi0) (ce_fr hi0) rfl) rfl rfl (Nat.zero_le _) d_Ma_reckon_6 hsz hP hS) (fun r4 σ3 _ => ?_)
  refine v_istore_nP S d_Ma_reckon_9 rfl (by decide) (L2 := [some (.ref (b + (19 + 2 * i0))), some (.ref (ax 0 o1)), some (.int r2), some (.int r4)]) rfl ?_
  refine v_aload_n S d_Ma_reckon_10 rfl rfl ?_
  refine v_iconst S d_Ma_reckon_11 (v := (1 : Int32)) (by decide) ?_
  refine v_aload_n S d_Ma_reckon_12 rfl rfl ?_
  refine v_iload_n S d_Ma_reckon_13 rfl rfl ?_
  refine v_iload_n S d_Ma_reckon_14 rfl rfl ?_
  refine v_ci (rest := [.int (1 : Int32), .ref (b + (19 + 2 * i0))]) (fun _ _ hg H locs ls hsz hP hS => run_S (As := [.ref (ax 0 o1), .int r4, .int r2]) (rest := [.int (1 : Int32), .ref (b + (19 + 2 * i0))]) S kC_ok hKK (c_Ma_reckoned l D ca ax b σ3 o1 r4 r2 ho1 hg) (k_Ma_200 S.2.2.2.2 (fun _ => List.mem_cons_of_mem _) ⟨Nat.le_of_ble_eq_true rfl, Nat.le_of_ble_eq_true rfl⟩) rfl rfl (by simp [Value.category]) d_Ma_reckon_15 hsz hP hS) (fun r6 σ5 _ => ?_)
  refine v_cv (rest := []) (fun _ hg H locs ls hsz hP hS => run_V (As := [.int (1 : Int32), .int r6]) (rest := []) S kC_ok hKK (c_Fr_push l D ca ax b σ5 i0 (1 : Int32) r6 hi0 hg) (k_Ma_204 S.2.2.2.2 (fun _ => List.mem_cons_of_mem _) ⟨Nat.le_of_ble_eq_true rfl, Nat.le_of_ble_eq_true rfl⟩) (rc_w hKK.1 hP (19 + 2 * i0) (fr_lt hi0) (ce_fr hi0) rfl) rfl rfl (Nat.zero_le _) d_Ma_reckon_18 hsz hP hS) (fun σ7 _ => ?_)
  exact v_vret S hret hlocks d_Ma_reckon_21
def fn_Ma_makeArray_13 (a0 : Int32) : Nat → mm_M → Int32 → Int32 → Option (Int32 × mm_M)
  | 0, _, _, _ => none
  | n + 1, σ, l2, l3 =>
    (if a0 ≤ l3 then
    (nm (mw σ 16 1 ((σ 16 1) + a0)) (fun σ3 =>
    (some (l2, σ3))))
    else
    (if (((σ 16 1) + l3) < 0 ∨ 30 ≤ ((σ 16 1) + l3).toNatClampNeg) then none else (nm (mw σ 17 ((σ 16 1) + l3).toNatClampNeg (0 : Int32)) (fun σ5 =>
    (fn_Ma_makeArray_13 a0 n σ5 l2 (l3 + (1 : Int32)))))))
def fn_Ma_makeArray (σ : mm_M) (a0 : Int32) : Option (Int32 × mm_M) :=
    (nm (((1 : Int32) + ((σ 16 1) <<< ((4 : Int32) &&& 31))) + a0) (fun x1 =>
    (fn_Ma_makeArray_13 a0 fuel0 σ x1 (0 : Int32))))
set_option maxRecDepth 100000 in
set_option maxHeartbeats 40000000 in
theorem c_Ma_makeArray (l : Launch) (D : va_G) (ca : Nat → ClassId) (ax : Nat → Nat → Nat) (b : Nat) (σ : mm_M) (a0 : Int32)  {r : Int32} {σ' : mm_M} (hf : fn_Ma_makeArray σ a0 = some (r, σ')) : Met l y_Ma_makeArray w_Ma_makeArray rm_Ma_makeArray (pc_w D cls b N_C (ce_C ca b) (kC D ca ax b) [.ref (b + 16), .int a0] σ) (qc_i D cls b N_C (ce_C ca b) r σ') 0 0 (mm_A b N_C) := by
  refine vv_go (cc := b_Ma_makeArray) (maxL := 4) (ret := (some .int)) (fin := (r, σ')) (k := fn_Ma_makeArray σ a0) (by decide) rfl (by simp [Value.category]) (Nat.le_of_ble_eq_true rfl) hf ?_
  intro p e s m below meth c hlocks hret S hKK
  have C13 : ∀ (n : Nat) (σ : mm_M) (l2 : Int32) (l3 : Int32), vv p l e (headSpec w_Ma_makeArray rm_Ma_makeArray).room s m [.ref (b + 16), .int a0].toArray below meth c D cls b N_C (ce_C ca b) 4 (MQ below (qc_i D cls b N_C (ce_C ca b) r σ') [.ref (b + 16), .int a0].toArray s 0 0 (mm_A b N_C)) (r, σ') (fn_Ma_makeArray_13 a0 n σ l2 l3) σ 13 [some (.ref (b + 16)), some (.int a0), some (.int l2), some (.int l3)] [] := by
    intro n
    induction n with
    | zero => intro σ l2 l3  h; cases h
    | succ n ih =>
      intro σ l2 l3
      show vv p l e (headSpec w_Ma_makeArray rm_Ma_makeArray).room s m [.ref (b + 16), .int a0].toArray below meth c D cls b N_C (ce_C ca b) 4 (MQ below (qc_i D cls b N_C (ce_C ca b) r σ') [.ref (b + 16), .int a0].toArray s 0 0 (mm_A b N_C)) (r, σ') (        (if a0 ≤ l3 then
        (nm (mw σ 16 1 ((σ 16 1) + a0)) (fun σ3 =>
        (some (l2, σ3))))
        else
        (if (((σ 16 1) + l3) < 0 ∨ 30 ≤ ((σ 16 1) + l3).toNatClampNeg) then none else (nm (mw σ 17 ((σ 16 1) + l3).toNatClampNeg (0 : Int32)) (fun σ5 =>
        (fn_Ma_makeArray_13 a0 n σ5 l2 (l3 + (1 : Int32)))))))) σ 13 [some (.ref (b + 16)), some (.int a0), some (.int l2), some (.int l3)] []
      refine v_iload_n S d_Ma_makeArray_13 rfl rfl ?_
      refine v_iload_n S d_Ma_makeArray_14 rfl rfl ?_
      refine v_icmp_ge S d_Ma_makeArray_15 (tgt := 36) (by decide) (fun h2 => ?_) (fun h2 => ?_)
      · refine v_aload_n S d_Ma_makeArray_36 rfl rfl ?_
        refine v_dup S d_Ma_makeArray_37 rfl ?_
        refine v_get S (fun w h => List.mem_cons_of_mem _ (i_Ma w h)) hKK.1 16 (by decide) rfl rfl 1 (by decide) (S.2.2.2.2 _ (List.mem_cons_of_mem _ (wd_123))) (fun _ h => h) rfl d_Ma_makeArray_38 ?_
        refine v_iload_n S d_Ma_makeArray_41 rfl rfl ?_
        refine v_iadd S d_Ma_makeArray_42 ?_
        refine v_puti S (fun w h => List.mem_cons_of_mem _ (i_Ma w h)) hKK.1 16 (by decide) rfl rfl 1 (by decide) (S.2.2.2.2 _ (List.mem_cons_of_mem _ (wd_123))) (fun _ h => h) t_Ma t_Ma_ok n_Ma rfl (ty := .int) rfl rfl rfl (Nat.le_of_ble_eq_true rfl) rfl d_Ma_makeArray_43 ?_
        refine v_sg (fun σ3 eσ3 => ?_)
        refine v_iload_n S d_Ma_makeArray_46 rfl rfl ?_
        exact v_iret S hret hlocks d_Ma_makeArray_47
      · refine v_aload_n S d_Ma_makeArray_18 rfl rfl ?_
        refine v_get S (fun w h => List.mem_cons_of_mem _ (i_Ma w h)) hKK.1 16 (by decide) rfl rfl 5 (by decide) (S.2.2.2.2 _ (List.mem_cons_of_mem _ (wd_129))) (fun _ h => h) rfl d_Ma_makeArray_19 ?_
        refine v_aload_n S d_Ma_makeArray_22 rfl rfl ?_
        refine v_get S (fun w h => List.mem_cons_of_mem _ (i_Ma w h)) hKK.1 16 (by decide) rfl rfl 1 (by decide) (S.2.2.2.2 _ (List.mem_cons_of_mem _ (wd_123))) (fun _ h => h) rfl d_Ma_makeArray_23 ?_
        refine v_iload_n S d_Ma_makeArray_26 rfl rfl ?_
        refine v_iadd S d_Ma_makeArray_27 ?_
        refine v_iconst S d_Ma_makeArray_28 (v := (0 : Int32)) (by decide) ?_
        refine v_iast1 S hKK.1 17 0 (by decide) (fun _ => rfl) rfl d_Ma_makeArray_29 (fun h4 => ?_)
        refine v_sg (fun σ5 eσ5 => ?_)
        refine v_iinc S d_Ma_makeArray_30 rfl (v := (l3 + (1 : Int32))) (by first | rfl | decide) (by decide) (L2 := [some (.ref (b + 16)), some (.int a0), some (.int l2), some (.int (l3 + (1 : Int32)))]) rfl ?_
        refine v_goto S d_Ma_makeArray_33 (tgt := 13) (by decide) ?_
        refine v_sub (L2 := [some (.ref (b + 16)), some (.int a0), some (.int l2), some (.int (l3 + (1 : Int32)))]) (And.intro rfl (And.intro rfl (And.intro rfl (And.intro rfl True.intro)))) ?_
        exact ih σ5 l2 (l3 + (1 : Int32))
  unfold fn_Ma_makeArray
  refine v_iconst S d_Ma_makeArray_0 (v := (1 : Int32)) (by decide) ?_
  refine v_aload_n S d_Ma_makeArray_1 rfl rfl ?_
  refine v_get S (fun w h => List.mem_cons_of_mem _ (i_Ma w h)) hKK.1 16 (by decide) rfl rfl 1 (by decide) (S.2.2.2.2 _ (List.mem_cons_of_mem _ (wd_123))) (fun _ h => h) rfl d_Ma_makeArray_2 ?_
  refine v_iconst S d_Ma_makeArray_5 (v := (4 : Int32)) (by decide) ?_
  refine v_ishl S d_Ma_makeArray_6 ?_
  refine v_iadd S d_Ma_makeArray_7 ?_
  refine v_iload_n S d_Ma_makeArray_8 rfl rfl ?_
  refine v_iadd S d_Ma_makeArray_9 ?_
  refine v_top (fun x1 ex1 => ?_)
  refine v_istore_nP S d_Ma_makeArray_10 rfl (by decide) (L2 := [some (.ref (b + 16)), some (.int a0), some (.int x1)]) rfl ?_
  refine v_iconst S d_Ma_makeArray_11 (v := (0 : Int32)) (by decide) ?_
  refine v_istore_nP S d_Ma_makeArray_12 rfl (by decide) (L2 := [some (.ref (b + 16)), some (.int a0), some (.int x1), some (.int (0 : Int32))]) rfl ?_
  refine v_sub (L2 := [some (.ref (b + 16)), some (.int a0), some (.int x1), some (.int (0 : Int32))]) (And.intro rfl (And.intro rfl (And.intro rfl (And.intro rfl True.intro)))) ?_
  exact C13 fuel0 σ x1 (0 : Int32)
def fn_Ma_placeOf (σ : mm_M) (a0 : Int32) (a1 : Int32) : Option (Int32 × mm_M) :=
    (some ((((a0 - (1 : Int32)) >>> ((4 : Int32) &&& 31)) + a1), σ))
set_option maxRecDepth 100000 in
set_option maxHeartbeats 40000000 in
theorem c_Ma_placeOf (l : Launch) (D : va_G) (ca : Nat → ClassId) (ax : Nat → Nat → Nat) (b : Nat) (σ : mm_M) (a0 : Int32) (a1 : Int32)  {r : Int32} {σ' : mm_M} (hf : fn_Ma_placeOf σ a0 a1 = some (r, σ')) : Met l y_Ma_placeOf w_Ma_placeOf rm_Ma_placeOf (pc_w D cls b N_C (ce_C ca b) (kC D ca ax b) [.int a0, .int a1] σ) (qc_i D cls b N_C (ce_C ca b) r σ') 0 0 (mm_A b N_C) := by
  refine vv_go (cc := b_Ma_placeOf) (maxL := 2) (ret := (some .int)) (fin := (r, σ')) (k := fn_Ma_placeOf σ a0 a1) (by decide) rfl (by simp [Value.category]) (Nat.le_of_ble_eq_true rfl) hf ?_
  intro p e s m below meth c hlocks hret S hKK
  unfold fn_Ma_placeOf
  refine v_iload_n S d_Ma_placeOf_0 rfl rfl ?_
  refine v_iconst S d_Ma_placeOf_1 (v := (1 : Int32)) (by decide) ?_
  refine v_isub S d_Ma_placeOf_2 ?_
  refine v_iconst S d_Ma_placeOf_3 (v := (4 : Int32)) (by decide) ?_
  refine v_ishr S d_Ma_placeOf_4 ?_
  refine v_iload_n S d_Ma_placeOf_5 rfl rfl ?_
  refine v_iadd S d_Ma_placeOf_6 ?_
  exact v_iret S hret hlocks d_Ma_placeOf_7
end
section
/-! contracts of 10.machine; written by wip/whole/make.py -/
def fn_Ma_useArray (σ : mm_M) (i0 : Nat) (o1 : Nat) : Option (mm_M) :=
    (if ((nI o1) < 0 ∨ 20 ≤ (nI o1).toNatClampNeg) then none else
    (if (sw_op (nI o1).toNatClampNeg) = (8 : Int32) then
    (bd (fn_Fr_pop σ i0) (fun r4 σ3 =>
    (bd (fn_Fr_pop σ3 i0) (fun r6 σ5 =>
    (bd (fn_Ma_placeOf σ5 r6 r4) (fun r8 σ7 =>
    (if (r8 < 0 ∨ 30 ≤ r8.toNatClampNeg) then none else
    (bv (fn_Fr_push σ7 i0 (1 : Int32) (σ7 17 r8.toNatClampNeg)) (fun σ10 =>
    (some σ10))))))))))
    else
    (if (sw_op (nI o1).toNatClampNeg) = (10 : Int32) then
    (bd (fn_Fr_pop σ i0) (fun r13 σ12 =>
    (bd (fn_Ma_lengthOf σ12 r13) (fun r15 σ14 =>
    (bv (fn_Fr_push σ14 i0 (1 : Int32) r15) (fun σ16 =>
    (some σ16)))))))
    else
    (if (sw_op (nI o1).toNatClampNeg) = (11 : Int32) then
    (bd (fn_Fr_pop σ i0) (fun r19 σ18 =>
    (bd (fn_Ma_makeArray σ18 r19) (fun r21 σ20 =>
    (bv (fn_Fr_push σ20 i0 (2 : Int32) r21) (fun σ22 =>
    (some σ22)))))))
    else
    (bd (fn_Fr_pop σ i0) (fun r25 σ24 =>
    (bd (fn_Fr_pop σ24 i0) (fun r27 σ26 =>
    (bd (fn_Fr_pop σ26 i0) (fun r29 σ28 =>
    (bd (fn_Ma_placeOf σ28 r29 r27) (fun r31 σ30 =>
    (if (r31 < 0 ∨ 30 ≤ r31.toNatClampNeg) then none else (nm (mw σ30 17 r31.toNatClampNeg r25) (fun σ33 =>
    (some σ33))))))))))))))))
set_option maxRecDepth 100000 in
set_option maxHeartbeats 40000000 in
theorem c_Ma_useArray (l : Launch) (D : va_G) (ca : Nat → ClassId) (ax : Nat → Nat → Nat) (b : Nat) (σ : mm_M) (i0 : Nat) (o1 : Nat) (hi0 : i0 < 8) (ho1 : o1 < 20) {σ' : mm_M} (hf : fn_Ma_useArray σ i0 o1 = some σ') : Met l y_Ma_useArray w_Ma_useArray rm_Ma_useArray (pc_w D cls b N_C (ce_C ca b) (kC D ca ax b) [.ref (b + 16), .ref (b + (19 + 2 * i0)), .ref (ax 0 o1)] σ) (qc_v D cls b N_C (ce_C ca b) σ') 0 0 (mm_A b N_C) := by
  refine vv_go (cc := b_Ma_useArray) (maxL := 6) (ret := none) (fin := σ') (k := fn_Ma_useArray σ i0 o1) (by decide) rfl (by simp [Value.category]) (Nat.le_of_ble_eq_true rfl) hf ?_
  intro p e s m below meth c hlocks hret S hKK
  unfold fn_Ma_useArray
  refine v_gets S (kc_zOp hKK) (S.2.2.2.2 _ (List.mem_cons_of_mem _ (wd_538))) (fun _ h => h) d_Ma_useArray_0 ?_
  refine v_aload_n S d_Ma_useArray_3 rfl rfl ?_
  refine v_ordO (rest := [.ref (ax 3 0)]) S hKK ho1 (k_Ma_126 S.2.2.2.2 (fun _ => List.mem_cons_of_mem _) ⟨Nat.le_of_ble_eq_true rfl, Nat.le_of_ble_eq_true rfl⟩) (by simp [Value.category]) d_Ma_useArray_4 ?_
  refine v_ti0 S (kc_swOp hKK) d_Ma_useArray_7 (fun h1 => ?_)
  refine v_tsw S (8 : Int32) (tgt := 71) d_Ma_useArray_8 (by decide) (by decide) (off := 63) rfl (by decide) (fun h2 => ?_) (fun h2 => ?_)
  · refine v_aload_n S d_Ma_useArray_71 rfl rfl ?_
    refine v_ci (rest := []) (fun _ _ hg H locs ls hsz hP hS => run_V (As := []) (rest := []) S kC_ok hKK (c_Fr_pop l D ca ax b σ i0 hi0 hg) (k_Ma_179 S.2.2.2.2 (fun _ => List.mem_cons_of_mem _) ⟨Nat.le_of_ble_eq_true rfl, Nat.le_of_ble_eq_true rfl⟩) (rc_w hKK.1 hP (19 + 2 * i0) (fr_lt hi0) (ce_fr hi0) rfl) rfl rfl (Nat.zero_le _) d_Ma_useArray_72 hsz hP hS) (fun r4 σ3 _ => ?_)
    refine v_istore_nP S d_Ma_useArray_75 rfl (by decide) (L2 := [some (.ref (b + 16)), some (.ref (b + (19 + 2 * i0))), some (.ref (ax 0 o1)), some (.int r4)]) rfl ?_
    refine v_aload_n S d_Ma_useArray_76 rfl rfl ?_
    refine v_iconst S d_Ma_useArray_77 (v := (1 : Int32)) (by decide) ?_
    refine v_aload_n S d_Ma_useArray_78 rfl rfl ?_
    refine v_get S (fun w h => List.mem_cons_of_mem _ (i_Ma w h)) hKK.1 16 (by decide) rfl rfl 5 (by decide) (S.2.2.2.2 _ (List.mem_cons_of_mem _ (wd_129))) (fun _ h => h) rfl d_Ma_useArray_79 ?_
    refine v_aload_n S d_Ma_useArray_82 rfl rfl ?_
    refine v_ci (rest := [.ref (b + 17), .int (1 : Int32), .ref (b + (19 + 2 * i0))]) (fun _ _ hg H locs ls hsz hP hS => run_V (As := []) (rest := [.ref (b + 17), .int (1 : Int32), .ref (b + (19 + 2 * i0))]) S kC_ok hKK (c_Fr_pop l D ca ax b σ3 i0 hi0 hg) (k_Ma_179 S.2.2.2.2 (fun _ => List.mem_cons_of_mem _) ⟨Nat.le_of_ble_eq_true rfl, Nat.le_of_ble_eq_true rfl⟩) (rc_w hKK.1 hP (19 + 2 * i0) (fr_lt hi0) (ce_fr hi0) rfl) rfl rfl (by simp [Value.category]) d_Ma_useArray_83 hsz hP hS) (fun r6 σ5 _ => ?_)
    refine v_iload_n S d_Ma_useArray_86 rfl rfl ?_
    refine v_ci (rest := [.ref (b + 17), .int (1 : Int32), .ref (b + (19 + 2 * i0))]) (fun _ _ hg H locs ls hsz hP hS => run_S (As := [.int r6, .int r4]) (rest := [.ref (b + 17), .int (1 : Int32), .ref (b + (19 + 2 * i0))]) S kC_ok hKK (c_Ma_placeOf l D ca ax b σ5 r6 r4 hg) (k_Ma_210 S.2.2.2.2 (fun _ => List.mem_cons_of_mem _) ⟨Nat.le_of_ble_eq_true rfl, Nat.le_of_ble_eq_true rfl⟩) rfl rfl (by simp [Value.category]) d_Ma_useArray_87 hsz hP hS) (fun r8 σ7 _ => ?_)
    refine v_iald S hKK.1 17 0 (by decide) rfl rfl d_Ma_useArray_90 (fun h9 => ?_)
    refine v_cv (rest := []) (fun _ hg H locs ls hsz hP hS => run_V (As := [.int (1 : Int32), .int (σ7 17 r8.toNatClampNeg)]) (rest := []) S kC_ok hKK (c_Fr_push l D ca ax b σ7 i0 (1 : Int32) (σ7 17 r8.toNatClampNeg) hi0 hg) (k_Ma_204 S.2.2.2.2 (fun _ => List.mem_cons_of_mem _) ⟨Nat.le_of_ble_eq_true rfl, Nat.le_of_ble_eq_true rfl⟩) (rc_w hKK.1 hP (19 + 2 * i0) (fr_lt hi0) (ce_fr hi0) rfl) rfl rfl (Nat.zero_le _) d_Ma_useArray_91 hsz hP hS) (fun σ10 _ => ?_)
    refine v_goto S d_Ma_useArray_94 (tgt := 125) (by decide) ?_
    exact v_vret S hret hlocks d_Ma_useArray_125
  · refine v_tsw S (10 : Int32) (tgt := 56) d_Ma_useArray_8 (by decide) (by decide) (off := 48) rfl (by decide) (fun h11 => ?_) (fun h11 => ?_)
    · refine v_aload_n S d_Ma_useArray_56 rfl rfl ?_
      refine v_iconst S d_Ma_useArray_57 (v := (1 : Int32)) (by decide) ?_
      refine v_aload_n S d_Ma_useArray_58 rfl rfl ?_
      refine v_ci (rest := [.int (1 : Int32), .ref (b + (19 + 2 * i0))]) (fun _ _ hg H locs ls hsz hP hS => run_V (As := []) (rest := [.int (1 : Int32), .ref (b + (19 + 2 * i0))]) S kC_ok hKK (c_Fr_pop l D ca ax b σ i0 hi0 hg) (k_Ma_179 S.2.2.2.2 (fun _ => List.mem_cons_of_mem _) ⟨Nat.le_of_ble_eq_true rfl, Nat.le_of_ble_eq_true rfl⟩) (rc_w hKK.1 hP (19 + 2 * i0) (fr_lt hi0) (ce_fr hi0) rfl) rfl rfl (by simp [Value.category]) d_Ma_useArray_59 hsz hP hS) (fun r13 σ12 _ => ?_)
      refine v_ci (rest := [.int (1 : Int32), .ref (b + (19 + 2 * i0))]) (fun _ _ hg H locs ls hsz hP hS => run_S (As := [.int r13]) (rest := [.int (1 : Int32), .ref (b + (19 + 2 * i0))]) S kC_ok hKK (c_Ma_lengthOf l D ca ax b σ12 r13 hg) (k_Ma_150 S.2.2.2.2 (fun _ => List.mem_cons_of_mem _) ⟨Nat.le_of_ble_eq_true rfl, Nat.le_of_ble_eq_true rfl⟩) rfl rfl (by simp [Value.category]) d_Ma_useArray_62 hsz hP hS) (fun r15 σ14 _ => ?_)
      refine v_cv (rest := []) (fun _ hg H locs ls hsz hP hS => run_V (As := [.int (1 : Int32), .int r15]) (rest := []) S kC_ok hKK (c_Fr_push l D ca ax b σ14 i0 (1 : Int32) r15 hi0 hg) (k_Ma_204 S.2.2.2.2 (fun _ => List.mem_cons_of_mem _) ⟨Nat.le_of_ble_eq_true rfl, Nat.le_of_ble_eq_true rfl⟩) (rc_w hKK.1 hP (19 + 2 * i0) (fr_lt hi0) (ce_fr hi0) rfl) rfl rfl (Nat.zero_le _) d_Ma_useArray_65 hsz hP hS) (fun σ16 _ => ?_)
      refine v_goto S d_Ma_useArray_68 (tgt := 125) (by decide) ?_
      exact v_vret S hret hlocks d_Ma_useArray_125
    · refine v_tsw S (11 : Int32) (tgt := 40) d_Ma_useArray_8 (by decide) (by decide) (off := 32) rfl (by decide) (fun h17 => ?_) (fun h17 => ?_)
      · refine v_aload_n S d_Ma_useArray_40 rfl rfl ?_
        refine v_iconst S d_Ma_useArray_41 (v := (2 : Int32)) (by decide) ?_
        refine v_aload_n S d_Ma_useArray_42 rfl rfl ?_
        refine v_aload_n S d_Ma_useArray_43 rfl rfl ?_
        refine v_ci (rest := [.ref (b + 16), .int (2 : Int32), .ref (b + (19 + 2 * i0))]) (fun _ _ hg H locs ls hsz hP hS => run_V (As := []) (rest := [.ref (b + 16), .int (2 : Int32), .ref (b + (19 + 2 * i0))]) S kC_ok hKK (c_Fr_pop l D ca ax b σ i0 hi0 hg) (k_Ma_179 S.2.2.2.2 (fun _ => List.mem_cons_of_mem _) ⟨Nat.le_of_ble_eq_true rfl, Nat.le_of_ble_eq_true rfl⟩) (rc_w hKK.1 hP (19 + 2 * i0) (fr_lt hi0) (ce_fr hi0) rfl) rfl rfl (by simp [Value.category]) d_Ma_useArray_44 hsz hP hS) (fun r19 σ18 _ => ?_)
        refine v_ci (rest := [.int (2 : Int32), .ref (b + (19 + 2 * i0))]) (fun _ _ hg H locs ls hsz hP hS => run_V (As := [.int r19]) (rest := [.int (2 : Int32), .ref (b + (19 + 2 * i0))]) S kC_ok hKK (c_Ma_makeArray l D ca ax b σ18 r19 hg) (k_Ma_207 S.2.2.2.2 (fun _ => List.mem_cons_of_mem _) ⟨Nat.le_of_ble_eq_true rfl, Nat.le_of_ble_eq_true rfl⟩) (rc_w hKK.1 hP 16 (by decide) rfl rfl) rfl rfl (by simp [Value.category]) d_Ma_useArray_47 hsz hP hS) (fun r21 σ20 _ => ?_)
        refine v_cv (rest := []) (fun _ hg H locs ls hsz hP hS => run_V (As := [.int (2 : Int32), .int r21]) (rest := []) S kC_ok hKK (c_Fr_push l D ca ax b σ20 i0 (2 : Int32) r21 hi0 hg) (k_Ma_204 S.2.2.2.2 (fun _ => List.mem_cons_of_mem _) ⟨Nat.le_of_ble_eq_true rfl, Nat.le_of_ble_eq_true rfl⟩) (rc_w hKK.1 hP (19 + 2 * i0) (fr_lt hi0) (ce_fr hi0) rfl) rfl rfl (Nat.zero_le _) d_Ma_useArray_50 hsz hP hS) (fun σ22 _ => ?_)
        refine v_goto S d_Ma_useArray_53 (tgt := 125) (by decide) ?_
        exact v_vret S hret hlocks d_Ma_useArray_125
      · refine v_tswQ S (9 : Int32) (tgt := 97) d_Ma_useArray_8 (by decide) (by decide) (off := 89) rfl (by decide) ?_ (fun h23 => ?_)
        · refine v_aload_n S d_Ma_useArray_97 rfl rfl ?_
          refine v_ci (rest := []) (fun _ _ hg H locs ls hsz hP hS => run_V (As := []) (rest := []) S kC_ok hKK (c_Fr_pop l D ca ax b σ i0 hi0 hg) (k_Ma_179 S.2.2.2.2 (fun _ => List.mem_cons_of_mem _) ⟨Nat.le_of_ble_eq_true rfl, Nat.le_of_ble_eq_true rfl⟩) (rc_w hKK.1 hP (19 + 2 * i0) (fr_lt hi0) (ce_fr hi0) rfl) rfl rfl (Nat.zero_le _) d_Ma_useArray_98 hsz hP hS) (fun r25 σ24 _ => ?_)
          refine v_istoreP S d_Ma_useArray_101 (by decide) (L2 := [some (.ref (b + 16)), some (.ref (b + (19 + 2 * i0))), some (.ref (ax 0 o1)), none, some (.int r25)]) rfl ?_
          refine v_aload_n S d_Ma_useArray_103 rfl rfl ?_
          refine v_ci (rest := []) (fun _ _ hg H locs ls hsz hP hS => run_V (As := []) (rest := []) S kC_ok hKK (c_Fr_pop l D ca ax b σ24 i0 hi0 hg) (k_Ma_179 S.2.2.2.2 (fun _ => List.mem_cons_of_mem _) ⟨Nat.le_of_ble_eq_true rfl, Nat.le_of_ble_eq_true rfl⟩) (rc_w hKK.1 hP (19 + 2 * i0) (fr_lt hi0) (ce_fr hi0) rfl) rfl rfl (Nat.zero_le _) d_Ma_useArray_104 hsz hP hS) (fun r27 σ26 _ => ?_)
          refine v_istoreP S d_Ma_useArray_107 (by decide) (L2 := [some (.ref (b + 16)), some (.ref (b + (19 + 2 * i0))), some (.ref (ax 0 o1)), none, some (.int r25), some (.int r27)]) rfl ?_
          refine v_aload_n S d_Ma_useArray_109 rfl rfl ?_
          refine v_get S (fun w h => List.mem_cons_of_mem _ (i_Ma w h)) hKK.1 16 (by decide) rfl rfl 5 (by decide) (S.2.2.2.2 _ (List.mem_cons_of_mem _ (wd_129))) (fun _ h => h) rfl d_Ma_useArray_110 ?_
          refine v_aload_n S d_Ma_useArray_113 rfl rfl ?_
          refine v_ci (rest := [.ref (b + 17)]) (fun _ _ hg H locs ls hsz hP hS => run_V (As := []) (rest := [.ref (b + 17)]) S kC_ok hKK (c_Fr_pop l D ca ax b σ26 i0 hi0 hg) (k_Ma_179 S.2.2.2.2 (fun _ => List.mem_cons_of_mem _) ⟨Nat.le_of_ble_eq_true rfl, Nat.le_of_ble_eq_true rfl⟩) (rc_w hKK.1 hP (19 + 2 * i0) (fr_lt hi0) (ce_fr hi0) rfl) rfl rfl (by simp [Value.category]) d_Ma_useArray_114 hsz hP hS) (fun r29 σ28 _ => ?_)
          refine v_iload S d_Ma_useArray_117 rfl ?_
          refine v_ci (rest := [.ref (b + 17)]) (fun _ _ hg H locs ls hsz hP hS => run_S (As := [.int r29, .int r27]) (rest := [.ref (b + 17)]) S kC_ok hKK (c_Ma_placeOf l D ca ax b σ28 r29 r27 hg) (k_Ma_210 S.2.2.2.2 (fun _ => List.mem_cons_of_mem _) ⟨Nat.le_of_ble_eq_true rfl, Nat.le_of_ble_eq_true rfl⟩) rfl rfl (by simp [Value.category]) d_Ma_useArray_119 hsz hP hS) (fun r31 σ30 _ => ?_)
          refine v_iload S d_Ma_useArray_122 rfl ?_
          refine v_iast1 S hKK.1 17 0 (by decide) (fun _ => rfl) rfl d_Ma_useArray_124 (fun h32 => ?_)
          refine v_sg (fun σ33 eσ33 => ?_)
          exact v_vret S hret hlocks d_Ma_useArray_125
        · refine v_tswD S (tgt := 97) d_Ma_useArray_8 (by have nh2 := i32_ne (n := 8) h2 (by decide); have nh11 := i32_ne (n := 10) h11 (by decide); have nh17 := i32_ne (n := 11) h17 (by decide); have nh23 := i32_ne (n := 9) h23 (by decide); omega) (by decide) ?_
          refine v_aload_n S d_Ma_useArray_97 rfl rfl ?_
          refine v_ci (rest := []) (fun _ _ hg H locs ls hsz hP hS => run_V (As := []) (rest := []) S kC_ok hKK (c_Fr_pop l D ca ax b σ i0 hi0 hg) (k_Ma_179 S.2.2.2.2 (fun _ => List.mem_cons_of_mem _) ⟨Nat.le_of_ble_eq_true rfl, Nat.le_of_ble_eq_true rfl⟩) (rc_w hKK.1 hP (19 + 2 * i0) (fr_lt hi0) (ce_fr hi0) rfl) rfl rfl (Nat.zero_le _) d_Ma_useArray_98 hsz hP hS) (fun r25 σ24 _ => ?_)
          refine v_istoreP S d_Ma_useArray_101 (by decide) (L2 := [some (.ref (b + 16)), some (.ref (b + (19 + 2 * i0))), some (.ref (ax 0 o1)), none, some (.int r25)]) rfl ?_
          refine v_aload_n S d_Ma_useArray_103 rfl rfl ?_
          refine v_ci (rest := []) (fun _ _ hg H locs ls hsz hP hS => run_V (As := []) (rest := []) S kC_ok hKK (c_Fr_pop l D ca ax b σ24 i0 hi0 hg) (k_Ma_179 S.2.2.2.2 (fun _ => List.mem_cons_of_mem _) ⟨Nat.le_of_ble_eq_true rfl, Nat.le_of_ble_eq_true rfl⟩) (rc_w hKK.1 hP (19 + 2 * i0) (fr_lt hi0) (ce_fr hi0) rfl) rfl rfl (Nat.zero_le _) d_Ma_useArray_104 hsz hP hS) (fun r27 σ26 _ => ?_)
          refine v_istoreP S d_Ma_useArray_107 (by decide) (L2 := [some (.ref (b + 16)), some (.ref (b + (19 + 2 * i0))), some (.ref (ax 0 o1)), none, some (.int r25), some (.int r27)]) rfl ?_
          refine v_aload_n S d_Ma_useArray_109 rfl rfl ?_
          refine v_get S (fun w h => List.mem_cons_of_mem _ (i_Ma w h)) hKK.1 16 (by decide) rfl rfl 5 (by decide) (S.2.2.2.2 _ (List.mem_cons_of_mem _ (wd_129))) (fun _ h => h) rfl d_Ma_useArray_110 ?_
          refine v_aload_n S d_Ma_useArray_113 rfl rfl ?_
          refine v_ci (rest := [.ref (b + 17)]) (fun _ _ hg H locs ls hsz hP hS => run_V (As := []) (rest := [.ref (b + 17)]) S kC_ok hKK (c_Fr_pop l D ca ax b σ26 i0 hi0 hg) (k_Ma_179 S.2.2.2.2 (fun _ => List.mem_cons_of_mem _) ⟨Nat.le_of_ble_eq_true rfl, Nat.le_of_ble_eq_true rfl⟩) (rc_w hKK.1 hP (19 + 2 * i0) (fr_lt hi0) (ce_fr hi0) rfl) rfl rfl (by simp [Value.category]) d_Ma_useArray_114 hsz hP hS) (fun r29 σ28 _ => ?_)
          refine v_iload S d_Ma_useArray_117 rfl ?_
          refine v_ci (rest := [.ref (b + 17)]) (fun _ _ hg H locs ls hsz hP hS => run_S (As := [.int r29, .int r27]) (rest := [.ref (b + 17)]) S kC_ok hKK (c_Ma_placeOf l D ca ax b σ28 r29 r27 hg) (k_Ma_210 S.2.2.2.2 (fun _ => List.mem_cons_of_mem _) ⟨Nat.le_of_ble_eq_true rfl, Nat.le_of_ble_eq_true rfl⟩) rfl rfl (by simp [Value.category]) d_Ma_useArray_119 hsz hP hS) (fun r31 σ30 _ => ?_)
          refine v_iload S d_Ma_useArray_122 rfl ?_
          refine v_iast1 S hKK.1 17 0 (by decide) (fun _ => rfl) rfl d_Ma_useArray_124 (fun h32 => ?_)
          refine v_sg (fun σ33 eσ33 => ?_)
          exact v_vret S hret hlocks d_Ma_useArray_125
def fn_Ma_enter_18 (i0 : Nat) (a1 : Int32) : Nat → mm_M → Nat → Int32 → Option (mm_M)
  | 0, _, _, _ => none
  | n + 1, σ, l3, l4 =>
    (if l4 < 0 then
    (some σ)
    else
    (bd (fn_Fr_pop σ i0) (fun r9 σ8 =>
    (bv (fn_Fr_setParameter σ8 l3 l4 r9) (fun σ10 =>
    (fn_Ma_enter_18 i0 a1 n σ10 l3 (l4 + (-1 : Int32))))))))
def fn_Ma_enter (σ : mm_M) (i0 : Nat) (a1 : Int32) : Option (mm_M) :=
    (bd (fn_Ma_openFrame σ a1) (fun r2 σ1 =>
    (bd (fn_Co_parametersOf σ1 a1) (fun r5 σ4 =>
    (nm (r5 - (1 : Int32)) (fun x6 =>
    (fn_Ma_enter_18 i0 a1 fuel0 σ4 r2 x6)))))))
set_option maxRecDepth 100000 in
set_option maxHeartbeats 40000000 in
theorem c_Ma_enter (l : Launch) (D : va_G) (ca : Nat → ClassId) (ax : Nat → Nat → Nat) (b : Nat) (σ : mm_M) (i0 : Nat) (a1 : Int32) (hi0 : i0 < 8) {σ' : mm_M} (hf : fn_Ma_enter σ i0 a1 = some σ') : Met l y_Ma_enter w_Ma_enter rm_Ma_enter (pc_w D cls b N_C (ce_C ca b) (kC D ca ax b) [.ref (b + 16), .ref (b + (19 + 2 * i0)), .int a1] σ) (qc_v D cls b N_C (ce_C ca b) σ') 0 0 (mm_A b N_C) := by
  refine vv_go (cc := b_Ma_enter) (maxL := 5) (ret := none) (fin := σ') (k := fn_Ma_enter σ i0 a1) (by decide) rfl (by simp [Value.category]) (Nat.le_of_ble_eq_true rfl) hf ?_
  intro p e s m below meth c hlocks hret S hKK
  have C18 : ∀ (n : Nat) (σ : mm_M) (l3 : Nat) (l4 : Int32) (hl3 : l3 < 8), vv p l e (headSpec w_Ma_enter rm_Ma_enter).room s m [.ref (b + 16), .ref (b + (19 + 2 * i0)), .int a1].toArray below meth c D cls b N_C (ce_C ca b) 5 (MQ below (qc_v D cls b N_C (ce_C ca b) σ') [.ref (b + 16), .ref (b + (19 + 2 * i0)), .int a1].toArray s 0 0 (mm_A b N_C)) σ' (fn_Ma_enter_18 i0 a1 n σ l3 l4) σ 18 [none, some (.ref (b + (19 + 2 * i0))), none, some (.ref (b + (19 + 2 * l3))), some (.int l4)] [] := by
    intro n
    induction n with
    | zero => intro σ l3 l4 hl3 h; cases h
    | succ n ih =>
      intro σ l3 l4 hl3
      show vv p l e (headSpec w_Ma_enter rm_Ma_enter).room s m [.ref (b + 16), .ref (b + (19 + 2 * i0)), .int a1].toArray below meth c D cls b N_C (ce_C ca b) 5 (MQ below (qc_v D cls b N_C (ce_C ca b) σ') [.ref (b + 16), .ref (b + (19 + 2 * i0)), .int a1].toArray s 0 0 (mm_A b N_C)) σ' (        (if l4 < 0 then
        (some σ)
        else
        (bd (fn_Fr_pop σ i0) (fun r9 σ8 =>
        (bv (fn_Fr_setParameter σ8 l3 l4 r9) (fun σ10 =>
        (fn_Ma_enter_18 i0 a1 n σ10 l3 (l4 + (-1 : Int32))))))))) σ 18 [none, some (.ref (b + (19 + 2 * i0))), none, some (.ref (b + (19 + 2 * l3))), some (.int l4)] []
      refine v_iload S d_Ma_enter_18 rfl ?_
      refine v_if_lt S d_Ma_enter_20 (tgt := 39) (by decide) (fun h7 => ?_) (fun h7 => ?_)
      · exact v_vret S hret hlocks d_Ma_enter_39
      · refine v_aload_n S d_Ma_enter_23 rfl rfl ?_
        refine v_iload S d_Ma_enter_24 rfl ?_
        refine v_aload_n S d_Ma_enter_26 rfl rfl ?_
        refine v_ci (rest := [.int l4, .ref (b + (19 + 2 * l3))]) (fun _ _ hg H locs ls hsz hP hS => run_V (As := []) (rest := [.int l4, .ref (b + (19 + 2 * l3))]) S kC_ok hKK (c_Fr_pop l D ca ax b σ i0 hi0 hg) (k_Ma_179 S.2.2.2.2 (fun _ => List.mem_cons_of_mem _) ⟨Nat.le_of_ble_eq_true rfl, Nat.le_of_ble_eq_true rfl⟩) (rc_w hKK.1 hP (19 + 2 * i0) (fr_lt hi0) (ce_fr hi0) rfl) rfl rfl (by simp [Value.category]) d_Ma_enter_27 hsz hP hS) (fun r9 σ8 _ => ?_)
        refine v_cv (rest := []) (fun _ hg H locs ls hsz hP hS => run_V (As := [.int l4, .int r9]) (rest := []) S kC_ok hKK (c_Fr_setParameter l D ca ax b σ8 l3 l4 r9 hl3 hg) (k_Ma_44 S.2.2.2.2 (fun _ => List.mem_cons_of_mem _) ⟨Nat.le_of_ble_eq_true rfl, Nat.le_of_ble_eq_true rfl⟩) (rc_w hKK.1 hP (19 + 2 * l3) (fr_lt hl3) (ce_fr hl3) rfl) rfl rfl (Nat.zero_le _) d_Ma_enter_30 hsz hP hS) (fun σ10 _ => ?_)
        refine v_iinc S d_Ma_enter_33 rfl (v := (l4 + (-1 : Int32))) (by first | rfl | decide) (by decide) (L2 := [none, some (.ref (b + (19 + 2 * i0))), none, some (.ref (b + (19 + 2 * l3))), some (.int (l4 + (-1 : Int32)))]) rfl ?_
        refine v_goto S d_Ma_enter_36 (tgt := 18) (by decide) ?_
        refine v_sub (L2 := [none, some (.ref (b + (19 + 2 * i0))), none, some (.ref (b + (19 + 2 * l3))), some (.int (l4 + (-1 : Int32)))]) (And.intro rfl (And.intro rfl (And.intro rfl True.intro))) ?_
        exact ih σ10 l3 (l4 + (-1 : Int32)) hl3
  unfold fn_Ma_enter
  refine v_aload_n S d_Ma_enter_0 rfl rfl ?_
  refine v_iload_n S d_Ma_enter_1 rfl rfl ?_
  refine v_ca (fun q => b + (19 + 2 * q)) (rest := []) (fun _ _ hg H locs ls hsz hP hS => run_V (As := [.int a1]) (rest := []) S kC_ok hKK (c_Ma_openFrame l D ca ax b σ a1 hg) (k_Ma_36 S.2.2.2.2 (fun _ => List.mem_cons_of_mem _) ⟨Nat.le_of_ble_eq_true rfl, Nat.le_of_ble_eq_true rfl⟩) (rc_w hKK.1 hP 16 (by decide) rfl rfl) rfl rfl (Nat.zero_le _) d_Ma_enter_2 hsz hP hS) (fun r2 σ1 g3 => ?_)
  refine v_astore_nP S d_Ma_enter_5 rfl (by decide) (L2 := [some (.ref (b + 16)), some (.ref (b + (19 + 2 * i0))), some (.int a1), some (.ref (b + (19 + 2 * r2)))]) rfl ?_
  refine v_aload_n S d_Ma_enter_6 rfl rfl ?_
  refine v_get S (fun w h => List.mem_cons_of_mem _ (i_Ma w h)) hKK.1 16 (by decide) rfl rfl 3 (by decide) (S.2.2.2.2 _ (List.mem_cons_of_mem _ (wd_127))) (fun _ h => h) rfl d_Ma_enter_7 ?_
  refine v_iload_n S d_Ma_enter_10 rfl rfl ?_
  refine v_ci (rest := []) (fun _ _ hg H locs ls hsz hP hS => run_V (As := [.int a1]) (rest := []) S kC_ok hKK (c_Co_parametersOf l D ca ax b σ1 a1 hg) (k_Ma_213 S.2.2.2.2 (fun _ => List.mem_cons_of_mem _) ⟨Nat.le_of_ble_eq_true rfl, Nat.le_of_ble_eq_true rfl⟩) (rc_w hKK.1 hP 1 (by decide) rfl rfl) rfl rfl (Nat.zero_le _) d_Ma_enter_11 hsz hP hS) (fun r5 σ4 _ => ?_)
  refine v_iconst S d_Ma_enter_14 (v := (1 : Int32)) (by decide) ?_
  refine v_isub S d_Ma_enter_15 ?_
  refine v_top (fun x6 ex6 => ?_)
  refine v_istoreP S d_Ma_enter_16 (by decide) (L2 := [some (.ref (b + 16)), some (.ref (b + (19 + 2 * i0))), some (.int a1), some (.ref (b + (19 + 2 * r2))), some (.int x6)]) rfl ?_
  refine v_sub (L2 := [none, some (.ref (b + (19 + 2 * i0))), none, some (.ref (b + (19 + 2 * r2))), some (.int x6)]) (And.intro rfl (And.intro rfl (And.intro rfl True.intro))) ?_
  exact C18 fuel0 σ4 r2 x6 (rb_Ma_openFrame g3)
def fn_Ma_leave (σ : mm_M) (i0 : Nat) : Option (mm_M) :=
    (if (σ 16 0) = (1 : Int32) then
    (bd (fn_Ty_slotBelow σ (σ (19 + 2 * i0) 2) (0 : Int32)) (fun r12 σ11 =>
    (bd (fn_Fr_shown σ11 i0 r12) (fun r14 σ13 =>
    (nm (mw σ13 16 2 r14) (fun σ15 =>
    (nm (mw σ15 16 0 (0 : Int32)) (fun σ16 =>
    (some σ16)))))))))
    else
    (nm (mw σ 16 0 ((σ 16 0) - (1 : Int32))) (fun σ2 =>
    (bd (fn_Ma_top σ2) (fun r4 σ3 =>
    (bd (fn_Fr_typeBelow σ3 i0 (0 : Int32)) (fun r7 σ6 =>
    (bd (fn_Fr_below σ6 i0 (0 : Int32)) (fun r9 σ8 =>
    (bv (fn_Fr_push σ8 r4 r7 r9) (fun σ10 =>
    (some σ10))))))))))))
set_option maxRecDepth 100000 in
set_option maxHeartbeats 40000000 in
theorem c_Ma_leave (l : Launch) (D : va_G) (ca : Nat → ClassId) (ax : Nat → Nat → Nat) (b : Nat) (σ : mm_M) (i0 : Nat) (hi0 : i0 < 8) {σ' : mm_M} (hf : fn_Ma_leave σ i0 = some σ') : Met l y_Ma_leave w_Ma_leave rm_Ma_leave (pc_w D cls b N_C (ce_C ca b) (kC D ca ax b) [.ref (b + 16), .ref (b + (19 + 2 * i0))] σ) (qc_v D cls b N_C (ce_C ca b) σ') 0 0 (mm_A b N_C) := by
  refine vv_go (cc := b_Ma_leave) (maxL := 2) (ret := none) (fin := σ') (k := fn_Ma_leave σ i0) (by decide) rfl (by simp [Value.category]) (Nat.le_of_ble_eq_true rfl) hf ?_
  intro p e s m below meth c hlocks hret S hKK
  unfold fn_Ma_leave
  refine v_aload_n S d_Ma_leave_0 rfl rfl ?_
  refine v_get S (fun w h => List.mem_cons_of_mem _ (i_Ma w h)) hKK.1 16 (by decide) rfl rfl 0 (by decide) (S.2.2.2.2 _ (List.mem_cons_of_mem _ (wd_121))) (fun _ h => h) rfl d_Ma_leave_1 ?_
  refine v_iconst S d_Ma_leave_4 (v := (1 : Int32)) (by decide) ?_
  refine v_icmp_ne S d_Ma_leave_5 (tgt := 30) (by decide) (fun h1 => ?_) (fun h1 => ?_)
  · refine v_aload_n S d_Ma_leave_30 rfl rfl ?_
    refine v_dup S d_Ma_leave_31 rfl ?_
    refine v_get S (fun w h => List.mem_cons_of_mem _ (i_Ma w h)) hKK.1 16 (by decide) rfl rfl 0 (by decide) (S.2.2.2.2 _ (List.mem_cons_of_mem _ (wd_121))) (fun _ h => h) rfl d_Ma_leave_32 ?_
    refine v_iconst S d_Ma_leave_35 (v := (1 : Int32)) (by decide) ?_
    refine v_isub S d_Ma_leave_36 ?_
    refine v_puti S (fun w h => List.mem_cons_of_mem _ (i_Ma w h)) hKK.1 16 (by decide) rfl rfl 0 (by decide) (S.2.2.2.2 _ (List.mem_cons_of_mem _ (wd_121))) (fun _ h => h) t_Ma t_Ma_ok n_Ma rfl (ty := .int) rfl rfl rfl (Nat.le_of_ble_eq_true rfl) rfl d_Ma_leave_37 ?_
    refine v_sg (fun σ2 eσ2 => ?_)
    refine v_aload_n S d_Ma_leave_40 rfl rfl ?_
    refine v_ca (fun q => b + (19 + 2 * q)) (rest := []) (fun _ _ hg H locs ls hsz hP hS => run_V (As := []) (rest := []) S kC_ok hKK (c_Ma_top l D ca ax b σ2 hg) (k_Ma_48 S.2.2.2.2 (fun _ => List.mem_cons_of_mem _) ⟨Nat.le_of_ble_eq_true rfl, Nat.le_of_ble_eq_true rfl⟩) (rc_w hKK.1 hP 16 (by decide) rfl rfl) rfl rfl (Nat.zero_le _) d_Ma_leave_41 hsz hP hS) (fun r4 σ3 g5 => ?_)
    refine v_aload_n S d_Ma_leave_44 rfl rfl ?_
    refine v_iconst S d_Ma_leave_45 (v := (0 : Int32)) (by decide) ?_
    refine v_ci (rest := [.ref (b + (19 + 2 * r4))]) (fun _ _ hg H locs ls hsz hP hS => run_V (As := [.int (0 : Int32)]) (rest := [.ref (b + (19 + 2 * r4))]) S kC_ok hKK (c_Fr_typeBelow l D ca ax b σ3 i0 (0 : Int32) hi0 hg) (k_Ma_222 S.2.2.2.2 (fun _ => List.mem_cons_of_mem _) ⟨Nat.le_of_ble_eq_true rfl, Nat.le_of_ble_eq_true rfl⟩) (rc_w hKK.1 hP (19 + 2 * i0) (fr_lt hi0) (ce_fr hi0) rfl) rfl rfl (by simp [Value.category]) d_Ma_leave_46 hsz hP hS) (fun r7 σ6 _ => ?_)
    refine v_aload_n S d_Ma_leave_49 rfl rfl ?_
    refine v_iconst S d_Ma_leave_50 (v := (0 : Int32)) (by decide) ?_
    refine v_ci (rest := [.int r7, .ref (b + (19 + 2 * r4))]) (fun _ _ hg H locs ls hsz hP hS => run_V (As := [.int (0 : Int32)]) (rest := [.int r7, .ref (b + (19 + 2 * r4))]) S kC_ok hKK (c_Fr_below l D ca ax b σ6 i0 (0 : Int32) hi0 hg) (k_Ma_130 S.2.2.2.2 (fun _ => List.mem_cons_of_mem _) ⟨Nat.le_of_ble_eq_true rfl, Nat.le_of_ble_eq_true rfl⟩) (rc_w hKK.1 hP (19 + 2 * i0) (fr_lt hi0) (ce_fr hi0) rfl) rfl rfl (by simp [Value.category]) d_Ma_leave_51 hsz hP hS) (fun r9 σ8 _ => ?_)
    refine v_cv (rest := []) (fun _ hg H locs ls hsz hP hS => run_V (As := [.int r7, .int r9]) (rest := []) S kC_ok hKK (c_Fr_push l D ca ax b σ8 r4 r7 r9 (rb_Ma_top g5) hg) (k_Ma_204 S.2.2.2.2 (fun _ => List.mem_cons_of_mem _) ⟨Nat.le_of_ble_eq_true rfl, Nat.le_of_ble_eq_true rfl⟩) (rc_w hKK.1 hP (19 + 2 * r4) (fr_lt (rb_Ma_top g5)) (ce_fr (rb_Ma_top g5)) rfl) rfl rfl (Nat.zero_le _) d_Ma_leave_54 hsz hP hS) (fun σ10 _ => ?_)
    exact v_vret S hret hlocks d_Ma_leave_57
  · refine v_aload_n S d_Ma_leave_8 rfl rfl ?_
    refine v_aload_n S d_Ma_leave_9 rfl rfl ?_
    refine v_aload_n S d_Ma_leave_10 rfl rfl ?_
    refine v_get S (fun w h => List.mem_cons_of_mem _ (i_Fr w h)) hKK.1 (19 + 2 * i0) (fr_lt hi0) (ce_fr hi0) rfl 2 (by decide) (S.2.2.2.2 _ (List.mem_cons_of_mem _ (wd_109))) (fun _ h => h) rfl d_Ma_leave_11 ?_
    refine v_iconst S d_Ma_leave_14 (v := (0 : Int32)) (by decide) ?_
    refine v_ci (rest := [.ref (b + (19 + 2 * i0)), .ref (b + 16)]) (fun _ _ hg H locs ls hsz hP hS => run_S (As := [.int (σ (19 + 2 * i0) 2), .int (0 : Int32)]) (rest := [.ref (b + (19 + 2 * i0)), .ref (b + 16)]) S kC_ok hKK (c_Ty_slotBelow l D ca ax b σ (σ (19 + 2 * i0) 2) (0 : Int32) hg) (k_Ma_216 S.2.2.2.2 (fun _ => List.mem_cons_of_mem _) ⟨Nat.le_of_ble_eq_true rfl, Nat.le_of_ble_eq_true rfl⟩) rfl rfl (by simp [Value.category]) d_Ma_leave_15 hsz hP hS) (fun r12 σ11 _ => ?_)
    refine v_ci (rest := [.ref (b + 16)]) (fun _ _ hg H locs ls hsz hP hS => run_V (As := [.int r12]) (rest := [.ref (b + 16)]) S kC_ok hKK (c_Fr_shown l D ca ax b σ11 i0 r12 hi0 hg) (k_Ma_219 S.2.2.2.2 (fun _ => List.mem_cons_of_mem _) ⟨Nat.le_of_ble_eq_true rfl, Nat.le_of_ble_eq_true rfl⟩) (rc_w hKK.1 hP (19 + 2 * i0) (fr_lt hi0) (ce_fr hi0) rfl) rfl rfl (by simp [Value.category]) d_Ma_leave_18 hsz hP hS) (fun r14 σ13 _ => ?_)
    refine v_puti S (fun w h => List.mem_cons_of_mem _ (i_Ma w h)) hKK.1 16 (by decide) rfl rfl 2 (by decide) (S.2.2.2.2 _ (List.mem_cons_of_mem _ (wd_125))) (fun _ h => h) t_Ma t_Ma_ok n_Ma rfl (ty := .int) rfl rfl rfl (Nat.le_of_ble_eq_true rfl) rfl d_Ma_leave_21 ?_
    refine v_sg (fun σ15 eσ15 => ?_)
    refine v_aload_n S d_Ma_leave_24 rfl rfl ?_
    refine v_iconst S d_Ma_leave_25 (v := (0 : Int32)) (by decide) ?_
    refine v_puti S (fun w h => List.mem_cons_of_mem _ (i_Ma w h)) hKK.1 16 (by decide) rfl rfl 0 (by decide) (S.2.2.2.2 _ (List.mem_cons_of_mem _ (wd_121))) (fun _ h => h) t_Ma t_Ma_ok n_Ma rfl (ty := .int) rfl rfl rfl (Nat.le_of_ble_eq_true rfl) rfl d_Ma_leave_26 ?_
    refine v_sg (fun σ16 eσ16 => ?_)
    exact v_vret S hret hlocks d_Ma_leave_29
def fn_Ma_move (σ : mm_M) (i0 : Nat) (o1 : Nat) (a2 : Int32) : Option (mm_M) :=
    (if ((nI o1) < 0 ∨ 20 ≤ (nI o1).toNatClampNeg) then none else
    (if (sw_op (nI o1).toNatClampNeg) = (1 : Int32) then
    (bv (fn_Fr_load σ i0 a2) (fun σ3 =>
    (some σ3)))
    else
    (if (sw_op (nI o1).toNatClampNeg) = (2 : Int32) then
    (bv (fn_Fr_store σ i0 a2) (fun σ5 =>
    (some σ5)))
    else
    (if (sw_op (nI o1).toNatClampNeg) = (3 : Int32) then
    (bd (fn_Fr_typeBelow σ i0 (0 : Int32)) (fun r8 σ7 =>
    (bd (fn_Fr_below σ7 i0 (0 : Int32)) (fun r10 σ9 =>
    (bv (fn_Fr_push σ9 i0 r8 r10) (fun σ11 =>
    (some σ11)))))))
    else
    (if (sw_op (nI o1).toNatClampNeg) = (4 : Int32) then
    (bv (fn_Fr_exchange σ i0) (fun σ13 =>
    (some σ13)))
    else
    (if (sw_op (nI o1).toNatClampNeg) = (15 : Int32) then
    (bv (fn_Fr_push σ i0 (1 : Int32) a2) (fun σ15 =>
    (some σ15)))
    else
    (if (sw_op (nI o1).toNatClampNeg) = (16 : Int32) then
    (bv (fn_Fr_push σ i0 (2 : Int32) (0 : Int32)) (fun σ17 =>
    (some σ17)))
    else
    (bd (fn_Fr_pop σ i0) (fun r29 σ28 =>
    (some σ28))))))))))
set_option maxRecDepth 100000 in
set_option maxHeartbeats 40000000 in
theorem c_Ma_move (l : Launch) (D : va_G) (ca : Nat → ClassId) (ax : Nat → Nat → Nat) (b : Nat) (σ : mm_M) (i0 : Nat) (o1 : Nat) (a2 : Int32) (hi0 : i0 < 8) (ho1 : o1 < 20) {σ' : mm_M} (hf : fn_Ma_move σ i0 o1 a2 = some σ') : Met l y_Ma_move w_Ma_move rm_Ma_move (pc_w D cls b N_C (ce_C ca b) (kC D ca ax b) [.ref (b + (19 + 2 * i0)), .ref (ax 0 o1), .int a2] σ) (qc_v D cls b N_C (ce_C ca b) σ') 0 0 (mm_A b N_C) := by
  refine vv_go (cc := b_Ma_move) (maxL := 3) (ret := none) (fin := σ') (k := fn_Ma_move σ i0 o1 a2) (by decide) rfl (by simp [Value.category]) (Nat.le_of_ble_eq_true rfl) hf ?_
  intro p e s m below meth c hlocks hret S hKK
  unfold fn_Ma_move
  refine v_gets S (kc_zOp hKK) (S.2.2.2.2 _ (List.mem_cons_of_mem _ (wd_538))) (fun _ h => h) d_Ma_move_0 ?_
  refine v_aload_n S d_Ma_move_3 rfl rfl ?_
  refine v_ordO (rest := [.ref (ax 3 0)]) S hKK ho1 (k_Ma_126 S.2.2.2.2 (fun _ => List.mem_cons_of_mem _) ⟨Nat.le_of_ble_eq_true rfl, Nat.le_of_ble_eq_true rfl⟩) (by simp [Value.category]) d_Ma_move_4 ?_
  refine v_ti0 S (kc_swOp hKK) d_Ma_move_7 (fun h1 => ?_)
  refine v_tsw S (1 : Int32) (tgt := 106) d_Ma_move_8 (by decide) (by decide) (off := 98) rfl (by decide) (fun h2 => ?_) (fun h2 => ?_)
  · refine v_aload_n S d_Ma_move_106 rfl rfl ?_
    refine v_iload_n S d_Ma_move_107 rfl rfl ?_
    refine v_cv (rest := []) (fun _ hg H locs ls hsz hP hS => run_V (As := [.int a2]) (rest := []) S kC_ok hKK (c_Fr_load l D ca ax b σ i0 a2 hi0 hg) (k_Ma_225 S.2.2.2.2 (fun _ => List.mem_cons_of_mem _) ⟨Nat.le_of_ble_eq_true rfl, Nat.le_of_ble_eq_true rfl⟩) (rc_w hKK.1 hP (19 + 2 * i0) (fr_lt hi0) (ce_fr hi0) rfl) rfl rfl (Nat.zero_le _) d_Ma_move_108 hsz hP hS) (fun σ3 _ => ?_)
    refine v_goto S d_Ma_move_111 (tgt := 151) (by decide) ?_
    exact v_vret S hret hlocks d_Ma_move_151
  · refine v_tsw S (2 : Int32) (tgt := 114) d_Ma_move_8 (by decide) (by decide) (off := 106) rfl (by decide) (fun h4 => ?_) (fun h4 => ?_)
    · refine v_aload_n S d_Ma_move_114 rfl rfl ?_
      refine v_iload_n S d_Ma_move_115 rfl rfl ?_
      refine v_cv (rest := []) (fun _ hg H locs ls hsz hP hS => run_V (As := [.int a2]) (rest := []) S kC_ok hKK (c_Fr_store l D ca ax b σ i0 a2 hi0 hg) (k_Ma_229 S.2.2.2.2 (fun _ => List.mem_cons_of_mem _) ⟨Nat.le_of_ble_eq_true rfl, Nat.le_of_ble_eq_true rfl⟩) (rc_w hKK.1 hP (19 + 2 * i0) (fr_lt hi0) (ce_fr hi0) rfl) rfl rfl (Nat.zero_le _) d_Ma_move_116 hsz hP hS) (fun σ5 _ => ?_)
      refine v_goto S d_Ma_move_119 (tgt := 151) (by decide) ?_
      exact v_vret S hret hlocks d_Ma_move_151
    · refine v_tsw S (3 : Int32) (tgt := 122) d_Ma_move_8 (by decide) (by decide) (off := 114) rfl (by decide) (fun h6 => ?_) (fun h6 => ?_)
      · refine v_aload_n S d_Ma_move_122 rfl rfl ?_
        refine v_aload_n S d_Ma_move_123 rfl rfl ?_
        refine v_iconst S d_Ma_move_124 (v := (0 : Int32)) (by decide) ?_
        refine v_ci (rest := [.ref (b + (19 + 2 * i0))]) (fun _ _ hg H locs ls hsz hP hS => run_V (As := [.int (0 : Int32)]) (rest := [.ref (b + (19 + 2 * i0))]) S kC_ok hKK (c_Fr_typeBelow l D ca ax b σ i0 (0 : Int32) hi0 hg) (k_Ma_222 S.2.2.2.2 (fun _ => List.mem_cons_of_mem _) ⟨Nat.le_of_ble_eq_true rfl, Nat.le_of_ble_eq_true rfl⟩) (rc_w hKK.1 hP (19 + 2 * i0) (fr_lt hi0) (ce_fr hi0) rfl) rfl rfl (by simp [Value.category]) d_Ma_move_125 hsz hP hS) (fun r8 σ7 _ => ?_)
        refine v_aload_n S d_Ma_move_128 rfl rfl ?_
        refine v_iconst S d_Ma_move_129 (v := (0 : Int32)) (by decide) ?_
        refine v_ci (rest := [.int r8, .ref (b + (19 + 2 * i0))]) (fun _ _ hg H locs ls hsz hP hS => run_V (As := [.int (0 : Int32)]) (rest := [.int r8, .ref (b + (19 + 2 * i0))]) S kC_ok hKK (c_Fr_below l D ca ax b σ7 i0 (0 : Int32) hi0 hg) (k_Ma_130 S.2.2.2.2 (fun _ => List.mem_cons_of_mem _) ⟨Nat.le_of_ble_eq_true rfl, Nat.le_of_ble_eq_true rfl⟩) (rc_w hKK.1 hP (19 + 2 * i0) (fr_lt hi0) (ce_fr hi0) rfl) rfl rfl (by simp [Value.category]) d_Ma_move_130 hsz hP hS) (fun r10 σ9 _ => ?_)
        refine v_cv (rest := []) (fun _ hg H locs ls hsz hP hS => run_V (As := [.int r8, .int r10]) (rest := []) S kC_ok hKK (c_Fr_push l D ca ax b σ9 i0 r8 r10 hi0 hg) (k_Ma_204 S.2.2.2.2 (fun _ => List.mem_cons_of_mem _) ⟨Nat.le_of_ble_eq_true rfl, Nat.le_of_ble_eq_true rfl⟩) (rc_w hKK.1 hP (19 + 2 * i0) (fr_lt hi0) (ce_fr hi0) rfl) rfl rfl (Nat.zero_le _) d_Ma_move_133 hsz hP hS) (fun σ11 _ => ?_)
        refine v_goto S d_Ma_move_136 (tgt := 151) (by decide) ?_
        exact v_vret S hret hlocks d_Ma_move_151
      · refine v_tsw S (4 : Int32) (tgt := 139) d_Ma_move_8 (by decide) (by decide) (off := 131) rfl (by decide) (fun h12 => ?_) (fun h12 => ?_)
        · refine v_aload_n S d_Ma_move_139 rfl rfl ?_
          refine v_cv (rest := []) (fun _ hg H locs ls hsz hP hS => run_V (As := []) (rest := []) S kC_ok hKK (c_Fr_exchange l D ca ax b σ i0 hi0 hg) (k_Ma_232 S.2.2.2.2 (fun _ => List.mem_cons_of_mem _) ⟨Nat.le_of_ble_eq_true rfl, Nat.le_of_ble_eq_true rfl⟩) (rc_w hKK.1 hP (19 + 2 * i0) (fr_lt hi0) (ce_fr hi0) rfl) rfl rfl (Nat.zero_le _) d_Ma_move_140 hsz hP hS) (fun σ13 _ => ?_)
          refine v_goto S d_Ma_move_143 (tgt := 151) (by decide) ?_
          exact v_vret S hret hlocks d_Ma_move_151
        · refine v_tsw S (15 : Int32) (tgt := 88) d_Ma_move_8 (by decide) (by decide) (off := 80) rfl (by decide) (fun h14 => ?_) (fun h14 => ?_)
          · refine v_aload_n S d_Ma_move_88 rfl rfl ?_
            refine v_iconst S d_Ma_move_89 (v := (1 : Int32)) (by decide) ?_
            refine v_iload_n S d_Ma_move_90 rfl rfl ?_
            refine v_cv (rest := []) (fun _ hg H locs ls hsz hP hS => run_V (As := [.int (1 : Int32), .int a2]) (rest := []) S kC_ok hKK (c_Fr_push l D ca ax b σ i0 (1 : Int32) a2 hi0 hg) (k_Ma_204 S.2.2.2.2 (fun _ => List.mem_cons_of_mem _) ⟨Nat.le_of_ble_eq_true rfl, Nat.le_of_ble_eq_true rfl⟩) (rc_w hKK.1 hP (19 + 2 * i0) (fr_lt hi0) (ce_fr hi0) rfl) rfl rfl (Nat.zero_le _) d_Ma_move_91 hsz hP hS) (fun σ15 _ => ?_)
            refine v_goto S d_Ma_move_94 (tgt := 151) (by decide) ?_
            exact v_vret S hret hlocks d_Ma_move_151
          · refine v_tsw S (16 : Int32) (tgt := 97) d_Ma_move_8 (by decide) (by decide) (off := 89) rfl (by decide) (fun h16 => ?_) (fun h16 => ?_)
            · refine v_aload_n S d_Ma_move_97 rfl rfl ?_
              refine v_iconst S d_Ma_move_98 (v := (2 : Int32)) (by decide) ?_
              refine v_iconst S d_Ma_move_99 (v := (0 : Int32)) (by decide) ?_
              refine v_cv (rest := []) (fun _ hg H locs ls hsz hP hS => run_V (As := [.int (2 : Int32), .int (0 : Int32)]) (rest := []) S kC_ok hKK (c_Fr_push l D ca ax b σ i0 (2 : Int32) (0 : Int32) hi0 hg) (k_Ma_204 S.2.2.2.2 (fun _ => List.mem_cons_of_mem _) ⟨Nat.le_of_ble_eq_true rfl, Nat.le_of_ble_eq_true rfl⟩) (rc_w hKK.1 hP (19 + 2 * i0) (fr_lt hi0) (ce_fr hi0) rfl) rfl rfl (Nat.zero_le _) d_Ma_move_100 hsz hP hS) (fun σ17 _ => ?_)
              refine v_goto S d_Ma_move_103 (tgt := 151) (by decide) ?_
              exact v_vret S hret hlocks d_Ma_move_151
            · refine v_tswQ S (5 : Int32) (tgt := 146) d_Ma_move_8 (by decide) (by decide) (off := 138) rfl (by decide) ?_ (fun h18 => ?_)
              · refine v_aload_n S d_Ma_move_146 rfl rfl ?_
                refine v_ci (rest := []) (fun _ _ hg H locs ls hsz hP hS => run_V (As := []) (rest := []) S kC_ok hKK (c_Fr_pop l D ca ax b σ i0 hi0 hg) (k_Ma_179 S.2.2.2.2 (fun _ => List.mem_cons_of_mem _) ⟨Nat.le_of_ble_eq_true rfl, Nat.le_of_ble_eq_true rfl⟩) (rc_w hKK.1 hP (19 + 2 * i0) (fr_lt hi0) (ce_fr hi0) rfl) rfl rfl (Nat.zero_le _) d_Ma_move_147 hsz hP hS) (fun r29 σ28 _ => ?_)
                refine v_pop S d_Ma_move_150 rfl ?_
                exact v_vret S hret hlocks d_Ma_move_151
              · refine v_tswQ S (6 : Int32) (tgt := 146) d_Ma_move_8 (by decide) (by decide) (off := 138) rfl (by decide) ?_ (fun h19 => ?_)
                · refine v_aload_n S d_Ma_move_146 rfl rfl ?_
                  refine v_ci (rest := []) (fun _ _ hg H locs ls hsz hP hS => run_V (As := []) (rest := []) S kC_ok hKK (c_Fr_pop l D ca ax b σ i0 hi0 hg) (k_Ma_179 S.2.2.2.2 (fun _ => List.mem_cons_of_mem _) ⟨Nat.le_of_ble_eq_true rfl, Nat.le_of_ble_eq_true rfl⟩) (rc_w hKK.1 hP (19 + 2 * i0) (fr_lt hi0) (ce_fr hi0) rfl) rfl rfl (Nat.zero_le _) d_Ma_move_147 hsz hP hS) (fun r29 σ28 _ => ?_)
                  refine v_pop S d_Ma_move_150 rfl ?_
                  exact v_vret S hret hlocks d_Ma_move_151
                · refine v_tswQ S (7 : Int32) (tgt := 146) d_Ma_move_8 (by decide) (by decide) (off := 138) rfl (by decide) ?_ (fun h20 => ?_)
                  · refine v_aload_n S d_Ma_move_146 rfl rfl ?_
                    refine v_ci (rest := []) (fun _ _ hg H locs ls hsz hP hS => run_V (As := []) (rest := []) S kC_ok hKK (c_Fr_pop l D ca ax b σ i0 hi0 hg) (k_Ma_179 S.2.2.2.2 (fun _ => List.mem_cons_of_mem _) ⟨Nat.le_of_ble_eq_true rfl, Nat.le_of_ble_eq_true rfl⟩) (rc_w hKK.1 hP (19 + 2 * i0) (fr_lt hi0) (ce_fr hi0) rfl) rfl rfl (Nat.zero_le _) d_Ma_move_147 hsz hP hS) (fun r29 σ28 _ => ?_)
                    refine v_pop S d_Ma_move_150 rfl ?_
                    exact v_vret S hret hlocks d_Ma_move_151
                  · refine v_tswQ S (8 : Int32) (tgt := 146) d_Ma_move_8 (by decide) (by decide) (off := 138) rfl (by decide) ?_ (fun h21 => ?_)
                    · refine v_aload_n S d_Ma_move_146 rfl rfl ?_
                      refine v_ci (rest := []) (fun _ _ hg H locs ls hsz hP hS => run_V (As := []) (rest := []) S kC_ok hKK (c_Fr_pop l D ca ax b σ i0 hi0 hg) (k_Ma_179 S.2.2.2.2 (fun _ => List.mem_cons_of_mem _) ⟨Nat.le_of_ble_eq_true rfl, Nat.le_of_ble_eq_true rfl⟩) (rc_w hKK.1 hP (19 + 2 * i0) (fr_lt hi0) (ce_fr hi0) rfl) rfl rfl (Nat.zero_le _) d_Ma_move_147 hsz hP hS) (fun r29 σ28 _ => ?_)
                      refine v_pop S d_Ma_move_150 rfl ?_
                      exact v_vret S hret hlocks d_Ma_move_151
                    · refine v_tswQ S (9 : Int32) (tgt := 146) d_Ma_move_8 (by decide) (by decide) (off := 138) rfl (by decide) ?_ (fun h22 => ?_)
                      · refine v_aload_n S d_Ma_move_146 rfl rfl ?_
                        refine v_ci (rest := []) (fun _ _ hg H locs ls hsz hP hS => run_V (As := []) (rest := []) S kC_ok hKK (c_Fr_pop l D ca ax b σ i0 hi0 hg) (k_Ma_179 S.2.2.2.2 (fun _ => List.mem_cons_of_mem _) ⟨Nat.le_of_ble_eq_true rfl, Nat.le_of_ble_eq_true rfl⟩) (rc_w hKK.1 hP (19 + 2 * i0) (fr_lt hi0) (ce_fr hi0) rfl) rfl rfl (Nat.zero_le _) d_Ma_move_147 hsz hP hS) (fun r29 σ28 _ => ?_)
                        refine v_pop S d_Ma_move_150 rfl ?_
                        exact v_vret S hret hlocks d_Ma_move_151
                      · refine v_tswQ S (10 : Int32) (tgt := 146) d_Ma_move_8 (by decide) (by decide) (off := 138) rfl (by decide) ?_ (fun h23 => ?_)
                        · refine v_aload_n S d_Ma_move_146 rfl rfl ?_
                          refine v_ci (rest := []) (fun _ _ hg H locs ls hsz hP hS => run_V (As := []) (rest := []) S kC_ok hKK (c_Fr_pop l D ca ax b σ i0 hi0 hg) (k_Ma_179 S.2.2.2.2 (fun _ => List.mem_cons_of_mem _) ⟨Nat.le_of_ble_eq_true rfl, Nat.le_of_ble_eq_true rfl⟩) (rc_w hKK.1 hP (19 + 2 * i0) (fr_lt hi0) (ce_fr hi0) rfl) rfl rfl (Nat.zero_le _) d_Ma_move_147 hsz hP hS) (fun r29 σ28 _ => ?_)
                          refine v_pop S d_Ma_move_150 rfl ?_
                          exact v_vret S hret hlocks d_Ma_move_151
                        · refine v_tswQ S (11 : Int32) (tgt := 146) d_Ma_move_8 (by decide) (by decide) (off := 138) rfl (by decide) ?_ (fun h24 => ?_)
                          · refine v_aload_n S d_Ma_move_146 rfl rfl ?_
                            refine v_ci (rest := []) (fun _ _ hg H locs ls hsz hP hS => run_V (As := []) (rest := []) S kC_ok hKK (c_Fr_pop l D ca ax b σ i0 hi0 hg) (k_Ma_179 S.2.2.2.2 (fun _ => List.mem_cons_of_mem _) ⟨Nat.le_of_ble_eq_true rfl, Nat.le_of_ble_eq_true rfl⟩) (rc_w hKK.1 hP (19 + 2 * i0) (fr_lt hi0) (ce_fr hi0) rfl) rfl rfl (Nat.zero_le _) d_Ma_move_147 hsz hP hS) (fun r29 σ28 _ => ?_)
                            refine v_pop S d_Ma_move_150 rfl ?_
                            exact v_vret S hret hlocks d_Ma_move_151
                          · refine v_tswQ S (12 : Int32) (tgt := 146) d_Ma_move_8 (by decide) (by decide) (off := 138) rfl (by decide) ?_ (fun h25 => ?_)
                            · refine v_aload_n S d_Ma_move_146 rfl rfl ?_
                              refine v_ci (rest := []) (fun _ _ hg H locs ls hsz hP hS => run_V (As := []) (rest := []) S kC_ok hKK (c_Fr_pop l D ca ax b σ i0 hi0 hg) (k_Ma_179 S.2.2.2.2 (fun _ => List.mem_cons_of_mem _) ⟨Nat.le_of_ble_eq_true rfl, Nat.le_of_ble_eq_true rfl⟩) (rc_w hKK.1 hP (19 + 2 * i0) (fr_lt hi0) (ce_fr hi0) rfl) rfl rfl (Nat.zero_le _) d_Ma_move_147 hsz hP hS) (fun r29 σ28 _ => ?_)
                              refine v_pop S d_Ma_move_150 rfl ?_
                              exact v_vret S hret hlocks d_Ma_move_151
                            · refine v_tswQ S (13 : Int32) (tgt := 146) d_Ma_move_8 (by decide) (by decide) (off := 138) rfl (by decide) ?_ (fun h26 => ?_)
                              · refine v_aload_n S d_Ma_move_146 rfl rfl ?_
                                refine v_ci (rest := []) (fun _ _ hg H locs ls hsz hP hS => run_V (As := []) (rest := []) S kC_ok hKK (c_Fr_pop l D ca ax b σ i0 hi0 hg) (k_Ma_179 S.2.2.2.2 (fun _ => List.mem_cons_of_mem _) ⟨Nat.le_of_ble_eq_true rfl, Nat.le_of_ble_eq_true rfl⟩) (rc_w hKK.1 hP (19 + 2 * i0) (fr_lt hi0) (ce_fr hi0) rfl) rfl rfl (Nat.zero_le _) d_Ma_move_147 hsz hP hS) (fun r29 σ28 _ => ?_)
                                refine v_pop S d_Ma_move_150 rfl ?_
                                exact v_vret S hret hlocks d_Ma_move_151
                              · refine v_tswQ S (14 : Int32) (tgt := 146) d_Ma_move_8 (by decide) (by decide) (off := 138) rfl (by decide) ?_ (fun h27 => ?_)
                                · refine v_aload_n S d_Ma_move_146 rfl rfl ?_
                                  refine v_ci (rest := []) (fun _ _ hg H locs ls hsz hP hS => run_V (As := []) (rest := []) S kC_ok hKK (c_Fr_pop l D ca ax b σ i0 hi0 hg) (k_Ma_179 S.2.2.2.2 (fun _ => List.mem_cons_of_mem _) ⟨Nat.le_of_ble_eq_true rfl, Nat.le_of_ble_eq_true rfl⟩) (rc_w hKK.1 hP (19 + 2 * i0) (fr_lt hi0) (ce_fr hi0) rfl) rfl rfl (Nat.zero_le _) d_Ma_move_147 hsz hP hS) (fun r29 σ28 _ => ?_)
                                  refine v_pop S d_Ma_move_150 rfl ?_
                                  exact v_vret S hret hlocks d_Ma_move_151
                                · refine v_tswD S (tgt := 146) d_Ma_move_8 (by have nh2 := i32_ne (n := 1) h2 (by decide); have nh4 := i32_ne (n := 2) h4 (by decide); have nh6 := i32_ne (n := 3) h6 (by decide); have nh12 := i32_ne (n := 4) h12 (by decide); have nh14 := i32_ne (n := 15) h14 (by decide); have nh16 := i32_ne (n := 16) h16 (by decide); have nh18 := i32_ne (n := 5) h18 (by decide); have nh19 := i32_ne (n := 6) h19 (by decide); have nh20 := i32_ne (n := 7) h20 (by decide); have nh21 := i32_ne (n := 8) h21 (by decide); have nh22 := i32_ne (n := 9) h22 (by decide); have nh23 := i32_ne (n := 10) h23 (by decide); have nh24 := i32_ne (n := 11) h24 (by decide); have nh25 := i32_ne (n := 12) h25 (by decide); have nh26 := i32_ne (n := 13) h26 (by decide); have nh27 := i32_ne (n := 14) h27 (by decide); omega) (by decide) ?_
                                  refine v_aload_n S d_Ma_move_146 rfl rfl ?_
                                  refine v_ci (rest := []) (fun _ _ hg H locs ls hsz hP hS => run_V (As := []) (rest := []) S kC_ok hKK (c_Fr_pop l D ca ax b σ i0 hi0 hg) (k_Ma_179 S.2.2.2.2 (fun _ => List.mem_cons_of_mem _) ⟨Nat.le_of_ble_eq_true rfl, Nat.le_of_ble_eq_true rfl⟩) (rc_w hKK.1 hP (19 + 2 * i0) (fr_lt hi0) (ce_fr hi0) rfl) rfl rfl (Nat.zero_le _) d_Ma_move_147 hsz hP hS) (fun r29 σ28 _ => ?_)
                                  refine v_pop S d_Ma_move_150 rfl ?_
                                  exact v_vret S hret hlocks d_Ma_move_151
def fn_Ma_act (σ : mm_M) (i0 : Nat) (o1 : Nat) (a2 : Int32) : Option (mm_M) :=
    (if ((nI o1) < 0 ∨ 20 ≤ (nI o1).toNatClampNeg) then none else
    (if (sw_op (nI o1).toNatClampNeg) = (5 : Int32) then
    (bv (fn_Ma_enter σ i0 a2) (fun σ3 =>
    (some σ3)))
    else
    (if (sw_op (nI o1).toNatClampNeg) = (6 : Int32) then
    (bv (fn_Ma_leave σ i0) (fun σ5 =>
    (some σ5)))
    else
    (if (sw_op (nI o1).toNatClampNeg) = (7 : Int32) then
    (bv (fn_Ma_reckon σ i0 o1) (fun σ7 =>
    (some σ7)))
    else
    (if (sw_op (nI o1).toNatClampNeg) = (8 : Int32) then
    (bv (fn_Ma_useArray σ i0 o1) (fun σ9 =>
    (some σ9)))
    else
    (if (sw_op (nI o1).toNatClampNeg) = (9 : Int32) then
    (bv (fn_Ma_useArray σ i0 o1) (fun σ11 =>
    (some σ11)))
    else
    (if (sw_op (nI o1).toNatClampNeg) = (10 : Int32) then
    (bv (fn_Ma_useArray σ i0 o1) (fun σ13 =>
    (some σ13)))
    else
    (if (sw_op (nI o1).toNatClampNeg) = (11 : Int32) then
    (bv (fn_Ma_useArray σ i0 o1) (fun σ15 =>
    (some σ15)))
    else
    (if (sw_op (nI o1).toNatClampNeg) = (12 : Int32) then
    (bv (fn_Ma_reckon σ i0 o1) (fun σ17 =>
    (some σ17)))
    else
    (if (sw_op (nI o1).toNatClampNeg) = (13 : Int32) then
    (bv (fn_Ma_reckon σ i0 o1) (fun σ19 =>
    (some σ19)))
    else
    (if (sw_op (nI o1).toNatClampNeg) = (14 : Int32) then
    (bv (fn_Ma_reckon σ i0 o1) (fun σ21 =>
    (some σ21)))
    else
    (bv (fn_Ma_move σ i0 o1 a2) (fun σ22 =>
    (some σ22))))))))))))))
set_option maxRecDepth 100000 in
set_option maxHeartbeats 40000000 in
theorem c_Ma_act (l : Launch) (D : va_G) (ca : Nat → ClassId) (ax : Nat → Nat → Nat) (b : Nat) (σ : mm_M) (i0 : Nat) (o1 : Nat) (a2 : Int32) (hi0 : i0 < 8) (ho1 : o1 < 20) {σ' : mm_M} (hf : fn_Ma_act σ i0 o1 a2 = some σ') : Met l y_Ma_act w_Ma_act rm_Ma_act (pc_w D cls b N_C (ce_C ca b) (kC D ca ax b) [.ref (b + 16), .ref (b + (19 + 2 * i0)), .ref (ax 0 o1), .int a2] σ) (qc_v D cls b N_C (ce_C ca b) σ') 0 0 (mm_A b N_C) := by
  refine vv_go (cc := b_Ma_act) (maxL := 4) (ret := none) (fin := σ') (k := fn_Ma_act σ i0 o1 a2) (by decide) rfl (by simp [Value.category]) (Nat.le_of_ble_eq_true rfl) hf ?_
  intro p e s m below meth c hlocks hret S hKK
  unfold fn_Ma_act
  refine v_gets S (kc_zOp hKK) (S.2.2.2.2 _ (List.mem_cons_of_mem _ (wd_538))) (fun _ h => h) d_Ma_act_0 ?_
  refine v_aload_n S d_Ma_act_3 rfl rfl ?_
  refine v_ordO (rest := [.ref (ax 3 0)]) S hKK ho1 (k_Ma_126 S.2.2.2.2 (fun _ => List.mem_cons_of_mem _) ⟨Nat.le_of_ble_eq_true rfl, Nat.le_of_ble_eq_true rfl⟩) (by simp [Value.category]) d_Ma_act_4 ?_
  refine v_ti0 S (kc_swOp hKK) d_Ma_act_7 (fun h1 => ?_)
  refine v_tsw S (5 : Int32) (tgt := 81) d_Ma_act_8 (by decide) (by decide) (off := 73) rfl (by decide) (fun h2 => ?_) (fun h2 => ?_)
  · refine v_aload_n S d_Ma_act_81 rfl rfl ?_
    refine v_aload_n S d_Ma_act_82 rfl rfl ?_
    refine v_iload_n S d_Ma_act_83 rfl rfl ?_
    refine v_cv (rest := []) (fun _ hg H locs ls hsz hP hS => run_V (As := [.ref (b + (19 + 2 * i0)), .int a2]) (rest := []) S kC_ok hKK (c_Ma_enter l D ca ax b σ i0 a2 hi0 hg) (k_Ma_189 S.2.2.2.2 (fun _ => List.mem_cons_of_mem _) ⟨Nat.le_of_ble_eq_true rfl, Nat.le_of_ble_eq_true rfl⟩) (rc_w hKK.1 hP 16 (by decide) rfl rfl) rfl rfl (Nat.zero_le _) d_Ma_act_84 hsz hP hS) (fun σ3 _ => ?_)
    refine v_goto S d_Ma_act_87 (tgt := 104) (by decide) ?_
    exact v_vret S hret hlocks d_Ma_act_104
  · refine v_tsw S (6 : Int32) (tgt := 90) d_Ma_act_8 (by decide) (by decide) (off := 82) rfl (by decide) (fun h4 => ?_) (fun h4 => ?_)
    · refine v_aload_n S d_Ma_act_90 rfl rfl ?_
      refine v_aload_n S d_Ma_act_91 rfl rfl ?_
      refine v_cv (rest := []) (fun _ hg H locs ls hsz hP hS => run_V (As := [.ref (b + (19 + 2 * i0))]) (rest := []) S kC_ok hKK (c_Ma_leave l D ca ax b σ i0 hi0 hg) (k_Ma_193 S.2.2.2.2 (fun _ => List.mem_cons_of_mem _) ⟨Nat.le_of_ble_eq_true rfl, Nat.le_of_ble_eq_true rfl⟩) (rc_w hKK.1 hP 16 (by decide) rfl rfl) rfl rfl (Nat.zero_le _) d_Ma_act_92 hsz hP hS) (fun σ5 _ => ?_)
      refine v_goto S d_Ma_act_95 (tgt := 104) (by decide) ?_
      exact v_vret S hret hlocks d_Ma_act_104
    · refine v_tsw S (7 : Int32) (tgt := 64) d_Ma_act_8 (by decide) (by decide) (off := 56) rfl (by decide) (fun h6 => ?_) (fun h6 => ?_)
      · refine v_aload_n S d_Ma_act_64 rfl rfl ?_
        refine v_aload_n S d_Ma_act_65 rfl rfl ?_
        refine v_cv (rest := []) (fun _ hg H locs ls hsz hP hS => run_S (As := [.ref (b + (19 + 2 * i0)), .ref (ax 0 o1)]) (rest := []) S kC_ok hKK (c_Ma_reckon l D ca ax b σ i0 o1 hi0 ho1 hg) (k_Ma_182 S.2.2.2.2 (fun _ => List.mem_cons_of_mem _) ⟨Nat.le_of_ble_eq_true rfl, Nat.le_of_ble_eq_true rfl⟩) rfl rfl (Nat.zero_le _) d_Ma_act_66 hsz hP hS) (fun σ7 _ => ?_)
        refine v_goto S d_Ma_act_69 (tgt := 104) (by decide) ?_
        exact v_vret S hret hlocks d_Ma_act_104
      · refine v_tsw S (8 : Int32) (tgt := 72) d_Ma_act_8 (by decide) (by decide) (off := 64) rfl (by decide) (fun h8 => ?_) (fun h8 => ?_)
        · refine v_aload_n S d_Ma_act_72 rfl rfl ?_
          refine v_aload_n S d_Ma_act_73 rfl rfl ?_
          refine v_aload_n S d_Ma_act_74 rfl rfl ?_
          refine v_cv (rest := []) (fun _ hg H locs ls hsz hP hS => run_V (As := [.ref (b + (19 + 2 * i0)), .ref (ax 0 o1)]) (rest := []) S kC_ok hKK (c_Ma_useArray l D ca ax b σ i0 o1 hi0 ho1 hg) (k_Ma_186 S.2.2.2.2 (fun _ => List.mem_cons_of_mem _) ⟨Nat.le_of_ble_eq_true rfl, Nat.le_of_ble_eq_true rfl⟩) (rc_w hKK.1 hP 16 (by decide) rfl rfl) rfl rfl (Nat.zero_le _) d_Ma_act_75 hsz hP hS) (fun σ9 _ => ?_)
          refine v_goto S d_Ma_act_78 (tgt := 104) (by decide) ?_
          exact v_vret S hret hlocks d_Ma_act_104
        · refine v_tsw S (9 : Int32) (tgt := 72) d_Ma_act_8 (by decide) (by decide) (off := 64) rfl (by decide) (fun h10 => ?_) (fun h10 => ?_)
          · refine v_aload_n S d_Ma_act_72 rfl rfl ?_
            refine v_aload_n S d_Ma_act_73 rfl rfl ?_
            refine v_aload_n S d_Ma_act_74 rfl rfl ?_
            refine v_cv (rest := []) (fun _ hg H locs ls hsz hP hS => run_V (As := [.ref (b + (19 + 2 * i0)), .ref (ax 0 o1)]) (rest := []) S kC_ok hKK (c_Ma_useArray l D ca ax b σ i0 o1 hi0 ho1 hg) (k_Ma_186 S.2.2.2.2 (fun _ => List.mem_cons_of_mem _) ⟨Nat.le_of_ble_eq_true rfl, Nat.le_of_ble_eq_true rfl⟩) (rc_w hKK.1 hP 16 (by decide) rfl rfl) rfl rfl (Nat.zero_le _) d_Ma_act_75 hsz hP hS) (fun σ11 _ => ?_)
            refine v_goto S d_Ma_act_78 (tgt := 104) (by decide) ?_
            exact v_vret S hret hlocks d_Ma_act_104
          · refine v_tsw S (10 : Int32) (tgt := 72) d_Ma_act_8 (by decide) (by decide) (off := 64) rfl (by decide) (fun h12 => ?_) (fun h12 => ?_)
            · refine v_aload_n S d_Ma_act_72 rfl rfl ?_
              refine v_aload_n S d_Ma_act_73 rfl rfl ?_
              refine v_aload_n S d_Ma_act_74 rfl rfl ?_
              refine v_cv (rest := []) (fun _ hg H locs ls hsz hP hS => run_V (As := [.ref (b + (19 + 2 * i0)), .ref (ax 0 o1)]) (rest := []) S kC_ok hKK (c_Ma_useArray l D ca ax b σ i0 o1 hi0 ho1 hg) (k_Ma_186 S.2.2.2.2 (fun _ => List.mem_cons_of_mem _) ⟨Nat.le_of_ble_eq_true rfl, Nat.le_of_ble_eq_true rfl⟩) (rc_w hKK.1 hP 16 (by decide) rfl rfl) rfl rfl (Nat.zero_le _) d_Ma_act_75 hsz hP hS) (fun σ13 _ => ?_)
              refine v_goto S d_Ma_act_78 (tgt := 104) (by decide) ?_
              exact v_vret S hret hlocks d_Ma_act_104
            · refine v_tsw S (11 : Int32) (tgt := 72) d_Ma_act_8 (by decide) (by decide) (off := 64) rfl (by decide) (fun h14 => ?_) (fun h14 => ?_)
              · refine v_aload_n S d_Ma_act_72 rfl rfl ?_
                refine v_aload_n S d_Ma_act_73 rfl rfl ?_
                refine v_aload_n S d_Ma_act_74 rfl rfl ?_
                refine v_cv (rest := []) (fun _ hg H locs ls hsz hP hS => run_V (As := [.ref (b + (19 + 2 * i0)), .ref (ax 0 o1)]) (rest := []) S kC_ok hKK (c_Ma_useArray l D ca ax b σ i0 o1 hi0 ho1 hg) (k_Ma_186 S.2.2.2.2 (fun _ => List.mem_cons_of_mem _) ⟨Nat.le_of_ble_eq_true rfl, Nat.le_of_ble_eq_true rfl⟩) (rc_w hKK.1 hP 16 (by decide) rfl rfl) rfl rfl (Nat.zero_le _) d_Ma_act_75 hsz hP hS) (fun σ15 _ => ?_)
                refine v_goto S d_Ma_act_78 (tgt := 104) (by decide) ?_
                exact v_vret S hret hlocks d_Ma_act_104
              · refine v_tsw S (12 : Int32) (tgt := 64) d_Ma_act_8 (by decide) (by decide) (off := 56) rfl (by decide) (fun h16 => ?_) (fun h16 => ?_)
                · refine v_aload_n S d_Ma_act_64 rfl rfl ?_
                  refine v_aload_n S d_Ma_act_65 rfl rfl ?_
                  refine v_cv (rest := []) (fun _ hg H locs ls hsz hP hS => run_S (As := [.ref (b + (19 + 2 * i0)), .ref (ax 0 o1)]) (rest := []) S kC_ok hKK (c_Ma_reckon l D ca ax b σ i0 o1 hi0 ho1 hg) (k_Ma_182 S.2.2.2.2 (fun _ => List.mem_cons_of_mem _) ⟨Nat.le_of_ble_eq_true rfl, Nat.le_of_ble_eq_true rfl⟩) rfl rfl (Nat.zero_le _) d_Ma_act_66 hsz hP hS) (fun σ17 _ => ?_)
                  refine v_goto S d_Ma_act_69 (tgt := 104) (by decide) ?_
                  exact v_vret S hret hlocks d_Ma_act_104
                · refine v_tsw S (13 : Int32) (tgt := 64) d_Ma_act_8 (by decide) (by decide) (off := 56) rfl (by decide) (fun h18 => ?_) (fun h18 => ?_)
                  · refine v_aload_n S d_Ma_act_64 rfl rfl ?_
                    refine v_aload_n S d_Ma_act_65 rfl rfl ?_
                    refine v_cv (rest := []) (fun _ hg H locs ls hsz hP hS => run_S (As := [.ref (b + (19 + 2 * i0)), .ref (ax 0 o1)]) (rest := []) S kC_ok hKK (c_Ma_reckon l D ca ax b σ i0 o1 hi0 ho1 hg) (k_Ma_182 S.2.2.2.2 (fun _ => List.mem_cons_of_mem _) ⟨Nat.le_of_ble_eq_true rfl, Nat.le_of_ble_eq_true rfl⟩) rfl rfl (Nat.zero_le _) d_Ma_act_66 hsz hP hS) (fun σ19 _ => ?_)
                    refine v_goto S d_Ma_act_69 (tgt := 104) (by decide) ?_
                    exact v_vret S hret hlocks d_Ma_act_104
                  · refine v_tsw S (14 : Int32) (tgt := 64) d_Ma_act_8 (by decide) (by decide) (off := 56) rfl (by decide) (fun h20 => ?_) (fun h20 => ?_)
                    · refine v_aload_n S d_Ma_act_64 rfl rfl ?_
                      refine v_aload_n S d_Ma_act_65 rfl rfl ?_
                      refine v_cv (rest := []) (fun _ hg H locs ls hsz hP hS => run_S (As := [.ref (b + (19 + 2 * i0)), .ref (ax 0 o1)]) (rest := []) S kC_ok hKK (c_Ma_reckon l D ca ax b σ i0 o1 hi0 ho1 hg) (k_Ma_182 S.2.2.2.2 (fun _ => List.mem_cons_of_mem _) ⟨Nat.le_of_ble_eq_true rfl, Nat.le_of_ble_eq_true rfl⟩) rfl rfl (Nat.zero_le _) d_Ma_act_66 hsz hP hS) (fun σ21 _ => ?_)
                      refine v_goto S d_Ma_act_69 (tgt := 104) (by decide) ?_
                      exact v_vret S hret hlocks d_Ma_act_104
                    · refine v_tswD S (tgt := 98) d_Ma_act_8 (by have nh2 := i32_ne (n := 5) h2 (by decide); have nh4 := i32_ne (n := 6) h4 (by decide); have nh6 := i32_ne (n := 7) h6 (by decide); have nh8 := i32_ne (n := 8) h8 (by decide); have nh10 := i32_ne (n := 9) h10 (by decide); have nh12 := i32_ne (n := 10) h12 (by decide); have nh14 := i32_ne (n := 11) h14 (by decide); have nh16 := i32_ne (n := 12) h16 (by decide); have nh18 := i32_ne (n := 13) h18 (by decide); have nh20 := i32_ne (n := 14) h20 (by decide); omega) (by decide) ?_
                      refine v_aload_n S d_Ma_act_98 rfl rfl ?_
                      refine v_aload_n S d_Ma_act_99 rfl rfl ?_
                      refine v_iload_n S d_Ma_act_100 rfl rfl ?_
                      refine v_cv (rest := []) (fun _ hg H locs ls hsz hP hS => run_S (As := [.ref (b + (19 + 2 * i0)), .ref (ax 0 o1), .int a2]) (rest := []) S kC_ok hKK (c_Ma_move l D ca ax b σ i0 o1 a2 hi0 ho1 hg) (k_Ma_197 S.2.2.2.2 (fun _ => List.mem_cons_of_mem _) ⟨Nat.le_of_ble_eq_true rfl, Nat.le_of_ble_eq_true rfl⟩) rfl rfl (Nat.zero_le _) d_Ma_act_101 hsz hP hS) (fun σ22 _ => ?_)
                      exact v_vret S hret hlocks d_Ma_act_104
end
section
/-! names of 11.verifier -/
def y_FV_forgetVerification : MethodName := ⟨"FrameVerifier", "forgetVerification", "()V"⟩
abbrev b_FV_forgetVerification : ByteArray := prog_1_method_13_code
def rm_FV_forgetVerification : Room := { frames := 1, cells := 0, slots := 0, locals := 21 }
abbrev w_FV_forgetVerification : List Cond := Cond.code y_FV_forgetVerification b_FV_forgetVerification 1 none :: wG
theorem m_FV_forgetVerification : Cond.code y_FV_forgetVerification b_FV_forgetVerification 1 none ∈ wG := wg_t 163 (by decide +kernel) (by decide +kernel)
theorem q_FV_forgetVerification : y_FV_forgetVerification.cls ≠ "java/lang/invoke/MethodHandle" ∧ y_FV_forgetVerification.cls ≠ "java/lang/invoke/VarHandle" ∧ (parseMethodDescriptor y_FV_forgetVerification.desc).map (fun d => d.parameters.length) = some 0 := by decide +kernel
theorem g_FV_forgetVerification : Cond.initialized y_FV_forgetVerification.cls ∈ wG := wg_t 1 (by decide +kernel) (by decide +kernel)
theorem s_FV_forgetVerification : Cond.instanceMethod y_FV_forgetVerification ∈ wG := wg_t 162 (by decide +kernel) (by decide +kernel)
theorem e_FV_forgetVerification : Cond.selects "FrameVerifier" y_FV_forgetVerification y_FV_forgetVerification ∈ wG := wg_s (q := (y_FV_forgetVerification, 4)) 0 (by decide +kernel) (by decide +kernel)
theorem d_FV_forgetVerification_0 : decode b_FV_forgetVerification 0 = .ok (.aload_n 0, 1) := by decide +kernel
theorem d_FV_forgetVerification_1 : decode b_FV_forgetVerification 1 = .ok (.iconst 0, 1) := by decide +kernel
theorem d_FV_forgetVerification_2 : decode b_FV_forgetVerification 2 = .ok (.putfield 32, 3) := by decide +kernel
theorem d_FV_forgetVerification_5 : decode b_FV_forgetVerification 5 = .ok (.aload_n 0, 1) := by decide +kernel
theorem d_FV_forgetVerification_6 : decode b_FV_forgetVerification 6 = .ok (.getfield 21, 3) := by decide +kernel
theorem d_FV_forgetVerification_9 : decode b_FV_forgetVerification 9 = .ok (.invokevirtual 127, 3) := by decide +kernel
theorem d_FV_forgetVerification_12 : decode b_FV_forgetVerification 12 = .ok (.return_, 1) := by decide +kernel
def y_FV_routine : MethodName := ⟨"FrameVerifier", "routine", "(IIII)Z"⟩
abbrev b_FV_routine : ByteArray := prog_1_method_3_code
def rm_FV_routine : Room := { frames := 2, cells := 0, slots := 0, locals := 41 }
abbrev w_FV_routine : List Cond := Cond.code y_FV_routine b_FV_routine 5 (some .boolean) :: wG
theorem m_FV_routine : Cond.code y_FV_routine b_FV_routine 5 (some .boolean) ∈ wG := wg_t 159 (by decide +kernel) (by decide +kernel)
theorem q_FV_routine : y_FV_routine.cls ≠ "java/lang/invoke/MethodHandle" ∧ y_FV_routine.cls ≠ "java/lang/invoke/VarHandle" ∧ (parseMethodDescriptor y_FV_routine.desc).map (fun d => d.parameters.length) = some 4 := by decide +kernel
theorem g_FV_routine : Cond.initialized y_FV_routine.cls ∈ wG := wg_t 1 (by decide +kernel) (by decide +kernel)
theorem s_FV_routine : Cond.instanceMethod y_FV_routine ∈ wG := wg_t 157 (by decide +kernel) (by decide +kernel)
theorem e_FV_routine : Cond.selects "FrameVerifier" y_FV_routine y_FV_routine ∈ wG := wg_t 158 (by decide +kernel) (by decide +kernel)
theorem d_FV_routine_0 : decode b_FV_routine 0 = .ok (.iload_n 1, 1) := by decide +kernel
theorem d_FV_routine_1 : decode b_FV_routine 1 = .ok (.ifCond .lt (29), 3) := by decide +kernel
theorem d_FV_routine_4 : decode b_FV_routine 4 = .ok (.iload_n 1, 1) := by decide +kernel
theorem d_FV_routine_5 : decode b_FV_routine 5 = .ok (.iconst 4, 1) := by decide +kernel
theorem d_FV_routine_6 : decode b_FV_routine 6 = .ok (.if_icmp .ge (24), 3) := by decide +kernel
theorem d_FV_routine_9 : decode b_FV_routine 9 = .ok (.iload_n 3, 1) := by decide +kernel
theorem d_FV_routine_10 : decode b_FV_routine 10 = .ok (.ifCond .lt (20), 3) := by decide +kernel
theorem d_FV_routine_13 : decode b_FV_routine 13 = .ok (.iload_n 3, 1) := by decide +kernel
theorem d_FV_routine_14 : decode b_FV_routine 14 = .ok (.iconst 3, 1) := by decide +kernel
theorem d_FV_routine_15 : decode b_FV_routine 15 = .ok (.if_icmp .gt (15), 3) := by decide +kernel
theorem d_FV_routine_18 : decode b_FV_routine 18 = .ok (.iload 4, 2) := by decide +kernel
theorem d_FV_routine_20 : decode b_FV_routine 20 = .ok (.ifCond .lt (10), 3) := by decide +kernel
theorem d_FV_routine_23 : decode b_FV_routine 23 = .ok (.iload 4, 2) := by decide +kernel
theorem d_FV_routine_25 : decode b_FV_routine 25 = .ok (.bipush (15), 2) := by decide +kernel
theorem d_FV_routine_27 : decode b_FV_routine 27 = .ok (.if_icmp .le (5), 3) := by decide +kernel
theorem d_FV_routine_30 : decode b_FV_routine 30 = .ok (.iconst 0, 1) := by decide +kernel
theorem d_FV_routine_31 : decode b_FV_routine 31 = .ok (.ireturn, 1) := by decide +kernel
theorem d_FV_routine_32 : decode b_FV_routine 32 = .ok (.aload_n 0, 1) := by decide +kernel
theorem d_FV_routine_33 : decode b_FV_routine 33 = .ok (.invokevirtual 43, 3) := by decide +kernel
theorem d_FV_routine_36 : decode b_FV_routine 36 = .ok (.aload_n 0, 1) := by decide +kernel
theorem d_FV_routine_37 : decode b_FV_routine 37 = .ok (.getfield 12, 3) := by decide +kernel
theorem d_FV_routine_40 : decode b_FV_routine 40 = .ok (.iload_n 1, 1) := by decide +kernel
theorem d_FV_routine_41 : decode b_FV_routine 41 = .ok (.iload_n 2, 1) := by decide +kernel
theorem d_FV_routine_42 : decode b_FV_routine 42 = .ok (.iload_n 3, 1) := by decide +kernel
theorem d_FV_routine_43 : decode b_FV_routine 43 = .ok (.iload 4, 2) := by decide +kernel
theorem d_FV_routine_45 : decode b_FV_routine 45 = .ok (.invokevirtual 50, 3) := by decide +kernel
theorem d_FV_routine_48 : decode b_FV_routine 48 = .ok (.iconst 1, 1) := by decide +kernel
theorem d_FV_routine_49 : decode b_FV_routine 49 = .ok (.ireturn, 1) := by decide +kernel
def y_FV_verify : MethodName := ⟨"FrameVerifier", "verify", "()I"⟩
abbrev b_FV_verify : ByteArray := prog_1_method_4_code
def rm_FV_verify : Room := { frames := 10, cells := 0, slots := 0, locals := 231 }
abbrev w_FV_verify : List Cond := Cond.code y_FV_verify b_FV_verify 3 (some .int) :: wG
theorem m_FV_verify : Cond.code y_FV_verify b_FV_verify 3 (some .int) ∈ wG := wg_t 175 (by decide +kernel) (by decide +kernel)
theorem q_FV_verify : y_FV_verify.cls ≠ "java/lang/invoke/MethodHandle" ∧ y_FV_verify.cls ≠ "java/lang/invoke/VarHandle" ∧ (parseMethodDescriptor y_FV_verify.desc).map (fun d => d.parameters.length) = some 0 := by decide +kernel
theorem g_FV_verify : Cond.initialized y_FV_verify.cls ∈ wG := wg_t 1 (by decide +kernel) (by decide +kernel)
theorem s_FV_verify : Cond.instanceMethod y_FV_verify ∈ wG := wg_t 173 (by decide +kernel) (by decide +kernel)
theorem e_FV_verify : Cond.selects "FrameVerifier" y_FV_verify y_FV_verify ∈ wG := wg_t 174 (by decide +kernel) (by decide +kernel)
theorem d_FV_verify_0 : decode b_FV_verify 0 = .ok (.aload_n 0, 1) := by decide +kernel
theorem d_FV_verify_1 : decode b_FV_verify 1 = .ok (.iconst 0, 1) := by decide +kernel
theorem d_FV_verify_2 : decode b_FV_verify 2 = .ok (.putfield 32, 3) := by decide +kernel
theorem d_FV_verify_5 : decode b_FV_verify 5 = .ok (.aload_n 0, 1) := by decide +kernel
theorem d_FV_verify_6 : decode b_FV_verify 6 = .ok (.getfield 12, 3) := by decide +kernel
theorem d_FV_verify_9 : decode b_FV_verify 9 = .ok (.iconst 0, 1) := by decide +kernel
theorem d_FV_verify_10 : decode b_FV_verify 10 = .ok (.invokevirtual 54, 3) := by decide +kernel
theorem d_FV_verify_13 : decode b_FV_verify 13 = .ok (.ifCond .ne (7), 3) := by decide +kernel
theorem d_FV_verify_16 : decode b_FV_verify 16 = .ok (.sipush (1999), 3) := by decide +kernel
theorem d_FV_verify_19 : decode b_FV_verify 19 = .ok (.ireturn, 1) := by decide +kernel
theorem d_FV_verify_20 : decode b_FV_verify 20 = .ok (.iconst 0, 1) := by decide +kernel
theorem d_FV_verify_21 : decode b_FV_verify 21 = .ok (.istore_n 1, 1) := by decide +kernel
theorem d_FV_verify_22 : decode b_FV_verify 22 = .ok (.iload_n 1, 1) := by decide +kernel
theorem d_FV_verify_23 : decode b_FV_verify 23 = .ok (.iconst 4, 1) := by decide +kernel
theorem d_FV_verify_24 : decode b_FV_verify 24 = .ok (.if_icmp .ge (52), 3) := by decide +kernel
theorem d_FV_verify_27 : decode b_FV_verify 27 = .ok (.aload_n 0, 1) := by decide +kernel
theorem d_FV_verify_28 : decode b_FV_verify 28 = .ok (.getfield 12, 3) := by decide +kernel
theorem d_FV_verify_31 : decode b_FV_verify 31 = .ok (.iload_n 1, 1) := by decide +kernel
theorem d_FV_verify_32 : decode b_FV_verify 32 = .ok (.invokevirtual 54, 3) := by decide +kernel
theorem d_FV_verify_35 : decode b_FV_verify 35 = .ok (.ifCond .eq (35), 3) := by decide +kernel
theorem d_FV_verify_38 : decode b_FV_verify 38 = .ok (.aload_n 0, 1) := by decide +kernel
theorem d_FV_verify_39 : decode b_FV_verify 39 = .ok (.getfield 21, 3) := by decide +kernel
theorem d_FV_verify_42 : decode b_FV_verify 42 = .ok (.iload_n 1, 1) := by decide +kernel
theorem d_FV_verify_43 : decode b_FV_verify 43 = .ok (.invokevirtual 58, 3) := by decide +kernel
theorem d_FV_verify_46 : decode b_FV_verify 46 = .ok (.aload_n 0, 1) := by decide +kernel
theorem d_FV_verify_47 : decode b_FV_verify 47 = .ok (.getfield 21, 3) := by decide +kernel
theorem d_FV_verify_50 : decode b_FV_verify 50 = .ok (.iload_n 1, 1) := by decide +kernel
theorem d_FV_verify_51 : decode b_FV_verify 51 = .ok (.invokevirtual 62, 3) := by decide +kernel
theorem d_FV_verify_54 : decode b_FV_verify 54 = .ok (.istore_n 2, 1) := by decide +kernel
theorem d_FV_verify_55 : decode b_FV_verify 55 = .ok (.iload_n 2, 1) := by decide +kernel
theorem d_FV_verify_56 : decode b_FV_verify 56 = .ok (.iconst (-1), 1) := by decide +kernel
theorem d_FV_verify_57 : decode b_FV_verify 57 = .ok (.if_icmp .eq (13), 3) := by decide +kernel
theorem d_FV_verify_60 : decode b_FV_verify 60 = .ok (.sipush (1000), 3) := by decide +kernel
theorem d_FV_verify_63 : decode b_FV_verify 63 = .ok (.iconst 1, 1) := by decide +kernel
theorem d_FV_verify_64 : decode b_FV_verify 64 = .ok (.iload_n 1, 1) := by decide +kernel
theorem d_FV_verify_65 : decode b_FV_verify 65 = .ok (.iadd, 1) := by decide +kernel
theorem d_FV_verify_66 : decode b_FV_verify 66 = .ok (.imul, 1) := by decide +kernel
theorem d_FV_verify_67 : decode b_FV_verify 67 = .ok (.iload_n 2, 1) := by decide +kernel
theorem d_FV_verify_68 : decode b_FV_verify 68 = .ok (.iadd, 1) := by decide +kernel
theorem d_FV_verify_69 : decode b_FV_verify 69 = .ok (.ireturn, 1) := by decide +kernel
theorem d_FV_verify_70 : decode b_FV_verify 70 = .ok (.iinc 1 (1), 3) := by decide +kernel
theorem d_FV_verify_73 : decode b_FV_verify 73 = .ok (.goto (-51), 3) := by decide +kernel
theorem d_FV_verify_76 : decode b_FV_verify 76 = .ok (.aload_n 0, 1) := by decide +kernel
theorem d_FV_verify_77 : decode b_FV_verify 77 = .ok (.iconst 1, 1) := by decide +kernel
theorem d_FV_verify_78 : decode b_FV_verify 78 = .ok (.putfield 32, 3) := by decide +kernel
theorem d_FV_verify_81 : decode b_FV_verify 81 = .ok (.iconst 0, 1) := by decide +kernel
theorem d_FV_verify_82 : decode b_FV_verify 82 = .ok (.ireturn, 1) := by decide +kernel
def y_FV_isVerified : MethodName := ⟨"FrameVerifier", "isVerified", "()Z"⟩
abbrev b_FV_isVerified : ByteArray := prog_1_method_5_code
def rm_FV_isVerified : Room := { frames := 0, cells := 0, slots := 0, locals := 0 }
abbrev w_FV_isVerified : List Cond := Cond.code y_FV_isVerified b_FV_isVerified 1 (some .boolean) :: wG
theorem m_FV_isVerified : Cond.code y_FV_isVerified b_FV_isVerified 1 (some .boolean) ∈ wG := wg_t 372 (by decide +kernel) (by decide +kernel)
theorem q_FV_isVerified : y_FV_isVerified.cls ≠ "java/lang/invoke/MethodHandle" ∧ y_FV_isVerified.cls ≠ "java/lang/invoke/VarHandle" ∧ (parseMethodDescriptor y_FV_isVerified.desc).map (fun d => d.parameters.length) = some 0 := by decide +kernel
theorem g_FV_isVerified : Cond.initialized y_FV_isVerified.cls ∈ wG := wg_t 1 (by decide +kernel) (by decide +kernel)
theorem s_FV_isVerified : Cond.instanceMethod y_FV_isVerified ∈ wG := wg_t 370 (by decide +kernel) (by decide +kernel)
theorem e_FV_isVerified : Cond.selects "FrameVerifier" y_FV_isVerified y_FV_isVerified ∈ wG := wg_t 371 (by decide +kernel) (by decide +kernel)
theorem d_FV_isVerified_0 : decode b_FV_isVerified 0 = .ok (.aload_n 0, 1) := by decide +kernel
theorem d_FV_isVerified_1 : decode b_FV_isVerified 1 = .ok (.getfield 32, 3) := by decide +kernel
theorem d_FV_isVerified_4 : decode b_FV_isVerified 4 = .ok (.ireturn, 1) := by decide +kernel
def y_FV_type : MethodName := ⟨"FrameVerifier", "type", "(III)I"⟩
abbrev b_FV_type : ByteArray := prog_1_method_6_code
def rm_FV_type : Room := { frames := 10, cells := 0, slots := 0, locals := 231 }
abbrev w_FV_type : List Cond := Cond.code y_FV_type b_FV_type 5 (some .int) :: wG
theorem m_FV_type : Cond.code y_FV_type b_FV_type 5 (some .int) ∈ wG := wg_t 376 (by decide +kernel) (by decide +kernel)
theorem q_FV_type : y_FV_type.cls ≠ "java/lang/invoke/MethodHandle" ∧ y_FV_type.cls ≠ "java/lang/invoke/VarHandle" ∧ (parseMethodDescriptor y_FV_type.desc).map (fun d => d.parameters.length) = some 3 := by decide +kernel
theorem g_FV_type : Cond.initialized y_FV_type.cls ∈ wG := wg_t 1 (by decide +kernel) (by decide +kernel)
theorem s_FV_type : Cond.instanceMethod y_FV_type ∈ wG := wg_t 374 (by decide +kernel) (by decide +kernel)
theorem e_FV_type : Cond.selects "FrameVerifier" y_FV_type y_FV_type ∈ wG := wg_t 375 (by decide +kernel) (by decide +kernel)
theorem d_FV_type_0 : decode b_FV_type 0 = .ok (.aload_n 0, 1) := by decide +kernel
theorem d_FV_type_1 : decode b_FV_type 1 = .ok (.getfield 12, 3) := by decide +kernel
theorem d_FV_type_4 : decode b_FV_type 4 = .ok (.iload_n 1, 1) := by decide +kernel
theorem d_FV_type_5 : decode b_FV_type 5 = .ok (.invokevirtual 54, 3) := by decide +kernel
theorem d_FV_type_8 : decode b_FV_type 8 = .ok (.ifCond .eq (24), 3) := by decide +kernel
theorem d_FV_type_11 : decode b_FV_type 11 = .ok (.aload_n 0, 1) := by decide +kernel
theorem d_FV_type_12 : decode b_FV_type 12 = .ok (.getfield 12, 3) := by decide +kernel
theorem d_FV_type_15 : decode b_FV_type 15 = .ok (.iload_n 2, 1) := by decide +kernel
theorem d_FV_type_16 : decode b_FV_type 16 = .ok (.invokevirtual 66, 3) := by decide +kernel
theorem d_FV_type_19 : decode b_FV_type 19 = .ok (.ifCond .eq (13), 3) := by decide +kernel
theorem d_FV_type_22 : decode b_FV_type 22 = .ok (.iload_n 3, 1) := by decide +kernel
theorem d_FV_type_23 : decode b_FV_type 23 = .ok (.ifCond .lt (9), 3) := by decide +kernel
theorem d_FV_type_26 : decode b_FV_type 26 = .ok (.iload_n 3, 1) := by decide +kernel
theorem d_FV_type_27 : decode b_FV_type 27 = .ok (.bipush (12), 2) := by decide +kernel
theorem d_FV_type_29 : decode b_FV_type 29 = .ok (.if_icmp .lt (5), 3) := by decide +kernel
theorem d_FV_type_32 : decode b_FV_type 32 = .ok (.iconst (-1), 1) := by decide +kernel
theorem d_FV_type_33 : decode b_FV_type 33 = .ok (.ireturn, 1) := by decide +kernel
theorem d_FV_type_34 : decode b_FV_type 34 = .ok (.aload_n 0, 1) := by decide +kernel
theorem d_FV_type_35 : decode b_FV_type 35 = .ok (.getfield 21, 3) := by decide +kernel
theorem d_FV_type_38 : decode b_FV_type 38 = .ok (.iload_n 1, 1) := by decide +kernel
theorem d_FV_type_39 : decode b_FV_type 39 = .ok (.invokevirtual 58, 3) := by decide +kernel
theorem d_FV_type_42 : decode b_FV_type 42 = .ok (.aload_n 0, 1) := by decide +kernel
theorem d_FV_type_43 : decode b_FV_type 43 = .ok (.getfield 21, 3) := by decide +kernel
theorem d_FV_type_46 : decode b_FV_type 46 = .ok (.iload_n 1, 1) := by decide +kernel
theorem d_FV_type_47 : decode b_FV_type 47 = .ok (.iload_n 2, 1) := by decide +kernel
theorem d_FV_type_48 : decode b_FV_type 48 = .ok (.invokevirtual 69, 3) := by decide +kernel
theorem d_FV_type_51 : decode b_FV_type 51 = .ok (.istore 4, 2) := by decide +kernel
theorem d_FV_type_53 : decode b_FV_type 53 = .ok (.iload 4, 2) := by decide +kernel
theorem d_FV_type_55 : decode b_FV_type 55 = .ok (.bipush (-2), 2) := by decide +kernel
theorem d_FV_type_57 : decode b_FV_type 57 = .ok (.if_icmp .ne (6), 3) := by decide +kernel
theorem d_FV_type_60 : decode b_FV_type 60 = .ok (.bipush (-2), 2) := by decide +kernel
theorem d_FV_type_62 : decode b_FV_type 62 = .ok (.ireturn, 1) := by decide +kernel
theorem d_FV_type_63 : decode b_FV_type 63 = .ok (.iload 4, 2) := by decide +kernel
theorem d_FV_type_65 : decode b_FV_type 65 = .ok (.iconst (-1), 1) := by decide +kernel
theorem d_FV_type_66 : decode b_FV_type 66 = .ok (.if_icmp .eq (15), 3) := by decide +kernel
theorem d_FV_type_69 : decode b_FV_type 69 = .ok (.iload_n 3, 1) := by decide +kernel
theorem d_FV_type_70 : decode b_FV_type 70 = .ok (.bipush (6), 2) := by decide +kernel
theorem d_FV_type_72 : decode b_FV_type 72 = .ok (.iload 4, 2) := by decide +kernel
theorem d_FV_type_74 : decode b_FV_type 74 = .ok (.invokestatic 72, 3) := by decide +kernel
theorem d_FV_type_77 : decode b_FV_type 77 = .ok (.iadd, 1) := by decide +kernel
theorem d_FV_type_78 : decode b_FV_type 78 = .ok (.if_icmp .lt (5), 3) := by decide +kernel
theorem d_FV_type_81 : decode b_FV_type 81 = .ok (.iconst (-1), 1) := by decide +kernel
theorem d_FV_type_82 : decode b_FV_type 82 = .ok (.ireturn, 1) := by decide +kernel
theorem d_FV_type_83 : decode b_FV_type 83 = .ok (.iload 4, 2) := by decide +kernel
theorem d_FV_type_85 : decode b_FV_type 85 = .ok (.iload_n 3, 1) := by decide +kernel
theorem d_FV_type_86 : decode b_FV_type 86 = .ok (.invokestatic 77, 3) := by decide +kernel
theorem d_FV_type_89 : decode b_FV_type 89 = .ok (.ireturn, 1) := by decide +kernel
def y_FV_start : MethodName := ⟨"FrameVerifier", "start", "(III)Z"⟩
abbrev b_FV_start : ByteArray := prog_1_method_7_code
def rm_FV_start : Room := { frames := 4, cells := 0, slots := 0, locals := 92 }
abbrev w_FV_start : List Cond := Cond.code y_FV_start b_FV_start 4 (some .boolean) :: wG
theorem m_FV_start : Cond.code y_FV_start b_FV_start 4 (some .boolean) ∈ wG := wg_t 387 (by decide +kernel) (by decide +kernel)
theorem q_FV_start : y_FV_start.cls ≠ "java/lang/invoke/MethodHandle" ∧ y_FV_start.cls ≠ "java/lang/invoke/VarHandle" ∧ (parseMethodDescriptor y_FV_start.desc).map (fun d => d.parameters.length) = some 3 := by decide +kernel
theorem g_FV_start : Cond.initialized y_FV_start.cls ∈ wG := wg_t 1 (by decide +kernel) (by decide +kernel)
theorem s_FV_start : Cond.instanceMethod y_FV_start ∈ wG := wg_t 385 (by decide +kernel) (by decide +kernel)
theorem e_FV_start : Cond.selects "FrameVerifier" y_FV_start y_FV_start ∈ wG := wg_t 386 (by decide +kernel) (by decide +kernel)
theorem d_FV_start_0 : decode b_FV_start 0 = .ok (.aload_n 0, 1) := by decide +kernel
theorem d_FV_start_1 : decode b_FV_start 1 = .ok (.getfield 12, 3) := by decide +kernel
theorem d_FV_start_4 : decode b_FV_start 4 = .ok (.iconst 0, 1) := by decide +kernel
theorem d_FV_start_5 : decode b_FV_start 5 = .ok (.invokevirtual 54, 3) := by decide +kernel
theorem d_FV_start_8 : decode b_FV_start 8 = .ok (.ifCond .ne (5), 3) := by decide +kernel
theorem d_FV_start_11 : decode b_FV_start 11 = .ok (.iconst 0, 1) := by decide +kernel
theorem d_FV_start_12 : decode b_FV_start 12 = .ok (.ireturn, 1) := by decide +kernel
theorem d_FV_start_13 : decode b_FV_start 13 = .ok (.aload_n 0, 1) := by decide +kernel
theorem d_FV_start_14 : decode b_FV_start 14 = .ok (.getfield 28, 3) := by decide +kernel
theorem d_FV_start_17 : decode b_FV_start 17 = .ok (.iload_n 1, 1) := by decide +kernel
theorem d_FV_start_18 : decode b_FV_start 18 = .ok (.iload_n 2, 1) := by decide +kernel
theorem d_FV_start_19 : decode b_FV_start 19 = .ok (.iload_n 3, 1) := by decide +kernel
theorem d_FV_start_20 : decode b_FV_start 20 = .ok (.invokevirtual 80, 3) := by decide +kernel
theorem d_FV_start_23 : decode b_FV_start 23 = .ok (.iconst 1, 1) := by decide +kernel
theorem d_FV_start_24 : decode b_FV_start 24 = .ok (.ireturn, 1) := by decide +kernel
def y_FV_aboutTopFrame : MethodName := ⟨"FrameVerifier", "aboutTopFrame", "(I)I"⟩
abbrev b_FV_aboutTopFrame : ByteArray := prog_1_method_12_code
def rm_FV_aboutTopFrame : Room := { frames := 2, cells := 0, slots := 0, locals := 43 }
abbrev w_FV_aboutTopFrame : List Cond := Cond.code y_FV_aboutTopFrame b_FV_aboutTopFrame 3 (some .int) :: wG
theorem m_FV_aboutTopFrame : Cond.code y_FV_aboutTopFrame b_FV_aboutTopFrame 3 (some .int) ∈ wG := wg_t 421 (by decide +kernel) (by decide +kernel)
theorem q_FV_aboutTopFrame : y_FV_aboutTopFrame.cls ≠ "java/lang/invoke/MethodHandle" ∧ y_FV_aboutTopFrame.cls ≠ "java/lang/invoke/VarHandle" ∧ (parseMethodDescriptor y_FV_aboutTopFrame.desc).map (fun d => d.parameters.length) = some 1 := by decide +kernel
theorem g_FV_aboutTopFrame : Cond.initialized y_FV_aboutTopFrame.cls ∈ wG := wg_t 1 (by decide +kernel) (by decide +kernel)
theorem s_FV_aboutTopFrame : Cond.instanceMethod y_FV_aboutTopFrame ∈ wG := wg_t 420 (by decide +kernel) (by decide +kernel)
theorem e_FV_aboutTopFrame : Cond.selects "FrameVerifier" y_FV_aboutTopFrame y_FV_aboutTopFrame ∈ wG := wg_s (q := (y_FV_aboutTopFrame, 4)) 12 (by decide +kernel) (by decide +kernel)
theorem d_FV_aboutTopFrame_0 : decode b_FV_aboutTopFrame 0 = .ok (.aload_n 0, 1) := by decide +kernel
theorem d_FV_aboutTopFrame_1 : decode b_FV_aboutTopFrame 1 = .ok (.getfield 28, 3) := by decide +kernel
theorem d_FV_aboutTopFrame_4 : decode b_FV_aboutTopFrame 4 = .ok (.invokevirtual 106, 3) := by decide +kernel
theorem d_FV_aboutTopFrame_7 : decode b_FV_aboutTopFrame 7 = .ok (.astore_n 2, 1) := by decide +kernel
theorem d_FV_aboutTopFrame_8 : decode b_FV_aboutTopFrame 8 = .ok (.iload_n 1, 1) := by decide +kernel
theorem d_FV_aboutTopFrame_9 : decode b_FV_aboutTopFrame 9 = .ok (.tableswitch (79) (1) (4) #[(31), (36), (44), (52)], 31) := by decide +kernel
theorem d_FV_aboutTopFrame_40 : decode b_FV_aboutTopFrame 40 = .ok (.aload_n 2, 1) := by decide +kernel
theorem d_FV_aboutTopFrame_41 : decode b_FV_aboutTopFrame 41 = .ok (.getfield 115, 3) := by decide +kernel
theorem d_FV_aboutTopFrame_44 : decode b_FV_aboutTopFrame 44 = .ok (.ireturn, 1) := by decide +kernel
theorem d_FV_aboutTopFrame_45 : decode b_FV_aboutTopFrame 45 = .ok (.aload_n 0, 1) := by decide +kernel
theorem d_FV_aboutTopFrame_46 : decode b_FV_aboutTopFrame 46 = .ok (.getfield 28, 3) := by decide +kernel
theorem d_FV_aboutTopFrame_49 : decode b_FV_aboutTopFrame 49 = .ok (.getfield 118, 3) := by decide +kernel
theorem d_FV_aboutTopFrame_52 : decode b_FV_aboutTopFrame 52 = .ok (.ireturn, 1) := by decide +kernel
theorem d_FV_aboutTopFrame_53 : decode b_FV_aboutTopFrame 53 = .ok (.aload_n 2, 1) := by decide +kernel
theorem d_FV_aboutTopFrame_54 : decode b_FV_aboutTopFrame 54 = .ok (.getfield 121, 3) := by decide +kernel
theorem d_FV_aboutTopFrame_57 : decode b_FV_aboutTopFrame 57 = .ok (.invokestatic 72, 3) := by decide +kernel
theorem d_FV_aboutTopFrame_60 : decode b_FV_aboutTopFrame 60 = .ok (.ireturn, 1) := by decide +kernel
theorem d_FV_aboutTopFrame_61 : decode b_FV_aboutTopFrame 61 = .ok (.aload_n 2, 1) := by decide +kernel
theorem d_FV_aboutTopFrame_62 : decode b_FV_aboutTopFrame 62 = .ok (.getfield 121, 3) := by decide +kernel
theorem d_FV_aboutTopFrame_65 : decode b_FV_aboutTopFrame 65 = .ok (.invokestatic 72, 3) := by decide +kernel
theorem d_FV_aboutTopFrame_68 : decode b_FV_aboutTopFrame 68 = .ok (.ifCond .ne (7), 3) := by decide +kernel
theorem d_FV_aboutTopFrame_71 : decode b_FV_aboutTopFrame 71 = .ok (.iconst (-1), 1) := by decide +kernel
theorem d_FV_aboutTopFrame_72 : decode b_FV_aboutTopFrame 72 = .ok (.goto (15), 3) := by decide +kernel
theorem d_FV_aboutTopFrame_75 : decode b_FV_aboutTopFrame 75 = .ok (.aload_n 2, 1) := by decide +kernel
theorem d_FV_aboutTopFrame_76 : decode b_FV_aboutTopFrame 76 = .ok (.aload_n 2, 1) := by decide +kernel
theorem d_FV_aboutTopFrame_77 : decode b_FV_aboutTopFrame 77 = .ok (.getfield 121, 3) := by decide +kernel
theorem d_FV_aboutTopFrame_80 : decode b_FV_aboutTopFrame 80 = .ok (.iconst 0, 1) := by decide +kernel
theorem d_FV_aboutTopFrame_81 : decode b_FV_aboutTopFrame 81 = .ok (.invokestatic 124, 3) := by decide +kernel
theorem d_FV_aboutTopFrame_84 : decode b_FV_aboutTopFrame 84 = .ok (.invokevirtual 110, 3) := by decide +kernel
theorem d_FV_aboutTopFrame_87 : decode b_FV_aboutTopFrame 87 = .ok (.ireturn, 1) := by decide +kernel
theorem d_FV_aboutTopFrame_88 : decode b_FV_aboutTopFrame 88 = .ok (.iconst (-1), 1) := by decide +kernel
theorem d_FV_aboutTopFrame_89 : decode b_FV_aboutTopFrame 89 = .ok (.ireturn, 1) := by decide +kernel
def y_FV_about : MethodName := ⟨"FrameVerifier", "about", "(I)I"⟩
abbrev b_FV_about : ByteArray := prog_1_method_10_code
def rm_FV_about : Room := { frames := 3, cells := 0, slots := 0, locals := 65 }
abbrev w_FV_about : List Cond := Cond.code y_FV_about b_FV_about 2 (some .int) :: wG
theorem m_FV_about : Cond.code y_FV_about b_FV_about 2 (some .int) ∈ wG := wg_t 413 (by decide +kernel) (by decide +kernel)
theorem q_FV_about : y_FV_about.cls ≠ "java/lang/invoke/MethodHandle" ∧ y_FV_about.cls ≠ "java/lang/invoke/VarHandle" ∧ (parseMethodDescriptor y_FV_about.desc).map (fun d => d.parameters.length) = some 1 := by decide +kernel
theorem g_FV_about : Cond.initialized y_FV_about.cls ∈ wG := wg_t 1 (by decide +kernel) (by decide +kernel)
theorem s_FV_about : Cond.instanceMethod y_FV_about ∈ wG := wg_t 411 (by decide +kernel) (by decide +kernel)
theorem e_FV_about : Cond.selects "FrameVerifier" y_FV_about y_FV_about ∈ wG := wg_t 412 (by decide +kernel) (by decide +kernel)
theorem d_FV_about_0 : decode b_FV_about 0 = .ok (.iload_n 1, 1) := by decide +kernel
theorem d_FV_about_1 : decode b_FV_about 1 = .ok (.tableswitch (87) (0) (7) #[(47), (87), (87), (87), (87), (63), (71), (79)], 47) := by decide +kernel
theorem d_FV_about_48 : decode b_FV_about 48 = .ok (.aload_n 0, 1) := by decide +kernel
theorem d_FV_about_49 : decode b_FV_about 49 = .ok (.getfield 28, 3) := by decide +kernel
theorem d_FV_about_52 : decode b_FV_about 52 = .ok (.invokevirtual 84, 3) := by decide +kernel
theorem d_FV_about_55 : decode b_FV_about 55 = .ok (.ifCond .eq (7), 3) := by decide +kernel
theorem d_FV_about_58 : decode b_FV_about 58 = .ok (.iconst 1, 1) := by decide +kernel
theorem d_FV_about_59 : decode b_FV_about 59 = .ok (.goto (4), 3) := by decide +kernel
theorem d_FV_about_62 : decode b_FV_about 62 = .ok (.iconst 0, 1) := by decide +kernel
theorem d_FV_about_63 : decode b_FV_about 63 = .ok (.ireturn, 1) := by decide +kernel
theorem d_FV_about_64 : decode b_FV_about 64 = .ok (.aload_n 0, 1) := by decide +kernel
theorem d_FV_about_65 : decode b_FV_about 65 = .ok (.getfield 28, 3) := by decide +kernel
theorem d_FV_about_68 : decode b_FV_about 68 = .ok (.getfield 94, 3) := by decide +kernel
theorem d_FV_about_71 : decode b_FV_about 71 = .ok (.ireturn, 1) := by decide +kernel
theorem d_FV_about_72 : decode b_FV_about 72 = .ok (.aload_n 0, 1) := by decide +kernel
theorem d_FV_about_73 : decode b_FV_about 73 = .ok (.getfield 28, 3) := by decide +kernel
theorem d_FV_about_76 : decode b_FV_about 76 = .ok (.getfield 97, 3) := by decide +kernel
theorem d_FV_about_79 : decode b_FV_about 79 = .ok (.ireturn, 1) := by decide +kernel
theorem d_FV_about_80 : decode b_FV_about 80 = .ok (.aload_n 0, 1) := by decide +kernel
theorem d_FV_about_81 : decode b_FV_about 81 = .ok (.getfield 12, 3) := by decide +kernel
theorem d_FV_about_84 : decode b_FV_about 84 = .ok (.getfield 36, 3) := by decide +kernel
theorem d_FV_about_87 : decode b_FV_about 87 = .ok (.ireturn, 1) := by decide +kernel
theorem d_FV_about_88 : decode b_FV_about 88 = .ok (.aload_n 0, 1) := by decide +kernel
theorem d_FV_about_89 : decode b_FV_about 89 = .ok (.getfield 28, 3) := by decide +kernel
theorem d_FV_about_92 : decode b_FV_about 92 = .ok (.invokevirtual 84, 3) := by decide +kernel
theorem d_FV_about_95 : decode b_FV_about 95 = .ok (.ifCond .eq (11), 3) := by decide +kernel
theorem d_FV_about_98 : decode b_FV_about 98 = .ok (.aload_n 0, 1) := by decide +kernel
theorem d_FV_about_99 : decode b_FV_about 99 = .ok (.iload_n 1, 1) := by decide +kernel
theorem d_FV_about_100 : decode b_FV_about 100 = .ok (.invokevirtual 100, 3) := by decide +kernel
theorem d_FV_about_103 : decode b_FV_about 103 = .ok (.goto (4), 3) := by decide +kernel
theorem d_FV_about_106 : decode b_FV_about 106 = .ok (.iconst (-1), 1) := by decide +kernel
theorem d_FV_about_107 : decode b_FV_about 107 = .ok (.ireturn, 1) := by decide +kernel
def y_FV_local : MethodName := ⟨"FrameVerifier", "local", "(I)I"⟩
abbrev b_FV_local : ByteArray := prog_1_method_11_code
def rm_FV_local : Room := { frames := 2, cells := 0, slots := 0, locals := 43 }
abbrev w_FV_local : List Cond := Cond.code y_FV_local b_FV_local 2 (some .int) :: wG
theorem m_FV_local : Cond.code y_FV_local b_FV_local 2 (some .int) ∈ wG := wg_t 435 (by decide +kernel) (by decide +kernel)
theorem q_FV_local : y_FV_local.cls ≠ "java/lang/invoke/MethodHandle" ∧ y_FV_local.cls ≠ "java/lang/invoke/VarHandle" ∧ (parseMethodDescriptor y_FV_local.desc).map (fun d => d.parameters.length) = some 1 := by decide +kernel
theorem g_FV_local : Cond.initialized y_FV_local.cls ∈ wG := wg_t 1 (by decide +kernel) (by decide +kernel)
theorem s_FV_local : Cond.instanceMethod y_FV_local ∈ wG := wg_t 433 (by decide +kernel) (by decide +kernel)
theorem e_FV_local : Cond.selects "FrameVerifier" y_FV_local y_FV_local ∈ wG := wg_t 434 (by decide +kernel) (by decide +kernel)
theorem d_FV_local_0 : decode b_FV_local 0 = .ok (.iload_n 1, 1) := by decide +kernel
theorem d_FV_local_1 : decode b_FV_local 1 = .ok (.invokestatic 103, 3) := by decide +kernel
theorem d_FV_local_4 : decode b_FV_local 4 = .ok (.ifCond .eq (13), 3) := by decide +kernel
theorem d_FV_local_7 : decode b_FV_local 7 = .ok (.aload_n 0, 1) := by decide +kernel
theorem d_FV_local_8 : decode b_FV_local 8 = .ok (.getfield 28, 3) := by decide +kernel
theorem d_FV_local_11 : decode b_FV_local 11 = .ok (.invokevirtual 84, 3) := by decide +kernel
theorem d_FV_local_14 : decode b_FV_local 14 = .ok (.ifCond .ne (5), 3) := by decide +kernel
theorem d_FV_local_17 : decode b_FV_local 17 = .ok (.iconst (-1), 1) := by decide +kernel
theorem d_FV_local_18 : decode b_FV_local 18 = .ok (.ireturn, 1) := by decide +kernel
theorem d_FV_local_19 : decode b_FV_local 19 = .ok (.aload_n 0, 1) := by decide +kernel
theorem d_FV_local_20 : decode b_FV_local 20 = .ok (.getfield 28, 3) := by decide +kernel
theorem d_FV_local_23 : decode b_FV_local 23 = .ok (.invokevirtual 106, 3) := by decide +kernel
theorem d_FV_local_26 : decode b_FV_local 26 = .ok (.iload_n 1, 1) := by decide +kernel
theorem d_FV_local_27 : decode b_FV_local 27 = .ok (.invokevirtual 110, 3) := by decide +kernel
theorem d_FV_local_30 : decode b_FV_local 30 = .ok (.ireturn, 1) := by decide +kernel
theorem wd_41 : (Jvm.Cond.fieldLink "FrameVerifier" (36 : Nat) "FrameVerifier$Code" "count" "I") ∈ wG := wg_t 41 (by decide +kernel) (by decide +kernel)
theorem wd_107 : (Jvm.Cond.fieldLink "FrameVerifier" (115 : Nat) "FrameVerifier$Frame" "address" "I") ∈ wG := wg_t 107 (by decide +kernel) (by decide +kernel)
theorem wd_110 : (Jvm.Cond.fieldLink "FrameVerifier" (121 : Nat) "FrameVerifier$Frame" "types" "I") ∈ wG := wg_t 110 (by decide +kernel) (by decide +kernel)
theorem wd_122 : (Jvm.Cond.fieldLink "FrameVerifier" (118 : Nat) "FrameVerifier$Machine" "depth" "I") ∈ wG := wg_t 122 (by decide +kernel) (by decide +kernel)
theorem wd_124 : (Jvm.Cond.fieldLink "FrameVerifier" (97 : Nat) "FrameVerifier$Machine" "used" "I") ∈ wG := wg_t 124 (by decide +kernel) (by decide +kernel)
theorem wd_126 : (Jvm.Cond.fieldLink "FrameVerifier" (94 : Nat) "FrameVerifier$Machine" "result" "I") ∈ wG := wg_t 126 (by decide +kernel) (by decide +kernel)
theorem wd_143 : (Jvm.Cond.fieldLink "FrameVerifier" (12 : Nat) "FrameVerifier" "code" "LFrameVerifier$Code;") ∈ wG := wg_t 143 (by decide +kernel) (by decide +kernel)
theorem wd_144 : (Jvm.Cond.fieldLink "FrameVerifier" (21 : Nat) "FrameVerifier" "flow" "LFrameVerifier$Flow;") ∈ wG := wg_t 144 (by decide +kernel) (by decide +kernel)
theorem wd_145 : (Jvm.Cond.fieldLink "FrameVerifier" (28 : Nat) "FrameVerifier" "machine" "LFrameVerifier$Machine;") ∈ wG := wg_t 145 (by decide +kernel) (by decide +kernel)
theorem wd_146 : (Jvm.Cond.fieldLink "FrameVerifier" (32 : Nat) "FrameVerifier" "verified" "Z") ∈ wG := wg_t 146 (by decide +kernel) (by decide +kernel)
theorem k_FV_43 {R : Room} {s : State} {args : Array Value} {Ts : List Cond} (hts : ∀ w ∈ Ts, w.before args s = true) (hsub : ∀ w ∈ wG, w ∈ Ts) (hR : rm_FV_forgetVerification.frames + 1 ≤ R.frames ∧ 8 + (1 + 11) + rm_FV_forgetVerification.locals ≤ R.locals) : CallW R s args "FrameVerifier" "FrameVerifier" 43 y_FV_forgetVerification b_FV_forgetVerification 1 none w_FV_forgetVerification rm_FV_forgetVerification 0 0 0 := ⟨cb_G hts hsub m_FV_forgetVerification g_FV_forgetVerification (wg_t 160 (by decide +kernel) (by decide +kernel) : Cond.methodLink "FrameVerifier" 43 y_FV_forgetVerification ∈ wG) q_FV_forgetVerification rfl rfl hR, hts _ (hsub _ s_FV_forgetVerification), hts _ (hsub _ e_FV_forgetVerification)⟩
theorem k_FV_50 {R : Room} {s : State} {args : Array Value} {Ts : List Cond} (hts : ∀ w ∈ Ts, w.before args s = true) (hsub : ∀ w ∈ wG, w ∈ Ts) (hR : rm_Co_tell.frames + 1 ≤ R.frames ∧ 8 + (5 + 11) + rm_Co_tell.locals ≤ R.locals) : CallW R s args "FrameVerifier" "FrameVerifier$Code" 50 y_Co_tell b_Co_tell 5 none w_Co_tell rm_Co_tell 0 0 4 := ⟨cb_G hts hsub m_Co_tell g_Co_tell (wg_t 168 (by decide +kernel) (by decide +kernel) : Cond.methodLink "FrameVerifier" 50 y_Co_tell ∈ wG) q_Co_tell rfl rfl hR, hts _ (hsub _ s_Co_tell), hts _ (hsub _ e_Co_tell)⟩
theorem k_FV_54 {R : Room} {s : State} {args : Array Value} {Ts : List Cond} (hts : ∀ w ∈ Ts, w.before args s = true) (hsub : ∀ w ∈ wG, w ∈ Ts) (hR : rm_Co_hasRoutine.frames + 1 ≤ R.frames ∧ 8 + (2 + 11) + rm_Co_hasRoutine.locals ≤ R.locals) : CallW R s args "FrameVerifier" "FrameVerifier$Code" 54 y_Co_hasRoutine b_Co_hasRoutine 2 (some .boolean) w_Co_hasRoutine rm_Co_hasRoutine 0 0 1 := ⟨cb_G hts hsub m_Co_hasRoutine g_Co_hasRoutine (wg_t 176 (by decide +kernel) (by decide +kernel) : Cond.methodLink "FrameVerifier" 54 y_Co_hasRoutine ∈ wG) q_Co_hasRoutine rfl rfl hR, hts _ (hsub _ s_Co_hasRoutine), hts _ (hsub _ e_Co_hasRoutine)⟩
theorem k_FV_58 {R : Room} {s : State} {args : Array Value} {Ts : List Cond} (hts : ∀ w ∈ Ts, w.before args s = true) (hsub : ∀ w ∈ wG, w ∈ Ts) (hR : rm_Fl_workOut.frames + 1 ≤ R.frames ∧ 8 + (4 + 11) + rm_Fl_workOut.locals ≤ R.locals) : CallW R s args "FrameVerifier" "FrameVerifier$Flow" 58 y_Fl_workOut b_Fl_workOut 4 none w_Fl_workOut rm_Fl_workOut 0 0 1 := ⟨cb_G hts hsub m_Fl_workOut g_Fl_workOut (wg_t 180 (by decide +kernel) (by decide +kernel) : Cond.methodLink "FrameVerifier" 58 y_Fl_workOut ∈ wG) q_Fl_workOut rfl rfl hR, hts _ (hsub _ s_Fl_workOut), hts _ (hsub _ e_Fl_workOut)⟩
theorem k_FV_62 {R : Room} {s : State} {args : Array Value} {Ts : List Cond} (hts : ∀ w ∈ Ts, w.before args s = true) (hsub : ∀ w ∈ wG, w ∈ Ts) (hR : rm_Fl_leastUnfit.frames + 1 ≤ R.frames ∧ 8 + (4 + 11) + rm_Fl_leastUnfit.locals ≤ R.locals) : CallW R s args "FrameVerifier" "FrameVerifier$Flow" 62 y_Fl_leastUnfit b_Fl_leastUnfit 4 (some .int) w_Fl_leastUnfit rm_Fl_leastUnfit 0 0 1 := ⟨cb_G hts hsub m_Fl_leastUnfit g_Fl_leastUnfit (wg_t 365 (by decide +kernel) (by decide +kernel) : Cond.methodLink "FrameVerifier" 62 y_Fl_leastUnfit ∈ wG) q_Fl_leastUnfit rfl rfl hR, hts _ (hsub _ s_Fl_leastUnfit), hts _ (hsub _ e_Fl_leastUnfit)⟩
theorem k_FV_66 {R : Room} {s : State} {args : Array Value} {Ts : List Cond} (hts : ∀ w ∈ Ts, w.before args s = true) (hsub : ∀ w ∈ wG, w ∈ Ts) (hR : rm_Co_hasInstruction.frames + 1 ≤ R.frames ∧ 8 + (2 + 11) + rm_Co_hasInstruction.locals ≤ R.locals) : CallW R s args "FrameVerifier" "FrameVerifier$Code" 66 y_Co_hasInstruction b_Co_hasInstruction 2 (some .boolean) w_Co_hasInstruction rm_Co_hasInstruction 0 0 1 := ⟨cb_G hts hsub m_Co_hasInstruction g_Co_hasInstruction (wg_t 377 (by decide +kernel) (by decide +kernel) : Cond.methodLink "FrameVerifier" 66 y_Co_hasInstruction ∈ wG) q_Co_hasInstruction rfl rfl hR, hts _ (hsub _ s_Co_hasInstruction), hts _ (hsub _ e_Co_hasInstruction)⟩
theorem k_FV_69 {R : Room} {s : State} {args : Array Value} {Ts : List Cond} (hts : ∀ w ∈ Ts, w.before args s = true) (hsub : ∀ w ∈ wG, w ∈ Ts) (hR : rm_Fl_stateOf.frames + 1 ≤ R.frames ∧ 8 + (3 + 11) + rm_Fl_stateOf.locals ≤ R.locals) : CallW R s args "FrameVerifier" "FrameVerifier$Flow" 69 y_Fl_stateOf b_Fl_stateOf 3 (some .int) w_Fl_stateOf rm_Fl_stateOf 0 0 2 := ⟨cb_G hts hsub m_Fl_stateOf g_Fl_stateOf (wg_t 378 (by decide +kernel) (by decide +kernel) : Cond.methodLink "FrameVerifier" 69 y_Fl_stateOf ∈ wG) q_Fl_stateOf rfl rfl hR, hts _ (hsub _ s_Fl_stateOf), hts _ (hsub _ e_Fl_stateOf)⟩
theorem k_FV_72 {R : Room} {s : State} {args : Array Value} {Ts : List Cond} (hts : ∀ w ∈ Ts, w.before args s = true) (hsub : ∀ w ∈ wG, w ∈ Ts) (hR : rm_Ty_height.frames + 1 ≤ R.frames ∧ 8 + (1 + 11) + rm_Ty_height.locals ≤ R.locals) : CallB R s args "FrameVerifier" 72 y_Ty_height b_Ty_height 1 (some .int) w_Ty_height rm_Ty_height 0 0 1 ∧ (Cond.static y_Ty_height).before args s = true := ⟨cb_G hts hsub m_Ty_height g_Ty_height (wg_t 382 (by decide +kernel) (by decide +kernel) : Cond.methodLink "FrameVerifier" 72 y_Ty_height ∈ wG) q_Ty_height rfl rfl hR, hts _ (hsub _ s_Ty_height)⟩
theorem k_FV_77 {R : Room} {s : State} {args : Array Value} {Ts : List Cond} (hts : ∀ w ∈ Ts, w.before args s = true) (hsub : ∀ w ∈ wG, w ∈ Ts) (hR : rm_Ty_at.frames + 1 ≤ R.frames ∧ 8 + (2 + 11) + rm_Ty_at.locals ≤ R.locals) : CallB R s args "FrameVerifier" 77 y_Ty_at b_Ty_at 2 (some .int) w_Ty_at rm_Ty_at 0 0 2 ∧ (Cond.static y_Ty_at).before args s = true := ⟨cb_G hts hsub m_Ty_at g_Ty_at (wg_t 383 (by decide +kernel) (by decide +kernel) : Cond.methodLink "FrameVerifier" 77 y_Ty_at ∈ wG) q_Ty_at rfl rfl hR, hts _ (hsub _ s_Ty_at)⟩
theorem k_FV_80 {R : Room} {s : State} {args : Array Value} {Ts : List Cond} (hts : ∀ w ∈ Ts, w.before args s = true) (hsub : ∀ w ∈ wG, w ∈ Ts) (hR : rm_Ma_begin.frames + 1 ≤ R.frames ∧ 8 + (5 + 11) + rm_Ma_begin.locals ≤ R.locals) : CallW R s args "FrameVerifier" "FrameVerifier$Machine" 80 y_Ma_begin b_Ma_begin 5 none w_Ma_begin rm_Ma_begin 0 0 3 := ⟨cb_G hts hsub m_Ma_begin g_Ma_begin (wg_t 388 (by decide +kernel) (by decide +kernel) : Cond.methodLink "FrameVerifier" 80 y_Ma_begin ∈ wG) q_Ma_begin rfl rfl hR, hts _ (hsub _ s_Ma_begin), hts _ (hsub _ e_Ma_begin)⟩
theorem k_FV_84 {R : Room} {s : State} {args : Array Value} {Ts : List Cond} (hts : ∀ w ∈ Ts, w.before args s = true) (hsub : ∀ w ∈ wG, w ∈ Ts) (hR : rm_Ma_isRunning.frames + 1 ≤ R.frames ∧ 8 + (1 + 11) + rm_Ma_isRunning.locals ≤ R.locals) : CallW R s args "FrameVerifier" "FrameVerifier$Machine" 84 y_Ma_isRunning b_Ma_isRunning 1 (some .boolean) w_Ma_isRunning rm_Ma_isRunning 0 0 0 := ⟨cb_G hts hsub m_Ma_isRunning g_Ma_isRunning (wg_t 414 (by decide +kernel) (by decide +kernel) : Cond.methodLink "FrameVerifier" 84 y_Ma_isRunning ∈ wG) q_Ma_isRunning rfl rfl hR, hts _ (hsub _ s_Ma_isRunning), hts _ (hsub _ e_Ma_isRunning)⟩
theorem k_FV_100 {R : Room} {s : State} {args : Array Value} {Ts : List Cond} (hts : ∀ w ∈ Ts, w.before args s = true) (hsub : ∀ w ∈ wG, w ∈ Ts) (hR : rm_FV_aboutTopFrame.frames + 1 ≤ R.frames ∧ 8 + (3 + 11) + rm_FV_aboutTopFrame.locals ≤ R.locals) : CallW R s args "FrameVerifier" "FrameVerifier" 100 y_FV_aboutTopFrame b_FV_aboutTopFrame 3 (some .int) w_FV_aboutTopFrame rm_FV_aboutTopFrame 0 0 1 := ⟨cb_G hts hsub m_FV_aboutTopFrame g_FV_aboutTopFrame (wg_t 418 (by decide +kernel) (by decide +kernel) : Cond.methodLink "FrameVerifier" 100 y_FV_aboutTopFrame ∈ wG) q_FV_aboutTopFrame rfl rfl hR, hts _ (hsub _ s_FV_aboutTopFrame), hts _ (hsub _ e_FV_aboutTopFrame)⟩
theorem k_FV_103 {R : Room} {s : State} {args : Array Value} {Ts : List Cond} (hts : ∀ w ∈ Ts, w.before args s = true) (hsub : ∀ w ∈ wG, w ∈ Ts) (hR : rm_FV_isLocal.frames + 1 ≤ R.frames ∧ 8 + (1 + 11) + rm_FV_isLocal.locals ≤ R.locals) : CallB R s args "FrameVerifier" 103 y_FV_isLocal b_FV_isLocal 1 (some .boolean) w_FV_isLocal rm_FV_isLocal 0 0 1 ∧ (Cond.static y_FV_isLocal).before args s = true := ⟨cb_G hts hsub m_FV_isLocal g_FV_isLocal (wg_t 436 (by decide +kernel) (by decide +kernel) : Cond.methodLink "FrameVerifier" 103 y_FV_isLocal ∈ wG) q_FV_isLocal rfl rfl hR, hts _ (hsub _ s_FV_isLocal)⟩
theorem k_FV_106 {R : Room} {s : State} {args : Array Value} {Ts : List Cond} (hts : ∀ w ∈ Ts, w.before args s = true) (hsub : ∀ w ∈ wG, w ∈ Ts) (hR : rm_Ma_top.frames + 1 ≤ R.frames ∧ 8 + (1 + 11) + rm_Ma_top.locals ≤ R.locals) : CallW R s args "FrameVerifier" "FrameVerifier$Machine" 106 y_Ma_top b_Ma_top 1 (some (.object "FrameVerifier$Frame")) w_Ma_top rm_Ma_top 0 0 0 := ⟨cb_G hts hsub m_Ma_top g_Ma_top (wg_t 422 (by decide +kernel) (by decide +kernel) : Cond.methodLink "FrameVerifier" 106 y_Ma_top ∈ wG) q_Ma_top rfl rfl hR, hts _ (hsub _ s_Ma_top), hts _ (hsub _ e_Ma_top)⟩
theorem k_FV_110 {R : Room} {s : State} {args : Array Value} {Ts : List Cond} (hts : ∀ w ∈ Ts, w.before args s = true) (hsub : ∀ w ∈ wG, w ∈ Ts) (hR : rm_Fr_shown.frames + 1 ≤ R.frames ∧ 8 + (3 + 11) + rm_Fr_shown.locals ≤ R.locals) : CallW R s args "FrameVerifier" "FrameVerifier$Frame" 110 y_Fr_shown b_Fr_shown 3 (some .int) w_Fr_shown rm_Fr_shown 0 0 1 := ⟨cb_G hts hsub m_Fr_shown g_Fr_shown (wg_t 427 (by decide +kernel) (by decide +kernel) : Cond.methodLink "FrameVerifier" 110 y_Fr_shown ∈ wG) q_Fr_shown rfl rfl hR, hts _ (hsub _ s_Fr_shown), hts _ (hsub _ e_Fr_shown)⟩
theorem k_FV_124 {R : Room} {s : State} {args : Array Value} {Ts : List Cond} (hts : ∀ w ∈ Ts, w.before args s = true) (hsub : ∀ w ∈ wG, w ∈ Ts) (hR : rm_Ty_slotBelow.frames + 1 ≤ R.frames ∧ 8 + (2 + 11) + rm_Ty_slotBelow.locals ≤ R.locals) : CallB R s args "FrameVerifier" 124 y_Ty_slotBelow b_Ty_slotBelow 2 (some .int) w_Ty_slotBelow rm_Ty_slotBelow 0 0 2 ∧ (Cond.static y_Ty_slotBelow).before args s = true := ⟨cb_G hts hsub m_Ty_slotBelow g_Ty_slotBelow (wg_t 426 (by decide +kernel) (by decide +kernel) : Cond.methodLink "FrameVerifier" 124 y_Ty_slotBelow ∈ wG) q_Ty_slotBelow rfl rfl hR, hts _ (hsub _ s_Ty_slotBelow)⟩
theorem k_FV_127 {R : Room} {s : State} {args : Array Value} {Ts : List Cond} (hts : ∀ w ∈ Ts, w.before args s = true) (hsub : ∀ w ∈ wG, w ∈ Ts) (hR : rm_Fl_forget.frames + 1 ≤ R.frames ∧ 8 + (2 + 11) + rm_Fl_forget.locals ≤ R.locals) : CallW R s args "FrameVerifier" "FrameVerifier$Flow" 127 y_Fl_forget b_Fl_forget 2 none w_Fl_forget rm_Fl_forget 0 0 0 := ⟨cb_G hts hsub m_Fl_forget g_Fl_forget (wg_t 164 (by decide +kernel) (by decide +kernel) : Cond.methodLink "FrameVerifier" 127 y_Fl_forget ∈ wG) q_Fl_forget rfl rfl hR, hts _ (hsub _ s_Fl_forget), hts _ (hsub _ e_Fl_forget)⟩
end
section
/-! contracts of 11.verifier; written by wip/whole/make.py -/
def fn_FV_forgetVerification (σ : mm_M)  : Option (mm_M) :=
    (nm (mw σ 0 3 (0 : Int32)) (fun σ1 =>
    (bv (fn_Fl_forget σ1) (fun σ2 =>
    (some σ2)))))
set_option maxRecDepth 100000 in
set_option maxHeartbeats 40000000 in
theorem c_FV_forgetVerification (l : Launch) (D : va_G) (ca : Nat → ClassId) (ax : Nat → Nat → Nat) (b : Nat) (σ : mm_M)   {σ' : mm_M} (hf : fn_FV_forgetVerification σ  = some σ') : Met l y_FV_forgetVerification w_FV_forgetVerification rm_FV_forgetVerification (pc_w D cls b N_C (ce_C ca b) (kC D ca ax b) [.ref (b + 0)] σ) (qc_v D cls b N_C (ce_C ca b) σ') 0 0 (mm_A b N_C) := by
  refine vv_go (cc := b_FV_forgetVerification) (maxL := 1) (ret := none) (fin := σ') (k := fn_FV_forgetVerification σ ) (by decide) rfl (by simp [Value.category]) (Nat.le_of_ble_eq_true rfl) hf ?_
  intro p e s m below meth c hlocks hret S hKK
  unfold fn_FV_forgetVerification
  refine v_aload_n S d_FV_forgetVerification_0 rfl rfl ?_
  refine v_iconst S d_FV_forgetVerification_1 (v := (0 : Int32)) (by decide) ?_
  refine v_puti S (fun w h => List.mem_cons_of_mem _ (i_FV w h)) hKK.1 0 (by decide) rfl rfl 3 (by decide) (S.2.2.2.2 _ (List.mem_cons_of_mem _ (wd_146))) (fun _ h => h) t_FV t_FV_ok n_FV rfl (ty := .boolean) rfl rfl rfl (Nat.le_of_ble_eq_true rfl) rfl d_FV_forgetVerification_2 ?_
  refine v_sg (fun σ1 eσ1 => ?_)
  refine v_aload_n S d_FV_forgetVerification_5 rfl rfl ?_
  refine v_get S (fun w h => List.mem_cons_of_mem _ (i_FV w h)) hKK.1 0 (by decide) rfl rfl 1 (by decide) (S.2.2.2.2 _ (List.mem_cons_of_mem _ (wd_144))) (fun _ h => h) rfl d_FV_forgetVerification_6 ?_
  refine v_cv (rest := []) (fun _ hg H locs ls hsz hP hS => run_V (As := []) (rest := []) S kC_ok hKK (c_Fl_forget l D ca ax b σ1 hg) (k_FV_127 S.2.2.2.2 (fun _ => List.mem_cons_of_mem _) ⟨Nat.le_of_ble_eq_true rfl, Nat.le_of_ble_eq_true rfl⟩) (rc_w hKK.1 hP 8 (by decide) rfl rfl) rfl rfl (Nat.zero_le _) d_FV_forgetVerification_9 hsz hP hS) (fun σ2 _ => ?_)
  exact v_vret S hret hlocks d_FV_forgetVerification_12
def fn_FV_routine (σ : mm_M) (a0 : Int32) (a1 : Int32) (a2 : Int32) (a3 : Int32) : Option (Int32 × mm_M) :=
    (if a0 < 0 then
    (if (0 : Int32) = 0 ∨ (0 : Int32) = 1 then some ((0 : Int32), σ) else none)
    else
    (if (4 : Int32) ≤ a0 then
    (if (0 : Int32) = 0 ∨ (0 : Int32) = 1 then some ((0 : Int32), σ) else none)
    else
    (if a2 < 0 then
    (if (0 : Int32) = 0 ∨ (0 : Int32) = 1 then some ((0 : Int32), σ) else none)
    else
    (if (3 : Int32) < a2 then
    (if (0 : Int32) = 0 ∨ (0 : Int32) = 1 then some ((0 : Int32), σ) else none)
    else
    (if a3 < 0 then
    (if (0 : Int32) = 0 ∨ (0 : Int32) = 1 then some ((0 : Int32), σ) else none)
    else
    (if a3 ≤ (15 : Int32) then
    (bv (fn_FV_forgetVerification σ) (fun σ7 =>
    (bv (fn_Co_tell σ7 a0 a1 a2 a3) (fun σ8 =>
    (if (1 : Int32) = 0 ∨ (1 : Int32) = 1 then some ((1 : Int32), σ8) else none)))))
    else
    (if (0 : Int32) = 0 ∨ (0 : Int32) = 1 then some ((0 : Int32), σ) else none)))))))
set_option maxRecDepth 100000 in
set_option maxHeartbeats 40000000 in
theorem c_FV_routine (l : Launch) (D : va_G) (ca : Nat → ClassId) (ax : Nat → Nat → Nat) (b : Nat) (σ : mm_M) (a0 : Int32) (a1 : Int32) (a2 : Int32) (a3 : Int32)  {r : Int32} {σ' : mm_M} (hf : fn_FV_routine σ a0 a1 a2 a3 = some (r, σ')) : Met l y_FV_routine w_FV_routine rm_FV_routine (pc_w D cls b N_C (ce_C ca b) (kC D ca ax b) [.ref (b + 0), .int a0, .int a1, .int a2, .int a3] σ) (qc_i D cls b N_C (ce_C ca b) r σ') 0 0 (mm_A b N_C) := by
  refine vv_go (cc := b_FV_routine) (maxL := 5) (ret := (some .boolean)) (fin := (r, σ')) (k := fn_FV_routine σ a0 a1 a2 a3) (by decide) rfl (by simp [Value.category]) (Nat.le_of_ble_eq_true rfl) hf ?_
  intro p e s m below meth c hlocks hret S hKK
  unfold fn_FV_routine
  refine v_iload_n S d_FV_routine_0 rfl rfl ?_
  refine v_if_lt S d_FV_routine_1 (tgt := 30) (by decide) (fun h1 => ?_) (fun h1 => ?_)
  · refine v_iconst S d_FV_routine_30 (v := (0 : Int32)) (by decide) ?_
    exact v_zret S hret hlocks d_FV_routine_31
  · refine v_iload_n S d_FV_routine_4 rfl rfl ?_
    refine v_iconst S d_FV_routine_5 (v := (4 : Int32)) (by decide) ?_
    refine v_icmp_ge S d_FV_routine_6 (tgt := 30) (by decide) (fun h2 => ?_) (fun h2 => ?_)
    · refine v_iconst S d_FV_routine_30 (v := (0 : Int32)) (by decide) ?_
      exact v_zret S hret hlocks d_FV_routine_31
    · refine v_iload_n S d_FV_routine_9 rfl rfl ?_
      refine v_if_lt S d_FV_routine_10 (tgt := 30) (by decide) (fun h3 => ?_) (fun h3 => ?_)
      · refine v_iconst S d_FV_routine_30 (v := (0 : Int32)) (by decide) ?_
        exact v_zret S hret hlocks d_FV_routine_31
      · refine v_iload_n S d_FV_routine_13 rfl rfl ?_
        refine v_iconst S d_FV_routine_14 (v := (3 : Int32)) (by decide) ?_
        refine v_icmp_gt S d_FV_routine_15 (tgt := 30) (by decide) (fun h4 => ?_) (fun h4 => ?_)
        · refine v_iconst S d_FV_routine_30 (v := (0 : Int32)) (by decide) ?_
          exact v_zret S hret hlocks d_FV_routine_31
        · refine v_iload S d_FV_routine_18 rfl ?_
          refine v_if_lt S d_FV_routine_20 (tgt := 30) (by decide) (fun h5 => ?_) (fun h5 => ?_)
          · refine v_iconst S d_FV_routine_30 (v := (0 : Int32)) (by decide) ?_
            exact v_zret S hret hlocks d_FV_routine_31
          · refine v_iload S d_FV_routine_23 rfl ?_
            refine v_bipush S d_FV_routine_25 (v := (15 : Int32)) (by decide) ?_
            refine v_icmp_le S d_FV_routine_27 (tgt := 32) (by decide) (fun h6 => ?_) (fun h6 => ?_)
            · refine v_aload_n S d_FV_routine_32 rfl rfl ?_
              refine v_cv (rest := []) (fun _ hg H locs ls hsz hP hS => run_V (As := []) (rest := []) S kC_ok hKK (c_FV_forgetVerification l D ca ax b σ hg) (k_FV_43 S.2.2.2.2 (fun _ => List.mem_cons_of_mem _) ⟨Nat.le_of_ble_eq_true rfl, Nat.le_of_ble_eq_true rfl⟩) (rc_w hKK.1 hP 0 (by decide) rfl rfl) rfl rfl (Nat.zero_le _) d_FV_routine_33 hsz hP hS) (fun σ7 _ => ?_)
              refine v_aload_n S d_FV_routine_36 rfl rfl ?_
              refine v_get S (fun w h => List.mem_cons_of_mem _ (i_FV w h)) hKK.1 0 (by decide) rfl rfl 0 (by decide) (S.2.2.2.2 _ (List.mem_cons_of_mem _ (wd_143))) (fun _ h => h) rfl d_FV_routine_37 ?_
              refine v_iload_n S d_FV_routine_40 rfl rfl ?_
              refine v_iload_n S d_FV_routine_41 rfl rfl ?_
              refine v_iload_n S d_FV_routine_42 rfl rfl ?_
              refine v_iload S d_FV_routine_43 rfl ?_
              refine v_cv (rest := []) (fun _ hg H locs ls hsz hP hS => run_V (As := [.int a0, .int a1, .int a2, .int a3]) (rest := []) S kC_ok hKK (c_Co_tell l D ca ax b σ7 a0 a1 a2 a3 hg) (k_FV_50 S.2.2.2.2 (fun _ => List.mem_cons_of_mem _) ⟨Nat.le_of_ble_eq_true rfl, Nat.le_of_ble_eq_true rfl⟩) (rc_w hKK.1 hP 1 (by decide) rfl rfl) rfl rfl (Nat.zero_le _) d_FV_routine_45 hsz hP hS) (fun σ8 _ => ?_)
              refine v_iconst S d_FV_routine_48 (v := (1 : Int32)) (by decide) ?_
              exact v_zret S hret hlocks d_FV_routine_49
            · refine v_iconst S d_FV_routine_30 (v := (0 : Int32)) (by decide) ?_
              exact v_zret S hret hlocks d_FV_routine_31
def fn_FV_verify_22  : Nat → mm_M → Int32 → Option (Int32 × mm_M)
  | 0, _, _ => none
  | n + 1, σ, l1 =>
    (if (4 : Int32) ≤ l1 then
    (nm (mw σ 0 3 (1 : Int32)) (fun σ6 =>
    (some ((0 : Int32), σ6))))
    else
    (bd (fn_Co_hasRoutine σ l1) (fun r8 σ7 =>
    (if r8 = 0 then
    (fn_FV_verify_22  n σ7 (l1 + (1 : Int32)))
    else
    (bv (fn_Fl_workOut σ7 l1) (fun σ11 =>
    (bd (fn_Fl_leastUnfit σ11 l1) (fun r13 σ12 =>
    (if r13 = (-1 : Int32) then
    (fn_FV_verify_22  n σ12 (l1 + (1 : Int32)))
    else
    (some ((((1000 : Int32) * ((1 : Int32) + l1)) + r13), σ12)))))))))))
def fn_FV_verify (σ : mm_M)  : Option (Int32 × mm_M) :=
    (nm (mw σ 0 3 (0 : Int32)) (fun σ1 =>
    (bd (fn_Co_hasRoutine σ1 (0 : Int32)) (fun r3 σ2 =>
    (if r3 = 0 then
    (some ((1999 : Int32), σ2))
    else
    (fn_FV_verify_22  fuel0 σ2 (0 : Int32)))))))
set_option maxRecDepth 100000 in
set_option maxHeartbeats 40000000 in
theorem c_FV_verify (l : Launch) (D : va_G) (ca : Nat → ClassId) (ax : Nat → Nat → Nat) (b : Nat) (σ : mm_M)   {r : Int32} {σ' : mm_M} (hf : fn_FV_verify σ  = some (r, σ')) : Met l y_FV_verify w_FV_verify rm_FV_verify (pc_w D cls b N_C (ce_C ca b) (kC D ca ax b) [.ref (b + 0)] σ) (qc_i D cls b N_C (ce_C ca b) r σ') 0 0 (mm_A b N_C) := by
  refine vv_go (cc := b_FV_verify) (maxL := 3) (ret := (some .int)) (fin := (r, σ')) (k := fn_FV_verify σ ) (by decide) rfl (by simp [Value.category]) (Nat.le_of_ble_eq_true rfl) hf ?_
  intro p e s m below meth c hlocks hret S hKK
  have C22 : ∀ (n : Nat) (σ : mm_M) (l1 : Int32), vv p l e (headSpec w_FV_verify rm_FV_verify).room s m [.ref (b + 0)].toArray below meth c D cls b N_C (ce_C ca b) 3 (MQ below (qc_i D cls b N_C (ce_C ca b) r σ') [.ref (b + 0)].toArray s 0 0 (mm_A b N_C)) (r, σ') (fn_FV_verify_22  n σ l1) σ 22 [some (.ref (b + 0)), some (.int l1)] [] := by
    intro n
    induction n with
    | zero => intro σ l1  h; cases h
    | succ n ih =>
      intro σ l1
      show vv p l e (headSpec w_FV_verify rm_FV_verify).room s m [.ref (b + 0)].toArray below meth c D cls b N_C (ce_C ca b) 3 (MQ below (qc_i D cls b N_C (ce_C ca b) r σ') [.ref (b + 0)].toArray s 0 0 (mm_A b N_C)) (r, σ') (        (if (4 : Int32) ≤ l1 then
        (nm (mw σ 0 3 (1 : Int32)) (fun σ6 =>
        (some ((0 : Int32), σ6))))
        else
        (bd (fn_Co_hasRoutine σ l1) (fun r8 σ7 =>
        (if r8 = 0 then
        (fn_FV_verify_22  n σ7 (l1 + (1 : Int32)))
        else
        (bv (fn_Fl_workOut σ7 l1) (fun σ11 =>
        (bd (fn_Fl_leastUnfit σ11 l1) (fun r13 σ12 =>
        (if r13 = (-1 : Int32) then
        (fn_FV_verify_22  n σ12 (l1 + (1 : Int32)))
        else
        (some ((((1000 : Int32) * ((1 : Int32) + l1)) + r13), σ12)))))))))))) σ 22 [some (.ref (b + 0)), some (.int l1)] []
      refine v_iload_n S d_FV_verify_22 rfl rfl ?_
      refine v_iconst S d_FV_verify_23 (v := (4 : Int32)) (by decide) ?_
      refine v_icmp_ge S d_FV_verify_24 (tgt := 76) (by decide) (fun h5 => ?_) (fun h5 => ?_)
      · refine v_aload_n S d_FV_verify_76 rfl rfl ?_
        refine v_iconst S d_FV_verify_77 (v := (1 : Int32)) (by decide) ?_
        refine v_puti S (fun w h => List.mem_cons_of_mem _ (i_FV w h)) hKK.1 0 (by decide) rfl rfl 3 (by decide) (S.2.2.2.2 _ (List.mem_cons_of_mem _ (wd_146))) (fun _ h => h) t_FV t_FV_ok n_FV rfl (ty := .boolean) rfl rfl rfl (Nat.le_of_ble_eq_true rfl) rfl d_FV_verify_78 ?_
        refine v_sg (fun σ6 eσ6 => ?_)
        refine v_iconst S d_FV_verify_81 (v := (0 : Int32)) (by decide) ?_
        exact v_iret S hret hlocks d_FV_verify_82
      · refine v_aload_n S d_FV_verify_27 rfl rfl ?_
        refine v_get S (fun w h => List.mem_cons_of_mem _ (i_FV w h)) hKK.1 0 (by decide) rfl rfl 0 (by decide) (S.2.2.2.2 _ (List.mem_cons_of_mem _ (wd_143))) (fun _ h => h) rfl d_FV_verify_28 ?_
        refine v_iload_n S d_FV_verify_31 rfl rfl ?_
        refine v_ci (rest := []) (fun _ _ hg H locs ls hsz hP hS => run_V (As := [.int l1]) (rest := []) S kC_ok hKK (c_Co_hasRoutine l D ca ax b σ l1 hg) (k_FV_54 S.2.2.2.2 (fun _ => List.mem_cons_of_mem _) ⟨Nat.le_of_ble_eq_true rfl, Nat.le_of_ble_eq_true rfl⟩) (rc_w hKK.1 hP 1 (by decide) rfl rfl) rfl rfl (Nat.zero_le _) d_FV_verify_32 hsz hP hS) (fun r8 σ7 _ => ?_)
        refine v_if_eq S d_FV_verify_35 (tgt := 70) (by decide) (fun h9 => ?_) (fun h9 => ?_)
        · refine v_iinc S d_FV_verify_70 rfl (v := (l1 + (1 : Int32))) (by first | rfl | decide) (by decide) (L2 := [some (.ref (b + 0)), some (.int (l1 + (1 : Int32)))]) rfl ?_
          refine v_goto S d_FV_verify_73 (tgt := 22) (by decide) ?_
          refine v_sub (L2 := [some (.ref (b + 0)), some (.int (l1 + (1 : Int32)))]) (And.intro rfl (And.intro rfl True.intro)) ?_
          exact ih σ7 (l1 + (1 : Int32))
        · refine v_aload_n S d_FV_verify_38 rfl rfl ?_
          refine v_get S (fun w h => List.mem_cons_of_mem _ (i_FV w h)) hKK.1 0 (by decide) rfl rfl 1 (by decide) (S.2.2.2.2 _ (List.mem_cons_of_mem _ (wd_144))) (fun _ h => h) rfl d_FV_verify_39 ?_
          refine v_iload_n S d_FV_verify_42 rfl rfl ?_
          refine v_cv (rest := []) (fun _ hg H locs ls hsz hP hS => run_V (As := [.int l1]) (rest := []) S kC_ok hKK (c_Fl_workOut l D ca ax b σ7 l1 hg) (k_FV_58 S.2.2.2.2 (fun _ => List.mem_cons_of_mem _) ⟨Nat.le_of_ble_eq_true rfl, Nat.le_of_ble_eq_true rfl⟩) (rc_w hKK.1 hP 8 (by decide) rfl rfl) rfl rfl (Nat.zero_le _) d_FV_verify_43 hsz hP hS) (fun σ11 _ => ?_)
          refine v_aload_n S d_FV_verify_46 rfl rfl ?_
          refine v_get S (fun w h => List.mem_cons_of_mem _ (i_FV w h)) hKK.1 0 (by decide) rfl rfl 1 (by decide) (S.2.2.2.2 _ (List.mem_cons_of_mem _ (wd_144))) (fun _ h => h) rfl d_FV_verify_47 ?_
          refine v_iload_n S d_FV_verify_50 rfl rfl ?_
          refine v_ci (rest := []) (fun _ _ hg H locs ls hsz hP hS => run_V (As := [.int l1]) (rest := []) S kC_ok hKK (c_Fl_leastUnfit l D ca ax b σ11 l1 hg) (k_FV_62 S.2.2.2.2 (fun _ => List.mem_cons_of_mem _) ⟨Nat.le_of_ble_eq_true rfl, Nat.le_of_ble_eq_true rfl⟩) (rc_w hKK.1 hP 8 (by decide) rfl rfl) rfl rfl (Nat.zero_le _) d_FV_verify_51 hsz hP hS) (fun r13 σ12 _ => ?_)
          refine v_istore_nP S d_FV_verify_54 rfl (by decide) (L2 := [some (.ref (b + 0)), some (.int l1), some (.int r13)]) rfl ?_
          refine v_iload_n S d_FV_verify_55 rfl rfl ?_
          refine v_iconst S d_FV_verify_56 (v := (-1 : Int32)) (by decide) ?_
          refine v_icmp_eq S d_FV_verify_57 (tgt := 70) (by decide) (fun h14 => ?_) (fun h14 => ?_)
          · refine v_iinc S d_FV_verify_70 rfl (v := (l1 + (1 : Int32))) (by first | rfl | decide) (by decide) (L2 := [some (.ref (b + 0)), some (.int (l1 + (1 : Int32))), some (.int r13)]) rfl ?_
            refine v_goto S d_FV_verify_73 (tgt := 22) (by decide) ?_
            refine v_sub (L2 := [some (.ref (b + 0)), some (.int (l1 + (1 : Int32)))]) (And.intro rfl (And.intro rfl True.intro)) ?_
            exact ih σ12 (l1 + (1 : Int32))
          · refine v_sipush S d_FV_verify_60 (v := (1000 : Int32)) (by decide) ?_
            refine v_iconst S d_FV_verify_63 (v := (1 : Int32)) (by decide) ?_
            refine v_iload_n S d_FV_verify_64 rfl rfl ?_
            refine v_iadd S d_FV_verify_65 ?_
            refine v_imul S d_FV_verify_66 ?_
            refine v_iload_n S d_FV_verify_67 rfl rfl ?_
            refine v_iadd S d_FV_verify_68 ?_
            exact v_iret S hret hlocks d_FV_verify_69
  unfold fn_FV_verify
  refine v_aload_n S d_FV_verify_0 rfl rfl ?_
  refine v_iconst S d_FV_verify_1 (v := (0 : Int32)) (by decide) ?_
  refine v_puti S (fun w h => List.mem_cons_of_mem _ (i_FV w h)) hKK.1 0 (by decide) rfl rfl 3 (by decide) (S.2.2.2.2 _ (List.mem_cons_of_mem _ (wd_146))) (fun _ h => h) t_FV t_FV_ok n_FV rfl (ty := .boolean) rfl rfl rfl (Nat.le_of_ble_eq_true rfl) rfl d_FV_verify_2 ?_
  refine v_sg (fun σ1 eσ1 => ?_)
  refine v_aload_n S d_FV_verify_5 rfl rfl ?_
  refine v_get S (fun w h => List.mem_cons_of_mem _ (i_FV w h)) hKK.1 0 (by decide) rfl rfl 0 (by decide) (S.2.2.2.2 _ (List.mem_cons_of_mem _ (wd_143))) (fun _ h => h) rfl d_FV_verify_6 ?_
  refine v_iconst S d_FV_verify_9 (v := (0 : Int32)) (by decide) ?_
  refine v_ci (rest := []) (fun _ _ hg H locs ls hsz hP hS => run_V (As := [.int (0 : Int32)]) (rest := []) S kC_ok hKK (c_Co_hasRoutine l D ca ax b σ1 (0 : Int32) hg) (k_FV_54 S.2.2.2.2 (fun _ => List.mem_cons_of_mem _) ⟨Nat.le_of_ble_eq_true rfl, Nat.le_of_ble_eq_true rfl⟩) (rc_w hKK.1 hP 1 (by decide) rfl rfl) rfl rfl (Nat.zero_le _) d_FV_verify_10 hsz hP hS) (fun r3 σ2 _ => ?_)
  refine v_if_ne S d_FV_verify_13 (tgt := 20) (by decide) (fun h4 => ?_) (fun h4 => ?_)
  · refine v_iconst S d_FV_verify_20 (v := (0 : Int32)) (by decide) ?_
    refine v_istore_nP S d_FV_verify_21 rfl (by decide) (L2 := [some (.ref (b + 0)), some (.int (0 : Int32))]) rfl ?_
    refine v_sub (L2 := [some (.ref (b + 0)), some (.int (0 : Int32))]) (And.intro rfl (And.intro rfl True.intro)) ?_
    exact C22 fuel0 σ2 (0 : Int32)
  · refine v_sipush S d_FV_verify_16 (v := (1999 : Int32)) (by decide) ?_
    exact v_iret S hret hlocks d_FV_verify_19
def fn_FV_isVerified (σ : mm_M)  : Option (Int32 × mm_M) :=
    (if (σ 0 3) = 0 ∨ (σ 0 3) = 1 then some ((σ 0 3), σ) else none)
set_option maxRecDepth 100000 in
set_option maxHeartbeats 40000000 in
theorem c_FV_isVerified (l : Launch) (D : va_G) (ca : Nat → ClassId) (ax : Nat → Nat → Nat) (b : Nat) (σ : mm_M)   {r : Int32} {σ' : mm_M} (hf : fn_FV_isVerified σ  = some (r, σ')) : Met l y_FV_isVerified w_FV_isVerified rm_FV_isVerified (pc_w D cls b N_C (ce_C ca b) (kC D ca ax b) [.ref (b + 0)] σ) (qc_i D cls b N_C (ce_C ca b) r σ') 0 0 (mm_A b N_C) := by
  refine vv_go (cc := b_FV_isVerified) (maxL := 1) (ret := (some .boolean)) (fin := (r, σ')) (k := fn_FV_isVerified σ ) (by decide) rfl (by simp [Value.category]) (Nat.le_of_ble_eq_true rfl) hf ?_
  intro p e s m below meth c hlocks hret S hKK
  unfold fn_FV_isVerified
  refine v_aload_n S d_FV_isVerified_0 rfl rfl ?_
  refine v_get S (fun w h => List.mem_cons_of_mem _ (i_FV w h)) hKK.1 0 (by decide) rfl rfl 3 (by decide) (S.2.2.2.2 _ (List.mem_cons_of_mem _ (wd_146))) (fun _ h => h) rfl d_FV_isVerified_1 ?_
  exact v_zret S hret hlocks d_FV_isVerified_4
def fn_FV_type (σ : mm_M) (a0 : Int32) (a1 : Int32) (a2 : Int32) : Option (Int32 × mm_M) :=
    (bd (fn_Co_hasRoutine σ a0) (fun r2 σ1 =>
    (if r2 = 0 then
    (some ((-1 : Int32), σ1))
    else
    (bd (fn_Co_hasInstruction σ1 a1) (fun r5 σ4 =>
    (if r5 = 0 then
    (some ((-1 : Int32), σ4))
    else
    (if a2 < 0 then
    (some ((-1 : Int32), σ4))
    else
    (if a2 < (12 : Int32) then
    (bv (fn_Fl_workOut σ4 a0) (fun σ9 =>
    (bd (fn_Fl_stateOf σ9 a0 a1) (fun r11 σ10 =>
    (if r11 = (-2 : Int32) then
    (some ((-2 : Int32), σ10))
    else
    (if r11 = (-1 : Int32) then
    (some ((-1 : Int32), σ10))
    else
    (bd (fn_Ty_height σ10 r11) (fun r15 σ14 =>
    (if a2 < ((6 : Int32) + r15) then
    (bd (fn_Ty_at σ14 r11 a2) (fun r18 σ17 =>
    (some (r18, σ17))))
    else
    (some ((-1 : Int32), σ14)))))))))))
    else
    (some ((-1 : Int32), σ4))))))))))
set_option maxRecDepth 100000 in
set_option maxHeartbeats 40000000 in
theorem c_FV_type (l : Launch) (D : va_G) (ca : Nat → ClassId) (ax : Nat → Nat → Nat) (b : Nat) (σ : mm_M) (a0 : Int32) (a1 : Int32) (a2 : Int32)  {r : Int32} {σ' : mm_M} (hf : fn_FV_type σ a0 a1 a2 = some (r, σ')) : Met l y_FV_type w_FV_type rm_FV_type (pc_w D cls b N_C (ce_C ca b) (kC D ca ax b) [.ref (b + 0), .int a0, .int a1, .int a2] σ) (qc_i D cls b N_C (ce_C ca b) r σ') 0 0 (mm_A b N_C) := by
  refine vv_go (cc := b_FV_type) (maxL := 5) (ret := (some .int)) (fin := (r, σ')) (k := fn_FV_type σ a0 a1 a2) (by decide) rfl (by simp [Value.category]) (Nat.le_of_ble_eq_true rfl) hf ?_
  intro p e s m below meth c hlocks hret S hKK
  unfold fn_FV_type
  refine v_aload_n S d_FV_type_0 rfl rfl ?_
  refine v_get S (fun w h => List.mem_cons_of_mem _ (i_FV w h)) hKK.1 0 (by decide) rfl rfl 0 (by decide) (S.2.2.2.2 _ (List.mem_cons_of_mem _ (wd_143))) (fun _ h => h) rfl d_FV_type_1 ?_
  refine v_iload_n S d_FV_type_4 rfl rfl ?_
  refine v_ci (rest := []) (fun _ _ hg H locs ls hsz hP hS => run_V (As := [.int a0]) (rest := []) S kC_ok hKK (c_Co_hasRoutine l D ca ax b σ a0 hg) (k_FV_54 S.2.2.2.2 (fun _ => List.mem_cons_of_mem _) ⟨Nat.le_of_ble_eq_true rfl, Nat.le_of_ble_eq_true rfl⟩) (rc_w hKK.1 hP 1 (by decide) rfl rfl) rfl rfl (Nat.zero_le _) d_FV_type_5 hsz hP hS) (fun r2 σ1 _ => ?_)
  refine v_if_eq S d_FV_type_8 (tgt := 32) (by decide) (fun h3 => ?_) (fun h3 => ?_)
  · refine v_iconst S d_FV_type_32 (v := (-1 : Int32)) (by decide) ?_
    exact v_iret S hret hlocks d_FV_type_33
  · refine v_aload_n S d_FV_type_11 rfl rfl ?_
    refine v_get S (fun w h => List.mem_cons_of_mem _ (i_FV w h)) hKK.1 0 (by decide) rfl rfl 0 (by decide) (S.2.2.2.2 _ (List.mem_cons_of_mem _ (wd_143))) (fun _ h => h) rfl d_FV_type_12 ?_
    refine v_iload_n S d_FV_type_15 rfl rfl ?_
    refine v_ci (rest := []) (fun _ _ hg H locs ls hsz hP hS => run_V (As := [.int a1]) (rest := []) S kC_ok hKK (c_Co_hasInstruction l D ca ax b σ1 a1 hg) (k_FV_66 S.2.2.2.2 (fun _ => List.mem_cons_of_mem _) ⟨Nat.le_of_ble_eq_true rfl, Nat.le_of_ble_eq_true rfl⟩) (rc_w hKK.1 hP 1 (by decide) rfl rfl) rfl rfl (Nat.zero_le _) d_FV_type_16 hsz hP hS) (fun r5 σ4 _ => ?_)
    refine v_if_eq S d_FV_type_19 (tgt := 32) (by decide) (fun h6 => ?_) (fun h6 => ?_)
    · refine v_iconst S d_FV_type_32 (v := (-1 : Int32)) (by decide) ?_
      exact v_iret S hret hlocks d_FV_type_33
    · refine v_iload_n S d_FV_type_22 rfl rfl ?_
      refine v_if_lt S d_FV_type_23 (tgt := 32) (by decide) (fun h7 => ?_) (fun h7 => ?_)
      · refine v_iconst S d_FV_type_32 (v := (-1 : Int32)) (by decide) ?_
        exact v_iret S hret hlocks d_FV_type_33
      · refine v_iload_n S d_FV_type_26 rfl rfl ?_
        refine v_bipush S d_FV_type_27 (v := (12 : Int32)) (by decide) ?_
        refine v_icmp_lt S d_FV_type_29 (tgt := 34) (by decide) (fun h8 => ?_) (fun h8 => ?_)
        · refine v_aload_n S d_FV_type_34 rfl rfl ?_
          refine v_get S (fun w h => List.mem_cons_of_mem _ (i_FV w h)) hKK.1 0 (by decide) rfl rfl 1 (by decide) (S.2.2.2.2 _ (List.mem_cons_of_mem _ (wd_144))) (fun _ h => h) rfl d_FV_type_35 ?_
          refine v_iload_n S d_FV_type_38 rfl rfl ?_
          refine v_cv (rest := []) (fun _ hg H locs ls hsz hP hS => run_V (As := [.int a0]) (rest := []) S kC_ok hKK (c_Fl_workOut l D ca ax b σ4 a0 hg) (k_FV_58 S.2.2.2.2 (fun _ => List.mem_cons_of_mem _) ⟨Nat.le_of_ble_eq_true rfl, Nat.le_of_ble_eq_true rfl⟩) (rc_w hKK.1 hP 8 (by decide) rfl rfl) rfl rfl (Nat.zero_le _) d_FV_type_39 hsz hP hS) (fun σ9 _ => ?_)
          refine v_aload_n S d_FV_type_42 rfl rfl ?_
          refine v_get S (fun w h => List.mem_cons_of_mem _ (i_FV w h)) hKK.1 0 (by decide) rfl rfl 1 (by decide) (S.2.2.2.2 _ (List.mem_cons_of_mem _ (wd_144))) (fun _ h => h) rfl d_FV_type_43 ?_
          refine v_iload_n S d_FV_type_46 rfl rfl ?_
          refine v_iload_n S d_FV_type_47 rfl rfl ?_
          refine v_ci (rest := []) (fun _ _ hg H locs ls hsz hP hS => run_V (As := [.int a0, .int a1]) (rest := []) S kC_ok hKK (c_Fl_stateOf l D ca ax b σ9 a0 a1 hg) (k_FV_69 S.2.2.2.2 (fun _ => List.mem_cons_of_mem _) ⟨Nat.le_of_ble_eq_true rfl, Nat.le_of_ble_eq_true rfl⟩) (rc_w hKK.1 hP 8 (by decide) rfl rfl) rfl rfl (Nat.zero_le _) d_FV_type_48 hsz hP hS) (fun r11 σ10 _ => ?_)
          refine v_istoreP S d_FV_type_51 (by decide) (L2 := [some (.ref (b + 0)), some (.int a0), some (.int a1), some (.int a2), some (.int r11)]) rfl ?_
          refine v_iload S d_FV_type_53 rfl ?_
          refine v_bipush S d_FV_type_55 (v := (-2 : Int32)) (by decide) ?_
          refine v_icmp_ne S d_FV_type_57 (tgt := 63) (by decide) (fun h12 => ?_) (fun h12 => ?_)
          · refine v_iload S d_FV_type_63 rfl ?_
            refine v_iconst S d_FV_type_65 (v := (-1 : Int32)) (by decide) ?_
            refine v_icmp_eq S d_FV_type_66 (tgt := 81) (by decide) (fun h13 => ?_) (fun h13 => ?_)
            · refine v_iconst S d_FV_type_81 (v := (-1 : Int32)) (by decide) ?_
              exact v_iret S hret hlocks d_FV_type_82
            · refine v_iload_n S d_FV_type_69 rfl rfl ?_
              refine v_bipush S d_FV_type_70 (v := (6 : Int32)) (by decide) ?_
              refine v_iload S d_FV_type_72 rfl ?_
              refine v_ci (rest := [.int (6 : Int32), .int a2]) (fun _ _ hg H locs ls hsz hP hS => run_S (As := [.int r11]) (rest := [.int (6 : Int32), .int a2]) S kC_ok hKK (c_Ty_height l D ca ax b σ10 r11 hg) (k_FV_72 S.2.2.2.2 (fun _ => List.mem_cons_of_mem _) ⟨Nat.le_of_ble_eq_true rfl, Nat.le_of_ble_eq_true rfl⟩) rfl rfl (by simp [Value.category]) d_FV_type_74 hsz hP hS) (fun r15 σ14 _ => ?_)
              refine v_iadd S d_FV_type_77 ?_
              refine v_icmp_lt S d_FV_type_78 (tgt := 83) (by decide) (fun h16 => ?_) (fun h16 => ?_)
              · refine v_iload S d_FV_type_83 rfl ?_
                refine v_iload_n S d_FV_type_85 rfl rfl ?_
                refine v_ci (rest := []) (fun _ _ hg H locs ls hsz hP hS => run_S (As := [.int r11, .int a2]) (rest := []) S kC_ok hKK (c_Ty_at l D ca ax b σ14 r11 a2 hg) (k_FV_77 S.2.2.2.2 (fun _ => List.mem_cons_of_mem _) ⟨Nat.le_of_ble_eq_true rfl, Nat.le_of_ble_eq_true rfl⟩) rfl rfl (Nat.zero_le _) d_FV_type_86 hsz hP hS) (fun r18 σ17 _ => ?_)
                exact v_iret S hret hlocks d_FV_type_89
              · refine v_iconst S d_FV_type_81 (v := (-1 : Int32)) (by decide) ?_
                exact v_iret S hret hlocks d_FV_type_82
          · refine v_bipush S d_FV_type_60 (v := (-2 : Int32)) (by decide) ?_
            exact v_iret S hret hlocks d_FV_type_62
        · refine v_iconst S d_FV_type_32 (v := (-1 : Int32)) (by decide) ?_
          exact v_iret S hret hlocks d_FV_type_33
def fn_FV_start (σ : mm_M) (a0 : Int32) (a1 : Int32) (a2 : Int32) : Option (Int32 × mm_M) :=
    (bd (fn_Co_hasRoutine σ (0 : Int32)) (fun r2 σ1 =>
    (if r2 = 0 then
    (if (0 : Int32) = 0 ∨ (0 : Int32) = 1 then some ((0 : Int32), σ1) else none)
    else
    (bv (fn_Ma_begin σ1 a0 a1 a2) (fun σ4 =>
    (if (1 : Int32) = 0 ∨ (1 : Int32) = 1 then some ((1 : Int32), σ4) else none))))))
set_option maxRecDepth 100000 in
set_option maxHeartbeats 40000000 in
theorem c_FV_start (l : Launch) (D : va_G) (ca : Nat → ClassId) (ax : Nat → Nat → Nat) (b : Nat) (σ : mm_M) (a0 : Int32) (a1 : Int32) (a2 : Int32)  {r : Int32} {σ' : mm_M} (hf : fn_FV_start σ a0 a1 a2 = some (r, σ')) : Met l y_FV_start w_FV_start rm_FV_start (pc_w D cls b N_C (ce_C ca b) (kC D ca ax b) [.ref (b + 0), .int a0, .int a1, .int a2] σ) (qc_i D cls b N_C (ce_C ca b) r σ') 0 0 (mm_A b N_C) := by
  refine vv_go (cc := b_FV_start) (maxL := 4) (ret := (some .boolean)) (fin := (r, σ')) (k := fn_FV_start σ a0 a1 a2) (by decide) rfl (by simp [Value.category]) (Nat.le_of_ble_eq_true rfl) hf ?_
  intro p e s m below meth c hlocks hret S hKK
  unfold fn_FV_start
  refine v_aload_n S d_FV_start_0 rfl rfl ?_
  refine v_get S (fun w h => List.mem_cons_of_mem _ (i_FV w h)) hKK.1 0 (by decide) rfl rfl 0 (by decide) (S.2.2.2.2 _ (List.mem_cons_of_mem _ (wd_143))) (fun _ h => h) rfl d_FV_start_1 ?_
  refine v_iconst S d_FV_start_4 (v := (0 : Int32)) (by decide) ?_
  refine v_ci (rest := []) (fun _ _ hg H locs ls hsz hP hS => run_V (As := [.int (0 : Int32)]) (rest := []) S kC_ok hKK (c_Co_hasRoutine l D ca ax b σ (0 : Int32) hg) (k_FV_54 S.2.2.2.2 (fun _ => List.mem_cons_of_mem _) ⟨Nat.le_of_ble_eq_true rfl, Nat.le_of_ble_eq_true rfl⟩) (rc_w hKK.1 hP 1 (by decide) rfl rfl) rfl rfl (Nat.zero_le _) d_FV_start_5 hsz hP hS) (fun r2 σ1 _ => ?_)
  refine v_if_ne S d_FV_start_8 (tgt := 13) (by decide) (fun h3 => ?_) (fun h3 => ?_)
  · refine v_aload_n S d_FV_start_13 rfl rfl ?_
    refine v_get S (fun w h => List.mem_cons_of_mem _ (i_FV w h)) hKK.1 0 (by decide) rfl rfl 2 (by decide) (S.2.2.2.2 _ (List.mem_cons_of_mem _ (wd_145))) (fun _ h => h) rfl d_FV_start_14 ?_
    refine v_iload_n S d_FV_start_17 rfl rfl ?_
    refine v_iload_n S d_FV_start_18 rfl rfl ?_
    refine v_iload_n S d_FV_start_19 rfl rfl ?_
    refine v_cv (rest := []) (fun _ hg H locs ls hsz hP hS => run_V (As := [.int a0, .int a1, .int a2]) (rest := []) S kC_ok hKK (c_Ma_begin l D ca ax b σ1 a0 a1 a2 hg) (k_FV_80 S.2.2.2.2 (fun _ => List.mem_cons_of_mem _) ⟨Nat.le_of_ble_eq_true rfl, Nat.le_of_ble_eq_true rfl⟩) (rc_w hKK.1 hP 16 (by decide) rfl rfl) rfl rfl (Nat.zero_le _) d_FV_start_20 hsz hP hS) (fun σ4 _ => ?_)
    refine v_iconst S d_FV_start_23 (v := (1 : Int32)) (by decide) ?_
    exact v_zret S hret hlocks d_FV_start_24
  · refine v_iconst S d_FV_start_11 (v := (0 : Int32)) (by decide) ?_
    exact v_zret S hret hlocks d_FV_start_12
def fn_FV_aboutTopFrame (σ : mm_M) (a0 : Int32) : Option (Int32 × mm_M) :=
    (bd (fn_Ma_top σ) (fun r2 σ1 =>
    (if a0 = (1 : Int32) then
    (some ((σ1 (19 + 2 * r2) 1), σ1))
    else
    (if a0 = (2 : Int32) then
    (some ((σ1 16 0), σ1))
    else
    (if a0 = (3 : Int32) then
    (bd (fn_Ty_height σ1 (σ1 (19 + 2 * r2) 2)) (fun r8 σ7 =>
    (some (r8, σ7))))
    else
    (if a0 = (4 : Int32) then
    (bd (fn_Ty_height σ1 (σ1 (19 + 2 * r2) 2)) (fun r11 σ10 =>
    (if r11 = 0 then
    (some ((-1 : Int32), σ10))
    else
    (bd (fn_Ty_slotBelow σ10 (σ10 (19 + 2 * r2) 2) (0 : Int32)) (fun r14 σ13 =>
    (bd (fn_Fr_shown σ13 r2 r14) (fun r16 σ15 =>
    (some (r16, σ15)))))))))
    else
    (some ((-1 : Int32), σ1))))))))
set_option maxRecDepth 100000 in
set_option maxHeartbeats 40000000 in
theorem c_FV_aboutTopFrame (l : Launch) (D : va_G) (ca : Nat → ClassId) (ax : Nat → Nat → Nat) (b : Nat) (σ : mm_M) (a0 : Int32)  {r : Int32} {σ' : mm_M} (hf : fn_FV_aboutTopFrame σ a0 = some (r, σ')) : Met l y_FV_aboutTopFrame w_FV_aboutTopFrame rm_FV_aboutTopFrame (pc_w D cls b N_C (ce_C ca b) (kC D ca ax b) [.ref (b + 0), .int a0] σ) (qc_i D cls b N_C (ce_C ca b) r σ') 0 0 (mm_A b N_C) := by
  refine vv_go (cc := b_FV_aboutTopFrame) (maxL := 3) (ret := (some .int)) (fin := (r, σ')) (k := fn_FV_aboutTopFrame σ a0) (by decide) rfl (by simp [Value.category]) (Nat.le_of_ble_eq_true rfl) hf ?_
  intro p e s m below meth c hlocks hret S hKK
  unfold fn_FV_aboutTopFrame
  refine v_aload_n S d_FV_aboutTopFrame_0 rfl rfl ?_
  refine v_get S (fun w h => List.mem_cons_of_mem _ (i_FV w h)) hKK.1 0 (by decide) rfl rfl 2 (by decide) (S.2.2.2.2 _ (List.mem_cons_of_mem _ (wd_145))) (fun _ h => h) rfl d_FV_aboutTopFrame_1 ?_
  refine v_ca (fun q => b + (19 + 2 * q)) (rest := []) (fun _ _ hg H locs ls hsz hP hS => run_V (As := []) (rest := []) S kC_ok hKK (c_Ma_top l D ca ax b σ hg) (k_FV_106 S.2.2.2.2 (fun _ => List.mem_cons_of_mem _) ⟨Nat.le_of_ble_eq_true rfl, Nat.le_of_ble_eq_true rfl⟩) (rc_w hKK.1 hP 16 (by decide) rfl rfl) rfl rfl (Nat.zero_le _) d_FV_aboutTopFrame_4 hsz hP hS) (fun r2 σ1 g3 => ?_)
  refine v_astore_nP S d_FV_aboutTopFrame_7 rfl (by decide) (L2 := [some (.ref (b + 0)), some (.int a0), some (.ref (b + (19 + 2 * r2)))]) rfl ?_
  refine v_iload_n S d_FV_aboutTopFrame_8 rfl rfl ?_
  refine v_tsw S (1 : Int32) (tgt := 40) d_FV_aboutTopFrame_9 (by decide) (by decide) (off := 31) rfl (by decide) (fun h4 => ?_) (fun h4 => ?_)
  · refine v_aload_n S d_FV_aboutTopFrame_40 rfl rfl ?_
    refine v_get S (fun w h => List.mem_cons_of_mem _ (i_Fr w h)) hKK.1 (19 + 2 * r2) (fr_lt (rb_Ma_top g3)) (ce_fr (rb_Ma_top g3)) rfl 1 (by decide) (S.2.2.2.2 _ (List.mem_cons_of_mem _ (wd_107))) (fun _ h => h) rfl d_FV_aboutTopFrame_41 ?_
    exact v_iret S hret hlocks d_FV_aboutTopFrame_44
  · refine v_tsw S (2 : Int32) (tgt := 45) d_FV_aboutTopFrame_9 (by decide) (by decide) (off := 36) rfl (by decide) (fun h5 => ?_) (fun h5 => ?_)
    · refine v_aload_n S d_FV_aboutTopFrame_45 rfl rfl ?_
      refine v_get S (fun w h => List.mem_cons_of_mem _ (i_FV w h)) hKK.1 0 (by decide) rfl rfl 2 (by decide) (S.2.2.2.2 _ (List.mem_cons_of_mem _ (wd_145))) (fun _ h => h) rfl d_FV_aboutTopFrame_46 ?_
      refine v_get S (fun w h => List.mem_cons_of_mem _ (i_Ma w h)) hKK.1 16 (by decide) rfl rfl 0 (by decide) (S.2.2.2.2 _ (List.mem_cons_of_mem _ (wd_122))) (fun _ h => h) rfl d_FV_aboutTopFrame_49 ?_
      exact v_iret S hret hlocks d_FV_aboutTopFrame_52
    · refine v_tsw S (3 : Int32) (tgt := 53) d_FV_aboutTopFrame_9 (by decide) (by decide) (off := 44) rfl (by decide) (fun h6 => ?_) (fun h6 => ?_)
      · refine v_aload_n S d_FV_aboutTopFrame_53 rfl rfl ?_
        refine v_get S (fun w h => List.mem_cons_of_mem _ (i_Fr w h)) hKK.1 (19 + 2 * r2) (fr_lt (rb_Ma_top g3)) (ce_fr (rb_Ma_top g3)) rfl 2 (by decide) (S.2.2.2.2 _ (List.mem_cons_of_mem _ (wd_110))) (fun _ h => h) rfl d_FV_aboutTopFrame_54 ?_
        refine v_ci (rest := []) (fun _ _ hg H locs ls hsz hP hS => run_S (As := [.int (σ1 (19 + 2 * r2) 2)]) (rest := []) S kC_ok hKK (c_Ty_height l D ca ax b σ1 (σ1 (19 + 2 * r2) 2) hg) (k_FV_72 S.2.2.2.2 (fun _ => List.mem_cons_of_mem _) ⟨Nat.le_of_ble_eq_true rfl, Nat.le_of_ble_eq_true rfl⟩) rfl rfl (Nat.zero_le _) d_FV_aboutTopFrame_57 hsz hP hS) (fun r8 σ7 _ => ?_)
        exact v_iret S hret hlocks d_FV_aboutTopFrame_60
      · refine v_tsw S (4 : Int32) (tgt := 61) d_FV_aboutTopFrame_9 (by decide) (by decide) (off := 52) rfl (by decide) (fun h9 => ?_) (fun h9 => ?_)
        · refine v_aload_n S d_FV_aboutTopFrame_61 rfl rfl ?_
          refine v_get S (fun w h => List.mem_cons_of_mem _ (i_Fr w h)) hKK.1 (19 + 2 * r2) (fr_lt (rb_Ma_top g3)) (ce_fr (rb_Ma_top g3)) rfl 2 (by decide) (S.2.2.2.2 _ (List.mem_cons_of_mem _ (wd_110))) (fun _ h => h) rfl d_FV_aboutTopFrame_62 ?_
          refine v_ci (rest := []) (fun _ _ hg H locs ls hsz hP hS => run_S (As := [.int (σ1 (19 + 2 * r2) 2)]) (rest := []) S kC_ok hKK (c_Ty_height l D ca ax b σ1 (σ1 (19 + 2 * r2) 2) hg) (k_FV_72 S.2.2.2.2 (fun _ => List.mem_cons_of_mem _) ⟨Nat.le_of_ble_eq_true rfl, Nat.le_of_ble_eq_true rfl⟩) rfl rfl (Nat.zero_le _) d_FV_aboutTopFrame_65 hsz hP hS) (fun r11 σ10 _ => ?_)
          refine v_if_ne S d_FV_aboutTopFrame_68 (tgt := 75) (by decide) (fun h12 => ?_) (fun h12 => ?_)
          · refine v_aload_n S d_FV_aboutTopFrame_75 rfl rfl ?_
            refine v_aload_n S d_FV_aboutTopFrame_76 rfl rfl ?_
            refine v_get S (fun w h => List.mem_cons_of_mem _ (i_Fr w h)) hKK.1 (19 + 2 * r2) (fr_lt (rb_Ma_top g3)) (ce_fr (rb_Ma_top g3)) rfl 2 (by decide) (S.2.2.2.2 _ (List.mem_cons_of_mem _ (wd_110))) (fun _ h => h) rfl d_FV_aboutTopFrame_77 ?_
            refine v_iconst S d_FV_aboutTopFrame_80 (v := (0 : Int32)) (by decide) ?_
            refine v_ci (rest := [.ref (b + (19 + 2 * r2))]) (fun _ _ hg H locs ls hsz hP hS => run_S (As := [.int (σ10 (19 + 2 * r2) 2), .int (0 : Int32)]) (rest := [.ref (b + (19 + 2 * r2))]) S kC_ok hKK (c_Ty_slotBelow l D ca ax b σ10 (σ10 (19 + 2 * r2) 2) (0 : Int32) hg) (k_FV_124 S.2.2.2.2 (fun _ => List.mem_cons_of_mem _) ⟨Nat.le_of_ble_eq_true rfl, Nat.le_of_ble_eq_true rfl⟩) rfl rfl (by simp [Value.category]) d_FV_aboutTopFrame_81 hsz hP hS) (fun r14 σ13 _ => ?_)
            refine v_ci (rest := []) (fun _ _ hg H locs ls hsz hP hS => run_V (As := [.int r14]) (rest := []) S kC_ok hKK (c_Fr_shown l D ca ax b σ13 r2 r14 (rb_Ma_top g3) hg) (k_FV_110 S.2.2.2.2 (fun _ => List.mem_cons_of_mem _) ⟨Nat.le_of_ble_eq_true rfl, Nat.le_of_ble_eq_true rfl⟩) (rc_w hKK.1 hP (19 + 2 * r2) (fr_lt (rb_Ma_top g3)) (ce_fr (rb_Ma_top g3)) rfl) rfl rfl (Nat.zero_le _) d_FV_aboutTopFrame_84 hsz hP hS) (fun r16 σ15 _ => ?_)
            exact v_iret S hret hlocks d_FV_aboutTopFrame_87
          · refine v_iconst S d_FV_aboutTopFrame_71 (v := (-1 : Int32)) (by decide) ?_
            refine v_goto S d_FV_aboutTopFrame_72 (tgt := 87) (by decide) ?_
            exact v_iret S hret hlocks d_FV_aboutTopFrame_87
        · refine v_tswD S (tgt := 88) d_FV_aboutTopFrame_9 (by have nh4 := i32_ne (n := 1) h4 (by decide); have nh5 := i32_ne (n := 2) h5 (by decide); have nh6 := i32_ne (n := 3) h6 (by decide); have nh9 := i32_ne (n := 4) h9 (by decide); omega) (by decide) ?_
          refine v_iconst S d_FV_aboutTopFrame_88 (v := (-1 : Int32)) (by decide) ?_
          exact v_iret S hret hlocks d_FV_aboutTopFrame_89
def fn_FV_about (σ : mm_M) (a0 : Int32) : Option (Int32 × mm_M) :=
    (if a0 = (0 : Int32) then
    (bd (fn_Ma_isRunning σ) (fun r3 σ2 =>
    (if r3 = 0 then
    (some ((0 : Int32), σ2))
    else
    (some ((1 : Int32), σ2)))))
    else
    (if a0 = (5 : Int32) then
    (some ((σ 16 2), σ))
    else
    (if a0 = (6 : Int32) then
    (some ((σ 16 1), σ))
    else
    (if a0 = (7 : Int32) then
    (some ((σ 1 0), σ))
    else
    (bd (fn_Ma_isRunning σ) (fun r13 σ12 =>
    (if r13 = 0 then
    (some ((-1 : Int32), σ12))
    else
    (bd (fn_FV_aboutTopFrame σ12 a0) (fun r16 σ15 =>
    (some (r16, σ15)))))))))))
set_option maxRecDepth 100000 in
set_option maxHeartbeats 40000000 in
theorem c_FV_about (l : Launch) (D : va_G) (ca : Nat → ClassId) (ax : Nat → Nat → Nat) (b : Nat) (σ : mm_M) (a0 : Int32)  {r : Int32} {σ' : mm_M} (hf : fn_FV_about σ a0 = some (r, σ')) : Met l y_FV_about w_FV_about rm_FV_about (pc_w D cls b N_C (ce_C ca b) (kC D ca ax b) [.ref (b + 0), .int a0] σ) (qc_i D cls b N_C (ce_C ca b) r σ') 0 0 (mm_A b N_C) := by
  refine vv_go (cc := b_FV_about) (maxL := 2) (ret := (some .int)) (fin := (r, σ')) (k := fn_FV_about σ a0) (by decide) rfl (by simp [Value.category]) (Nat.le_of_ble_eq_true rfl) hf ?_
  intro p e s m below meth c hlocks hret S hKK
  unfold fn_FV_about
  refine v_iload_n S d_FV_about_0 rfl rfl ?_
  refine v_tsw S (0 : Int32) (tgt := 48) d_FV_about_1 (by decide) (by decide) (off := 47) rfl (by decide) (fun h1 => ?_) (fun h1 => ?_)
  · refine v_aload_n S d_FV_about_48 rfl rfl ?_
    refine v_get S (fun w h => List.mem_cons_of_mem _ (i_FV w h)) hKK.1 0 (by decide) rfl rfl 2 (by decide) (S.2.2.2.2 _ (List.mem_cons_of_mem _ (wd_145))) (fun _ h => h) rfl d_FV_about_49 ?_
    refine v_ci (rest := []) (fun _ _ hg H locs ls hsz hP hS => run_V (As := []) (rest := []) S kC_ok hKK (c_Ma_isRunning l D ca ax b σ hg) (k_FV_84 S.2.2.2.2 (fun _ => List.mem_cons_of_mem _) ⟨Nat.le_of_ble_eq_true rfl, Nat.le_of_ble_eq_true rfl⟩) (rc_w hKK.1 hP 16 (by decide) rfl rfl) rfl rfl (Nat.zero_le _) d_FV_about_52 hsz hP hS) (fun r3 σ2 _ => ?_)
    refine v_if_eq S d_FV_about_55 (tgt := 62) (by decide) (fun h4 => ?_) (fun h4 => ?_)
    · refine v_iconst S d_FV_about_62 (v := (0 : Int32)) (by decide) ?_
      exact v_iret S hret hlocks d_FV_about_63
    · refine v_iconst S d_FV_about_58 (v := (1 : Int32)) (by decide) ?_
      refine v_goto S d_FV_about_59 (tgt := 63) (by decide) ?_
      exact v_iret S hret hlocks d_FV_about_63
  · refine v_tsw S (5 : Int32) (tgt := 64) d_FV_about_1 (by decide) (by decide) (off := 63) rfl (by decide) (fun h5 => ?_) (fun h5 => ?_)
    · refine v_aload_n S d_FV_about_64 rfl rfl ?_
      refine v_get S (fun w h => List.mem_cons_of_mem _ (i_FV w h)) hKK.1 0 (by decide) rfl rfl 2 (by decide) (S.2.2.2.2 _ (List.mem_cons_of_mem _ (wd_145))) (fun _ h => h) rfl d_FV_about_65 ?_
      refine v_get S (fun w h => List.mem_cons_of_mem _ (i_Ma w h)) hKK.1 16 (by decide) rfl rfl 2 (by decide) (S.2.2.2.2 _ (List.mem_cons_of_mem _ (wd_126))) (fun _ h => h) rfl d_FV_about_68 ?_
      exact v_iret S hret hlocks d_FV_about_71
    · refine v_tsw S (6 : Int32) (tgt := 72) d_FV_about_1 (by decide) (by decide) (off := 71) rfl (by decide) (fun h6 => ?_) (fun h6 => ?_)
      · refine v_aload_n S d_FV_about_72 rfl rfl ?_
        refine v_get S (fun w h => List.mem_cons_of_mem _ (i_FV w h)) hKK.1 0 (by decide) rfl rfl 2 (by decide) (S.2.2.2.2 _ (List.mem_cons_of_mem _ (wd_145))) (fun _ h => h) rfl d_FV_about_73 ?_
        refine v_get S (fun w h => List.mem_cons_of_mem _ (i_Ma w h)) hKK.1 16 (by decide) rfl rfl 1 (by decide) (S.2.2.2.2 _ (List.mem_cons_of_mem _ (wd_124))) (fun _ h => h) rfl d_FV_about_76 ?_
        exact v_iret S hret hlocks d_FV_about_79
      · refine v_tsw S (7 : Int32) (tgt := 80) d_FV_about_1 (by decide) (by decide) (off := 79) rfl (by decide) (fun h7 => ?_) (fun h7 => ?_)
        · refine v_aload_n S d_FV_about_80 rfl rfl ?_
          refine v_get S (fun w h => List.mem_cons_of_mem _ (i_FV w h)) hKK.1 0 (by decide) rfl rfl 0 (by decide) (S.2.2.2.2 _ (List.mem_cons_of_mem _ (wd_143))) (fun _ h => h) rfl d_FV_about_81 ?_
          refine v_get S (fun w h => List.mem_cons_of_mem _ (i_Co w h)) hKK.1 1 (by decide) rfl rfl 0 (by decide) (S.2.2.2.2 _ (List.mem_cons_of_mem _ (wd_41))) (fun _ h => h) rfl d_FV_about_84 ?_
          exact v_iret S hret hlocks d_FV_about_87
        · refine v_tswQ S (1 : Int32) (tgt := 88) d_FV_about_1 (by decide) (by decide) (off := 87) rfl (by decide) ?_ (fun h8 => ?_)
          · refine v_aload_n S d_FV_about_88 rfl rfl ?_
            refine v_get S (fun w h => List.mem_cons_of_mem _ (i_FV w h)) hKK.1 0 (by decide) rfl rfl 2 (by decide) (S.2.2.2.2 _ (List.mem_cons_of_mem _ (wd_145))) (fun _ h => h) rfl d_FV_about_89 ?_
            refine v_ci (rest := []) (fun _ _ hg H locs ls hsz hP hS => run_V (As := []) (rest := []) S kC_ok hKK (c_Ma_isRunning l D ca ax b σ hg) (k_FV_84 S.2.2.2.2 (fun _ => List.mem_cons_of_mem _) ⟨Nat.le_of_ble_eq_true rfl, Nat.le_of_ble_eq_true rfl⟩) (rc_w hKK.1 hP 16 (by decide) rfl rfl) rfl rfl (Nat.zero_le _) d_FV_about_92 hsz hP hS) (fun r13 σ12 _ => ?_)
            refine v_if_eq S d_FV_about_95 (tgt := 106) (by decide) (fun h14 => ?_) (fun h14 => ?_)
            · refine v_iconst S d_FV_about_106 (v := (-1 : Int32)) (by decide) ?_
              exact v_iret S hret hlocks d_FV_about_107
            · refine v_aload_n S d_FV_about_98 rfl rfl ?_
              refine v_iload_n S d_FV_about_99 rfl rfl ?_
              refine v_ci (rest := []) (fun _ _ hg H locs ls hsz hP hS => run_V (As := [.int a0]) (rest := []) S kC_ok hKK (c_FV_aboutTopFrame l D ca ax b σ12 a0 hg) (k_FV_100 S.2.2.2.2 (fun _ => List.mem_cons_of_mem _) ⟨Nat.le_of_ble_eq_true rfl, Nat.le_of_ble_eq_true rfl⟩) (rc_w hKK.1 hP 0 (by decide) rfl rfl) rfl rfl (Nat.zero_le _) d_FV_about_100 hsz hP hS) (fun r16 σ15 _ => ?_)
              refine v_goto S d_FV_about_103 (tgt := 107) (by decide) ?_
              exact v_iret S hret hlocks d_FV_about_107
          · refine v_tswQ S (2 : Int32) (tgt := 88) d_FV_about_1 (by decide) (by decide) (off := 87) rfl (by decide) ?_ (fun h9 => ?_)
            · refine v_aload_n S d_FV_about_88 rfl rfl ?_
              refine v_get S (fun w h => List.mem_cons_of_mem _ (i_FV w h)) hKK.1 0 (by decide) rfl rfl 2 (by decide) (S.2.2.2.2 _ (List.mem_cons_of_mem _ (wd_145))) (fun _ h => h) rfl d_FV_about_89 ?_
              refine v_ci (rest := []) (fun _ _ hg H locs ls hsz hP hS => run_V (As := []) (rest := []) S kC_ok hKK (c_Ma_isRunning l D ca ax b σ hg) (k_FV_84 S.2.2.2.2 (fun _ => List.mem_cons_of_mem _) ⟨Nat.le_of_ble_eq_true rfl, Nat.le_of_ble_eq_true rfl⟩) (rc_w hKK.1 hP 16 (by decide) rfl rfl) rfl rfl (Nat.zero_le _) d_FV_about_92 hsz hP hS) (fun r13 σ12 _ => ?_)
              refine v_if_eq S d_FV_about_95 (tgt := 106) (by decide) (fun h14 => ?_) (fun h14 => ?_)
              · refine v_iconst S d_FV_about_106 (v := (-1 : Int32)) (by decide) ?_
                exact v_iret S hret hlocks d_FV_about_107
              · refine v_aload_n S d_FV_about_98 rfl rfl ?_
                refine v_iload_n S d_FV_about_99 rfl rfl ?_
                refine v_ci (rest := []) (fun _ _ hg H locs ls hsz hP hS => run_V (As := [.int a0]) (rest := []) S kC_ok hKK (c_FV_aboutTopFrame l D ca ax b σ12 a0 hg) (k_FV_100 S.2.2.2.2 (fun _ => List.mem_cons_of_mem _) ⟨Nat.le_of_ble_eq_true rfl, Nat.le_of_ble_eq_true rfl⟩) (rc_w hKK.1 hP 0 (by decide) rfl rfl) rfl rfl (Nat.zero_le _) d_FV_about_100 hsz hP hS) (fun r16 σ15 _ => ?_)
                refine v_goto S d_FV_about_103 (tgt := 107) (by decide) ?_
                exact v_iret S hret hlocks d_FV_about_107
            · refine v_tswQ S (3 : Int32) (tgt := 88) d_FV_about_1 (by decide) (by decide) (off := 87) rfl (by decide) ?_ (fun h10 => ?_)
              · refine v_aload_n S d_FV_about_88 rfl rfl ?_
                refine v_get S (fun w h => List.mem_cons_of_mem _ (i_FV w h)) hKK.1 0 (by decide) rfl rfl 2 (by decide) (S.2.2.2.2 _ (List.mem_cons_of_mem _ (wd_145))) (fun _ h => h) rfl d_FV_about_89 ?_
                refine v_ci (rest := []) (fun _ _ hg H locs ls hsz hP hS => run_V (As := []) (rest := []) S kC_ok hKK (c_Ma_isRunning l D ca ax b σ hg) (k_FV_84 S.2.2.2.2 (fun _ => List.mem_cons_of_mem _) ⟨Nat.le_of_ble_eq_true rfl, Nat.le_of_ble_eq_true rfl⟩) (rc_w hKK.1 hP 16 (by decide) rfl rfl) rfl rfl (Nat.zero_le _) d_FV_about_92 hsz hP hS) (fun r13 σ12 _ => ?_)
                refine v_if_eq S d_FV_about_95 (tgt := 106) (by decide) (fun h14 => ?_) (fun h14 => ?_)
                · refine v_iconst S d_FV_about_106 (v := (-1 : Int32)) (by decide) ?_
                  exact v_iret S hret hlocks d_FV_about_107
                · refine v_aload_n S d_FV_about_98 rfl rfl ?_
                  refine v_iload_n S d_FV_about_99 rfl rfl ?_
                  refine v_ci (rest := []) (fun _ _ hg H locs ls hsz hP hS => run_V (As := [.int a0]) (rest := []) S kC_ok hKK (c_FV_aboutTopFrame l D ca ax b σ12 a0 hg) (k_FV_100 S.2.2.2.2 (fun _ => List.mem_cons_of_mem _) ⟨Nat.le_of_ble_eq_true rfl, Nat.le_of_ble_eq_true rfl⟩) (rc_w hKK.1 hP 0 (by decide) rfl rfl) rfl rfl (Nat.zero_le _) d_FV_about_100 hsz hP hS) (fun r16 σ15 _ => ?_)
                  refine v_goto S d_FV_about_103 (tgt := 107) (by decide) ?_
                  exact v_iret S hret hlocks d_FV_about_107
              · refine v_tswQ S (4 : Int32) (tgt := 88) d_FV_about_1 (by decide) (by decide) (off := 87) rfl (by decide) ?_ (fun h11 => ?_)
                · refine v_aload_n S d_FV_about_88 rfl rfl ?_
                  refine v_get S (fun w h => List.mem_cons_of_mem _ (i_FV w h)) hKK.1 0 (by decide) rfl rfl 2 (by decide) (S.2.2.2.2 _ (List.mem_cons_of_mem _ (wd_145))) (fun _ h => h) rfl d_FV_about_89 ?_
                  refine v_ci (rest := []) (fun _ _ hg H locs ls hsz hP hS => run_V (As := []) (rest := []) S kC_ok hKK (c_Ma_isRunning l D ca ax b σ hg) (k_FV_84 S.2.2.2.2 (fun _ => List.mem_cons_of_mem _) ⟨Nat.le_of_ble_eq_true rfl, Nat.le_of_ble_eq_true rfl⟩) (rc_w hKK.1 hP 16 (by decide) rfl rfl) rfl rfl (Nat.zero_le _) d_FV_about_92 hsz hP hS) (fun r13 σ12 _ => ?_)
                  refine v_if_eq S d_FV_about_95 (tgt := 106) (by decide) (fun h14 => ?_) (fun h14 => ?_)
                  · refine v_iconst S d_FV_about_106 (v := (-1 : Int32)) (by decide) ?_
                    exact v_iret S hret hlocks d_FV_about_107
                  · refine v_aload_n S d_FV_about_98 rfl rfl ?_
                    refine v_iload_n S d_FV_about_99 rfl rfl ?_
                    refine v_ci (rest := []) (fun _ _ hg H locs ls hsz hP hS => run_V (As := [.int a0]) (rest := []) S kC_ok hKK (c_FV_aboutTopFrame l D ca ax b σ12 a0 hg) (k_FV_100 S.2.2.2.2 (fun _ => List.mem_cons_of_mem _) ⟨Nat.le_of_ble_eq_true rfl, Nat.le_of_ble_eq_true rfl⟩) (rc_w hKK.1 hP 0 (by decide) rfl rfl) rfl rfl (Nat.zero_le _) d_FV_about_100 hsz hP hS) (fun r16 σ15 _ => ?_)
                    refine v_goto S d_FV_about_103 (tgt := 107) (by decide) ?_
                    exact v_iret S hret hlocks d_FV_about_107
                · refine v_tswD S (tgt := 88) d_FV_about_1 (by have nh1 := i32_ne (n := 0) h1 (by decide); have nh5 := i32_ne (n := 5) h5 (by decide); have nh6 := i32_ne (n := 6) h6 (by decide); have nh7 := i32_ne (n := 7) h7 (by decide); have nh8 := i32_ne (n := 1) h8 (by decide); have nh9 := i32_ne (n := 2) h9 (by decide); have nh10 := i32_ne (n := 3) h10 (by decide); have nh11 := i32_ne (n := 4) h11 (by decide); omega) (by decide) ?_
                  refine v_aload_n S d_FV_about_88 rfl rfl ?_
                  refine v_get S (fun w h => List.mem_cons_of_mem _ (i_FV w h)) hKK.1 0 (by decide) rfl rfl 2 (by decide) (S.2.2.2.2 _ (List.mem_cons_of_mem _ (wd_145))) (fun _ h => h) rfl d_FV_about_89 ?_
                  refine v_ci (rest := []) (fun _ _ hg H locs ls hsz hP hS => run_V (As := []) (rest := []) S kC_ok hKK (c_Ma_isRunning l D ca ax b σ hg) (k_FV_84 S.2.2.2.2 (fun _ => List.mem_cons_of_mem _) ⟨Nat.le_of_ble_eq_true rfl, Nat.le_of_ble_eq_true rfl⟩) (rc_w hKK.1 hP 16 (by decide) rfl rfl) rfl rfl (Nat.zero_le _) d_FV_about_92 hsz hP hS) (fun r13 σ12 _ => ?_)
                  refine v_if_eq S d_FV_about_95 (tgt := 106) (by decide) (fun h14 => ?_) (fun h14 => ?_)
                  · refine v_iconst S d_FV_about_106 (v := (-1 : Int32)) (by decide) ?_
                    exact v_iret S hret hlocks d_FV_about_107
                  · refine v_aload_n S d_FV_about_98 rfl rfl ?_
                    refine v_iload_n S d_FV_about_99 rfl rfl ?_
                    refine v_ci (rest := []) (fun _ _ hg H locs ls hsz hP hS => run_V (As := [.int a0]) (rest := []) S kC_ok hKK (c_FV_aboutTopFrame l D ca ax b σ12 a0 hg) (k_FV_100 S.2.2.2.2 (fun _ => List.mem_cons_of_mem _) ⟨Nat.le_of_ble_eq_true rfl, Nat.le_of_ble_eq_true rfl⟩) (rc_w hKK.1 hP 0 (by decide) rfl rfl) rfl rfl (Nat.zero_le _) d_FV_about_100 hsz hP hS) (fun r16 σ15 _ => ?_)
                    refine v_goto S d_FV_about_103 (tgt := 107) (by decide) ?_
                    exact v_iret S hret hlocks d_FV_about_107
def fn_FV_local (σ : mm_M) (a0 : Int32) : Option (Int32 × mm_M) :=
    (bd (fn_FV_isLocal σ a0) (fun r2 σ1 =>
    (if r2 = 0 then
    (some ((-1 : Int32), σ1))
    else
    (bd (fn_Ma_isRunning σ1) (fun r5 σ4 =>
    (if r5 = 0 then
    (some ((-1 : Int32), σ4))
    else
    (bd (fn_Ma_top σ4) (fun r8 σ7 =>
    (bd (fn_Fr_shown σ7 r8 a0) (fun r11 σ10 =>
    (some (r11, σ10))))))))))))
set_option maxRecDepth 100000 in
set_option maxHeartbeats 40000000 in
theorem c_FV_local (l : Launch) (D : va_G) (ca : Nat → ClassId) (ax : Nat → Nat → Nat) (b : Nat) (σ : mm_M) (a0 : Int32)  {r : Int32} {σ' : mm_M} (hf : fn_FV_local σ a0 = some (r, σ')) : Met l y_FV_local w_FV_local rm_FV_local (pc_w D cls b N_C (ce_C ca b) (kC D ca ax b) [.ref (b + 0), .int a0] σ) (qc_i D cls b N_C (ce_C ca b) r σ') 0 0 (mm_A b N_C) := by
  refine vv_go (cc := b_FV_local) (maxL := 2) (ret := (some .int)) (fin := (r, σ')) (k := fn_FV_local σ a0) (by decide) rfl (by simp [Value.category]) (Nat.le_of_ble_eq_true rfl) hf ?_
  intro p e s m below meth c hlocks hret S hKK
  unfold fn_FV_local
  refine v_iload_n S d_FV_local_0 rfl rfl ?_
  refine v_ci (rest := []) (fun _ _ hg H locs ls hsz hP hS => run_S (As := [.int a0]) (rest := []) S kC_ok hKK (c_FV_isLocal l D ca ax b σ a0 hg) (k_FV_103 S.2.2.2.2 (fun _ => List.mem_cons_of_mem _) ⟨Nat.le_of_ble_eq_true rfl, Nat.le_of_ble_eq_true rfl⟩) rfl rfl (Nat.zero_le _) d_FV_local_1 hsz hP hS) (fun r2 σ1 _ => ?_)
  refine v_if_eq S d_FV_local_4 (tgt := 17) (by decide) (fun h3 => ?_) (fun h3 => ?_)
  · refine v_iconst S d_FV_local_17 (v := (-1 : Int32)) (by decide) ?_
    exact v_iret S hret hlocks d_FV_local_18
  · refine v_aload_n S d_FV_local_7 rfl rfl ?_
    refine v_get S (fun w h => List.mem_cons_of_mem _ (i_FV w h)) hKK.1 0 (by decide) rfl rfl 2 (by decide) (S.2.2.2.2 _ (List.mem_cons_of_mem _ (wd_145))) (fun _ h => h) rfl d_FV_local_8 ?_
    refine v_ci (rest := []) (fun _ _ hg H locs ls hsz hP hS => run_V (As := []) (rest := []) S kC_ok hKK (c_Ma_isRunning l D ca ax b σ1 hg) (k_FV_84 S.2.2.2.2 (fun _ => List.mem_cons_of_mem _) ⟨Nat.le_of_ble_eq_true rfl, Nat.le_of_ble_eq_true rfl⟩) (rc_w hKK.1 hP 16 (by decide) rfl rfl) rfl rfl (Nat.zero_le _) d_FV_local_11 hsz hP hS) (fun r5 σ4 _ => ?_)
    refine v_if_ne S d_FV_local_14 (tgt := 19) (by decide) (fun h6 => ?_) (fun h6 => ?_)
    · refine v_aload_n S d_FV_local_19 rfl rfl ?_
      refine v_get S (fun w h => List.mem_cons_of_mem _ (i_FV w h)) hKK.1 0 (by decide) rfl rfl 2 (by decide) (S.2.2.2.2 _ (List.mem_cons_of_mem _ (wd_145))) (fun _ h => h) rfl d_FV_local_20 ?_
      refine v_ca (fun q => b + (19 + 2 * q)) (rest := []) (fun _ _ hg H locs ls hsz hP hS => run_V (As := []) (rest := []) S kC_ok hKK (c_Ma_top l D ca ax b σ4 hg) (k_FV_106 S.2.2.2.2 (fun _ => List.mem_cons_of_mem _) ⟨Nat.le_of_ble_eq_true rfl, Nat.le_of_ble_eq_true rfl⟩) (rc_w hKK.1 hP 16 (by decide) rfl rfl) rfl rfl (Nat.zero_le _) d_FV_local_23 hsz hP hS) (fun r8 σ7 g9 => ?_)
      refine v_iload_n S d_FV_local_26 rfl rfl ?_
      refine v_ci (rest := []) (fun _ _ hg H locs ls hsz hP hS => run_V (As := [.int a0]) (rest := []) S kC_ok hKK (c_Fr_shown l D ca ax b σ7 r8 a0 (rb_Ma_top g9) hg) (k_FV_110 S.2.2.2.2 (fun _ => List.mem_cons_of_mem _) ⟨Nat.le_of_ble_eq_true rfl, Nat.le_of_ble_eq_true rfl⟩) (rc_w hKK.1 hP (19 + 2 * r8) (fr_lt (rb_Ma_top g9)) (ce_fr (rb_Ma_top g9)) rfl) rfl rfl (Nat.zero_le _) d_FV_local_27 hsz hP hS) (fun r11 σ10 _ => ?_)
      exact v_iret S hret hlocks d_FV_local_30
    · refine v_iconst S d_FV_local_17 (v := (-1 : Int32)) (by decide) ?_
      exact v_iret S hret hlocks d_FV_local_18
end

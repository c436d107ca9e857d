section
-- ===== PART A: goes FIRST, ahead of the names: the tables' words, and 'selects' of the private methods out of them =====
/-- a private method of a class that the tables say can be made, by its rows of tables_1 -/
def lw_okq (q : MethodName × Nat) : Prop := (q.1.cls ≠ "java/lang/invoke/MethodHandle" ∧ q.1.cls ≠ "java/lang/invoke/VarHandle") ∧ Cond.instantiable q.1.cls q.2 ∈ tables_1 ∧ Cond.privateMethod q.1 ∈ tables_1 ∧ Cond.instanceMethod q.1 ∈ tables_1
theorem lw_p0 : lw_okq (⟨"TemperIsles$Scribe", "startOver", "()V"⟩, 15) := ⟨⟨by decide +kernel, by decide +kernel⟩, List.mem_of_getElem? (i := 144) (by decide +kernel), List.mem_of_getElem? (i := 250) (by decide +kernel), List.mem_of_getElem? (i := 251) (by decide +kernel)⟩
theorem lw_p1 : lw_okq (⟨"TemperIsles$Scribe", "takeToken", "()Z"⟩, 15) := ⟨⟨by decide +kernel, by decide +kernel⟩, List.mem_of_getElem? (i := 144) (by decide +kernel), List.mem_of_getElem? (i := 261) (by decide +kernel), List.mem_of_getElem? (i := 262) (by decide +kernel)⟩
theorem lw_p2 : lw_okq (⟨"TemperIsles$Scribe", "pass", "(CC)I"⟩, 15) := ⟨⟨by decide +kernel, by decide +kernel⟩, List.mem_of_getElem? (i := 144) (by decide +kernel), List.mem_of_getElem? (i := 265) (by decide +kernel), List.mem_of_getElem? (i := 266) (by decide +kernel)⟩
theorem lw_p3 : lw_okq (⟨"TemperIsles$Scribe", "fail", "(I)Z"⟩, 15) := ⟨⟨by decide +kernel, by decide +kernel⟩, List.mem_of_getElem? (i := 144) (by decide +kernel), List.mem_of_getElem? (i := 269) (by decide +kernel), List.mem_of_getElem? (i := 270) (by decide +kernel)⟩
theorem lw_p4 : lw_okq (⟨"TemperIsles$Scribe", "lineNamed", "()I"⟩, 15) := ⟨⟨by decide +kernel, by decide +kernel⟩, List.mem_of_getElem? (i := 144) (by decide +kernel), List.mem_of_getElem? (i := 273) (by decide +kernel), List.mem_of_getElem? (i := 274) (by decide +kernel)⟩
theorem lw_p5 : lw_okq (⟨"TemperIsles$Scribe", "isNamed", "(Ljava/lang/String;)Z"⟩, 15) := ⟨⟨by decide +kernel, by decide +kernel⟩, List.mem_of_getElem? (i := 144) (by decide +kernel), List.mem_of_getElem? (i := 278) (by decide +kernel), List.mem_of_getElem? (i := 279) (by decide +kernel)⟩
theorem lw_p6 : lw_okq (⟨"TemperIsles$Scribe", "takeLine", "(I)Z"⟩, 15) := ⟨⟨by decide +kernel, by decide +kernel⟩, List.mem_of_getElem? (i := 144) (by decide +kernel), List.mem_of_getElem? (i := 336) (by decide +kernel), List.mem_of_getElem? (i := 337) (by decide +kernel)⟩
theorem lw_p7 : lw_okq (⟨"TemperIsles$Scribe", "takePair", "()Z"⟩, 15) := ⟨⟨by decide +kernel, by decide +kernel⟩, List.mem_of_getElem? (i := 144) (by decide +kernel), List.mem_of_getElem? (i := 340) (by decide +kernel), List.mem_of_getElem? (i := 341) (by decide +kernel)⟩
theorem lw_p8 : lw_okq (⟨"TemperIsles$Scribe", "takeNumber", "(II)Z"⟩, 15) := ⟨⟨by decide +kernel, by decide +kernel⟩, List.mem_of_getElem? (i := 144) (by decide +kernel), List.mem_of_getElem? (i := 344) (by decide +kernel), List.mem_of_getElem? (i := 345) (by decide +kernel)⟩
theorem lw_p9 : lw_okq (⟨"TemperIsles$Scribe", "takeGrudge", "()Z"⟩, 15) := ⟨⟨by decide +kernel, by decide +kernel⟩, List.mem_of_getElem? (i := 144) (by decide +kernel), List.mem_of_getElem? (i := 354) (by decide +kernel), List.mem_of_getElem? (i := 355) (by decide +kernel)⟩
theorem lw_p10 : lw_okq (⟨"TemperIsles$Scribe", "takeStop", "()Z"⟩, 15) := ⟨⟨by decide +kernel, by decide +kernel⟩, List.mem_of_getElem? (i := 144) (by decide +kernel), List.mem_of_getElem? (i := 362) (by decide +kernel), List.mem_of_getElem? (i := 363) (by decide +kernel)⟩
theorem lw_p11 : lw_okq (⟨"TemperIsles$Scribe", "takeRope", "()Z"⟩, 15) := ⟨⟨by decide +kernel, by decide +kernel⟩, List.mem_of_getElem? (i := 144) (by decide +kernel), List.mem_of_getElem? (i := 366) (by decide +kernel), List.mem_of_getElem? (i := 367) (by decide +kernel)⟩
theorem lw_p12 : lw_okq (⟨"TemperIsles$Scribe", "takeFeast", "()Z"⟩, 15) := ⟨⟨by decide +kernel, by decide +kernel⟩, List.mem_of_getElem? (i := 144) (by decide +kernel), List.mem_of_getElem? (i := 374) (by decide +kernel), List.mem_of_getElem? (i := 375) (by decide +kernel)⟩
theorem lw_p13 : lw_okq (⟨"TemperIsles$Scribe", "takeIsle", "(I)Z"⟩, 15) := ⟨⟨by decide +kernel, by decide +kernel⟩, List.mem_of_getElem? (i := 144) (by decide +kernel), List.mem_of_getElem? (i := 378) (by decide +kernel), List.mem_of_getElem? (i := 379) (by decide +kernel)⟩
theorem lw_p14 : lw_okq (⟨"TemperIsles", "isIsle", "(I)Z"⟩, 9) := ⟨⟨by decide +kernel, by decide +kernel⟩, List.mem_of_getElem? (i := 17) (by decide +kernel), List.mem_of_getElem? (i := 417) (by decide +kernel), List.mem_of_getElem? (i := 418) (by decide +kernel)⟩
theorem lw_p15 : lw_okq (⟨"TemperIsles", "isPair", "(II)Z"⟩, 9) := ⟨⟨by decide +kernel, by decide +kernel⟩, List.mem_of_getElem? (i := 17) (by decide +kernel), List.mem_of_getElem? (i := 444) (by decide +kernel), List.mem_of_getElem? (i := 445) (by decide +kernel)⟩
def lw_privs_1 : List (MethodName × Nat) := [(⟨"TemperIsles$Scribe", "startOver", "()V"⟩, 15), (⟨"TemperIsles$Scribe", "takeToken", "()Z"⟩, 15), (⟨"TemperIsles$Scribe", "pass", "(CC)I"⟩, 15), (⟨"TemperIsles$Scribe", "fail", "(I)Z"⟩, 15), (⟨"TemperIsles$Scribe", "lineNamed", "()I"⟩, 15), (⟨"TemperIsles$Scribe", "isNamed", "(Ljava/lang/String;)Z"⟩, 15), (⟨"TemperIsles$Scribe", "takeLine", "(I)Z"⟩, 15), (⟨"TemperIsles$Scribe", "takePair", "()Z"⟩, 15), (⟨"TemperIsles$Scribe", "takeNumber", "(II)Z"⟩, 15), (⟨"TemperIsles$Scribe", "takeGrudge", "()Z"⟩, 15), (⟨"TemperIsles$Scribe", "takeStop", "()Z"⟩, 15), (⟨"TemperIsles$Scribe", "takeRope", "()Z"⟩, 15), (⟨"TemperIsles$Scribe", "takeFeast", "()Z"⟩, 15), (⟨"TemperIsles$Scribe", "takeIsle", "(I)Z"⟩, 15), (⟨"TemperIsles", "isIsle", "(I)Z"⟩, 9), (⟨"TemperIsles", "isPair", "(II)Z"⟩, 9)]
theorem lw_r1 : ∀ q ∈ lw_privs_1, lw_okq q := List.forall_mem_cons.mpr ⟨lw_p0, List.forall_mem_cons.mpr ⟨lw_p1, List.forall_mem_cons.mpr ⟨lw_p2, List.forall_mem_cons.mpr ⟨lw_p3, List.forall_mem_cons.mpr ⟨lw_p4, List.forall_mem_cons.mpr ⟨lw_p5, List.forall_mem_cons.mpr ⟨lw_p6, List.forall_mem_cons.mpr ⟨lw_p7, List.forall_mem_cons.mpr ⟨lw_p8, List.forall_mem_cons.mpr ⟨lw_p9, List.forall_mem_cons.mpr ⟨lw_p10, List.forall_mem_cons.mpr ⟨lw_p11, List.forall_mem_cons.mpr ⟨lw_p12, List.forall_mem_cons.mpr ⟨lw_p13, List.forall_mem_cons.mpr ⟨lw_p14, List.forall_mem_cons.mpr ⟨lw_p15, fun _ h => absurd h List.not_mem_nil⟩⟩⟩⟩⟩⟩⟩⟩⟩⟩⟩⟩⟩⟩⟩⟩
theorem lw_p16 : lw_okq (⟨"TemperIsles", "isRope", "(I)Z"⟩, 9) := ⟨⟨by decide +kernel, by decide +kernel⟩, List.mem_of_getElem? (i := 17) (by decide +kernel), List.mem_of_getElem? (i := 456) (by decide +kernel), List.mem_of_getElem? (i := 457) (by decide +kernel)⟩
theorem lw_p17 : lw_okq (⟨"TemperIsles", "isGrudge", "(III)Z"⟩, 9) := ⟨⟨by decide +kernel, by decide +kernel⟩, List.mem_of_getElem? (i := 17) (by decide +kernel), List.mem_of_getElem? (i := 474) (by decide +kernel), List.mem_of_getElem? (i := 475) (by decide +kernel)⟩
theorem lw_p18 : lw_okq (⟨"TemperIsles$Firth", "comeIn", "(I)V"⟩, 11) := ⟨⟨by decide +kernel, by decide +kernel⟩, List.mem_of_getElem? (i := 25) (by decide +kernel), List.mem_of_getElem? (i := 508) (by decide +kernel), List.mem_of_getElem? (i := 509) (by decide +kernel)⟩
theorem lw_p19 : lw_okq (⟨"TemperIsles$Firth", "driftOff", "(I)V"⟩, 11) := ⟨⟨by decide +kernel, by decide +kernel⟩, List.mem_of_getElem? (i := 25) (by decide +kernel), List.mem_of_getElem? (i := 517) (by decide +kernel), List.mem_of_getElem? (i := 518) (by decide +kernel)⟩
theorem lw_p20 : lw_okq (⟨"TemperIsles", "asItIs", "()LTemperIsles$Firth;"⟩, 9) := ⟨⟨by decide +kernel, by decide +kernel⟩, List.mem_of_getElem? (i := 17) (by decide +kernel), List.mem_of_getElem? (i := 527) (by decide +kernel), List.mem_of_getElem? (i := 528) (by decide +kernel)⟩
theorem lw_p21 : lw_okq (⟨"TemperIsles", "kindsAsSeen", "(I)I"⟩, 9) := ⟨⟨by decide +kernel, by decide +kernel⟩, List.mem_of_getElem? (i := 17) (by decide +kernel), List.mem_of_getElem? (i := 628) (by decide +kernel), List.mem_of_getElem? (i := 629) (by decide +kernel)⟩
theorem lw_p22 : lw_okq (⟨"TemperIsles$Sightings", "agreeBehind", "(ILTemperIsles$Firth;)Z"⟩, 4) := ⟨⟨by decide +kernel, by decide +kernel⟩, List.mem_of_getElem? (i := 80) (by decide +kernel), List.mem_of_getElem? (i := 638) (by decide +kernel), List.mem_of_getElem? (i := 639) (by decide +kernel)⟩
theorem lw_p23 : lw_okq (⟨"TemperIsles", "layCourses", "(II)I"⟩, 9) := ⟨⟨by decide +kernel, by decide +kernel⟩, List.mem_of_getElem? (i := 17) (by decide +kernel), List.mem_of_getElem? (i := 650) (by decide +kernel), List.mem_of_getElem? (i := 651) (by decide +kernel)⟩
theorem lw_p24 : lw_okq (⟨"TemperIsles", "mostLeft", "(II)I"⟩, 9) := ⟨⟨by decide +kernel, by decide +kernel⟩, List.mem_of_getElem? (i := 17) (by decide +kernel), List.mem_of_getElem? (i := 654) (by decide +kernel), List.mem_of_getElem? (i := 655) (by decide +kernel)⟩
theorem lw_p25 : lw_okq (⟨"TemperIslesModel", "firstDraft", "()V"⟩, 29) := ⟨⟨by decide +kernel, by decide +kernel⟩, List.mem_of_getElem? (i := 724) (by decide +kernel), List.mem_of_getElem? (i := 730) (by decide +kernel), List.mem_of_getElem? (i := 731) (by decide +kernel)⟩
theorem lw_p26 : lw_okq (⟨"TemperIslesModel", "keepDraft", "()V"⟩, 29) := ⟨⟨by decide +kernel, by decide +kernel⟩, List.mem_of_getElem? (i := 724) (by decide +kernel), List.mem_of_getElem? (i := 734) (by decide +kernel), List.mem_of_getElem? (i := 735) (by decide +kernel)⟩
theorem lw_p27 : lw_okq (⟨"TemperIslesModel", "takes", "()V"⟩, 29) := ⟨⟨by decide +kernel, by decide +kernel⟩, List.mem_of_getElem? (i := 724) (by decide +kernel), List.mem_of_getElem? (i := 842) (by decide +kernel), List.mem_of_getElem? (i := 843) (by decide +kernel)⟩
theorem lw_p28 : lw_okq (⟨"TemperIslesModel", "byteAt", "(I)I"⟩, 29) := ⟨⟨by decide +kernel, by decide +kernel⟩, List.mem_of_getElem? (i := 724) (by decide +kernel), List.mem_of_getElem? (i := 846) (by decide +kernel), List.mem_of_getElem? (i := 847) (by decide +kernel)⟩
theorem lw_p29 : lw_okq (⟨"TemperIslesModel", "needs", "(ZI)V"⟩, 29) := ⟨⟨by decide +kernel, by decide +kernel⟩, List.mem_of_getElem? (i := 724) (by decide +kernel), List.mem_of_getElem? (i := 854) (by decide +kernel), List.mem_of_getElem? (i := 855) (by decide +kernel)⟩
theorem lw_p30 : lw_okq (⟨"TemperIslesModel", "readLine", "()V"⟩, 29) := ⟨⟨by decide +kernel, by decide +kernel⟩, List.mem_of_getElem? (i := 724) (by decide +kernel), List.mem_of_getElem? (i := 858) (by decide +kernel), List.mem_of_getElem? (i := 859) (by decide +kernel)⟩
theorem lw_p31 : lw_okq (⟨"TemperIslesModel", "lineNow", "()I"⟩, 29) := ⟨⟨by decide +kernel, by decide +kernel⟩, List.mem_of_getElem? (i := 724) (by decide +kernel), List.mem_of_getElem? (i := 862) (by decide +kernel), List.mem_of_getElem? (i := 863) (by decide +kernel)⟩
def lw_privs_2 : List (MethodName × Nat) := [(⟨"TemperIsles", "isRope", "(I)Z"⟩, 9), (⟨"TemperIsles", "isGrudge", "(III)Z"⟩, 9), (⟨"TemperIsles$Firth", "comeIn", "(I)V"⟩, 11), (⟨"TemperIsles$Firth", "driftOff", "(I)V"⟩, 11), (⟨"TemperIsles", "asItIs", "()LTemperIsles$Firth;"⟩, 9), (⟨"TemperIsles", "kindsAsSeen", "(I)I"⟩, 9), (⟨"TemperIsles$Sightings", "agreeBehind", "(ILTemperIsles$Firth;)Z"⟩, 4), (⟨"TemperIsles", "layCourses", "(II)I"⟩, 9), (⟨"TemperIsles", "mostLeft", "(II)I"⟩, 9), (⟨"TemperIslesModel", "firstDraft", "()V"⟩, 29), (⟨"TemperIslesModel", "keepDraft", "()V"⟩, 29), (⟨"TemperIslesModel", "takes", "()V"⟩, 29), (⟨"TemperIslesModel", "byteAt", "(I)I"⟩, 29), (⟨"TemperIslesModel", "needs", "(ZI)V"⟩, 29), (⟨"TemperIslesModel", "readLine", "()V"⟩, 29), (⟨"TemperIslesModel", "lineNow", "()I"⟩, 29)]
theorem lw_r2 : ∀ q ∈ lw_privs_2, lw_okq q := List.forall_mem_cons.mpr ⟨lw_p16, List.forall_mem_cons.mpr ⟨lw_p17, List.forall_mem_cons.mpr ⟨lw_p18, List.forall_mem_cons.mpr ⟨lw_p19, List.forall_mem_cons.mpr ⟨lw_p20, List.forall_mem_cons.mpr ⟨lw_p21, List.forall_mem_cons.mpr ⟨lw_p22, List.forall_mem_cons.mpr ⟨lw_p23, List.forall_mem_cons.mpr ⟨lw_p24, List.forall_mem_cons.mpr ⟨lw_p25, List.forall_mem_cons.mpr ⟨lw_p26, List.forall_mem_cons.mpr ⟨lw_p27, List.forall_mem_cons.mpr ⟨lw_p28, List.forall_mem_cons.mpr ⟨lw_p29, List.forall_mem_cons.mpr ⟨lw_p30, List.forall_mem_cons.mpr ⟨lw_p31, fun _ h => absurd h List.not_mem_nil⟩⟩⟩⟩⟩⟩⟩⟩⟩⟩⟩⟩⟩⟩⟩⟩
theorem lw_p32 : lw_okq (⟨"TemperIslesModel", "is", "(IIIII)Z"⟩, 29) := ⟨⟨by decide +kernel, by decide +kernel⟩, List.mem_of_getElem? (i := 724) (by decide +kernel), List.mem_of_getElem? (i := 866) (by decide +kernel), List.mem_of_getElem? (i := 867) (by decide +kernel)⟩
theorem lw_p33 : lw_okq (⟨"TemperIslesModel", "endsIn", "(I)Z"⟩, 29) := ⟨⟨by decide +kernel, by decide +kernel⟩, List.mem_of_getElem? (i := 724) (by decide +kernel), List.mem_of_getElem? (i := 870) (by decide +kernel), List.mem_of_getElem? (i := 871) (by decide +kernel)⟩
theorem lw_p34 : lw_okq (⟨"TemperIslesModel", "readLineOf", "(I)V"⟩, 29) := ⟨⟨by decide +kernel, by decide +kernel⟩, List.mem_of_getElem? (i := 724) (by decide +kernel), List.mem_of_getElem? (i := 874) (by decide +kernel), List.mem_of_getElem? (i := 875) (by decide +kernel)⟩
theorem lw_p35 : lw_okq (⟨"TemperIslesModel", "readCross", "()V"⟩, 29) := ⟨⟨by decide +kernel, by decide +kernel⟩, List.mem_of_getElem? (i := 724) (by decide +kernel), List.mem_of_getElem? (i := 878) (by decide +kernel), List.mem_of_getElem? (i := 879) (by decide +kernel)⟩
theorem lw_p36 : lw_okq (⟨"TemperIslesModel", "readNumber", "(II)I"⟩, 29) := ⟨⟨by decide +kernel, by decide +kernel⟩, List.mem_of_getElem? (i := 724) (by decide +kernel), List.mem_of_getElem? (i := 882) (by decide +kernel), List.mem_of_getElem? (i := 883) (by decide +kernel)⟩
theorem lw_p37 : lw_okq (⟨"TemperIslesModel", "looked", "(II)I"⟩, 29) := ⟨⟨by decide +kernel, by decide +kernel⟩, List.mem_of_getElem? (i := 724) (by decide +kernel), List.mem_of_getElem? (i := 886) (by decide +kernel), List.mem_of_getElem? (i := 887) (by decide +kernel)⟩
theorem lw_p38 : lw_okq (⟨"TemperIslesModel", "noteHighest", "(I)V"⟩, 29) := ⟨⟨by decide +kernel, by decide +kernel⟩, List.mem_of_getElem? (i := 724) (by decide +kernel), List.mem_of_getElem? (i := 890) (by decide +kernel), List.mem_of_getElem? (i := 891) (by decide +kernel)⟩
theorem lw_p39 : lw_okq (⟨"TemperIslesModel", "readRope", "()V"⟩, 29) := ⟨⟨by decide +kernel, by decide +kernel⟩, List.mem_of_getElem? (i := 724) (by decide +kernel), List.mem_of_getElem? (i := 894) (by decide +kernel), List.mem_of_getElem? (i := 895) (by decide +kernel)⟩
theorem lw_p40 : lw_okq (⟨"TemperIslesModel", "readIsle", "(I)V"⟩, 29) := ⟨⟨by decide +kernel, by decide +kernel⟩, List.mem_of_getElem? (i := 724) (by decide +kernel), List.mem_of_getElem? (i := 898) (by decide +kernel), List.mem_of_getElem? (i := 899) (by decide +kernel)⟩
theorem lw_p41 : lw_okq (⟨"TemperIslesModel", "starts", "()V"⟩, 29) := ⟨⟨by decide +kernel, by decide +kernel⟩, List.mem_of_getElem? (i := 724) (by decide +kernel), List.mem_of_getElem? (i := 910) (by decide +kernel), List.mem_of_getElem? (i := 911) (by decide +kernel)⟩
theorem lw_p42 : lw_okq (⟨"TemperIslesModel", "spread", "()I"⟩, 29) := ⟨⟨by decide +kernel, by decide +kernel⟩, List.mem_of_getElem? (i := 724) (by decide +kernel), List.mem_of_getElem? (i := 914) (by decide +kernel), List.mem_of_getElem? (i := 915) (by decide +kernel)⟩
theorem lw_p43 : lw_okq (⟨"TemperIslesModel", "apart", "(II)I"⟩, 29) := ⟨⟨by decide +kernel, by decide +kernel⟩, List.mem_of_getElem? (i := 724) (by decide +kernel), List.mem_of_getElem? (i := 918) (by decide +kernel), List.mem_of_getElem? (i := 919) (by decide +kernel)⟩
theorem lw_p44 : lw_okq (⟨"TemperIslesModel", "place", "(I)I"⟩, 29) := ⟨⟨by decide +kernel, by decide +kernel⟩, List.mem_of_getElem? (i := 724) (by decide +kernel), List.mem_of_getElem? (i := 922) (by decide +kernel), List.mem_of_getElem? (i := 923) (by decide +kernel)⟩
theorem lw_p45 : lw_okq (⟨"TemperIslesModel", "isIsle", "(I)Z"⟩, 29) := ⟨⟨by decide +kernel, by decide +kernel⟩, List.mem_of_getElem? (i := 724) (by decide +kernel), List.mem_of_getElem? (i := 933) (by decide +kernel), List.mem_of_getElem? (i := 934) (by decide +kernel)⟩
theorem lw_p46 : lw_okq (⟨"TemperIslesModel", "ropesOf", "(I)I"⟩, 29) := ⟨⟨by decide +kernel, by decide +kernel⟩, List.mem_of_getElem? (i := 724) (by decide +kernel), List.mem_of_getElem? (i := 937) (by decide +kernel), List.mem_of_getElem? (i := 938) (by decide +kernel)⟩
theorem lw_p47 : lw_okq (⟨"TemperIslesModel", "driftOf", "(I)I"⟩, 29) := ⟨⟨by decide +kernel, by decide +kernel⟩, List.mem_of_getElem? (i := 724) (by decide +kernel), List.mem_of_getElem? (i := 944) (by decide +kernel), List.mem_of_getElem? (i := 945) (by decide +kernel)⟩
def lw_privs_3 : List (MethodName × Nat) := [(⟨"TemperIslesModel", "is", "(IIIII)Z"⟩, 29), (⟨"TemperIslesModel", "endsIn", "(I)Z"⟩, 29), (⟨"TemperIslesModel", "readLineOf", "(I)V"⟩, 29), (⟨"TemperIslesModel", "readCross", "()V"⟩, 29), (⟨"TemperIslesModel", "readNumber", "(II)I"⟩, 29), (⟨"TemperIslesModel", "looked", "(II)I"⟩, 29), (⟨"TemperIslesModel", "noteHighest", "(I)V"⟩, 29), (⟨"TemperIslesModel", "readRope", "()V"⟩, 29), (⟨"TemperIslesModel", "readIsle", "(I)V"⟩, 29), (⟨"TemperIslesModel", "starts", "()V"⟩, 29), (⟨"TemperIslesModel", "spread", "()I"⟩, 29), (⟨"TemperIslesModel", "apart", "(II)I"⟩, 29), (⟨"TemperIslesModel", "place", "(I)I"⟩, 29), (⟨"TemperIslesModel", "isIsle", "(I)Z"⟩, 29), (⟨"TemperIslesModel", "ropesOf", "(I)I"⟩, 29), (⟨"TemperIslesModel", "driftOf", "(I)I"⟩, 29)]
theorem lw_r3 : ∀ q ∈ lw_privs_3, lw_okq q := List.forall_mem_cons.mpr ⟨lw_p32, List.forall_mem_cons.mpr ⟨lw_p33, List.forall_mem_cons.mpr ⟨lw_p34, List.forall_mem_cons.mpr ⟨lw_p35, List.forall_mem_cons.mpr ⟨lw_p36, List.forall_mem_cons.mpr ⟨lw_p37, List.forall_mem_cons.mpr ⟨lw_p38, List.forall_mem_cons.mpr ⟨lw_p39, List.forall_mem_cons.mpr ⟨lw_p40, List.forall_mem_cons.mpr ⟨lw_p41, List.forall_mem_cons.mpr ⟨lw_p42, List.forall_mem_cons.mpr ⟨lw_p43, List.forall_mem_cons.mpr ⟨lw_p44, List.forall_mem_cons.mpr ⟨lw_p45, List.forall_mem_cons.mpr ⟨lw_p46, List.forall_mem_cons.mpr ⟨lw_p47, fun _ h => absurd h List.not_mem_nil⟩⟩⟩⟩⟩⟩⟩⟩⟩⟩⟩⟩⟩⟩⟩⟩
theorem lw_p48 : lw_okq (⟨"TemperIslesModel", "sulkOf", "(I)I"⟩, 29) := ⟨⟨by decide +kernel, by decide +kernel⟩, List.mem_of_getElem? (i := 724) (by decide +kernel), List.mem_of_getElem? (i := 948) (by decide +kernel), List.mem_of_getElem? (i := 949) (by decide +kernel)⟩
theorem lw_p49 : lw_okq (⟨"TemperIslesModel", "nearest", "(I)I"⟩, 29) := ⟨⟨by decide +kernel, by decide +kernel⟩, List.mem_of_getElem? (i := 724) (by decide +kernel), List.mem_of_getElem? (i := 952) (by decide +kernel), List.mem_of_getElem? (i := 953) (by decide +kernel)⟩
theorem lw_p50 : lw_okq (⟨"TemperIslesModel", "areTwo", "(II)Z"⟩, 29) := ⟨⟨by decide +kernel, by decide +kernel⟩, List.mem_of_getElem? (i := 724) (by decide +kernel), List.mem_of_getElem? (i := 960) (by decide +kernel), List.mem_of_getElem? (i := 961) (by decide +kernel)⟩
theorem lw_p51 : lw_okq (⟨"TemperIslesModel", "isRope", "(I)Z"⟩, 29) := ⟨⟨by decide +kernel, by decide +kernel⟩, List.mem_of_getElem? (i := 724) (by decide +kernel), List.mem_of_getElem? (i := 968) (by decide +kernel), List.mem_of_getElem? (i := 969) (by decide +kernel)⟩
theorem lw_p52 : lw_okq (⟨"TemperIslesModel", "isTaken", "(I)Z"⟩, 29) := ⟨⟨by decide +kernel, by decide +kernel⟩, List.mem_of_getElem? (i := 724) (by decide +kernel), List.mem_of_getElem? (i := 986) (by decide +kernel), List.mem_of_getElem? (i := 987) (by decide +kernel)⟩
theorem lw_p53 : lw_okq (⟨"TemperIslesModel", "becomes", "(II)I"⟩, 29) := ⟨⟨by decide +kernel, by decide +kernel⟩, List.mem_of_getElem? (i := 724) (by decide +kernel), List.mem_of_getElem? (i := 990) (by decide +kernel), List.mem_of_getElem? (i := 991) (by decide +kernel)⟩
theorem lw_p54 : lw_okq (⟨"TemperIslesModel", "ties", "(III)V"⟩, 29) := ⟨⟨by decide +kernel, by decide +kernel⟩, List.mem_of_getElem? (i := 724) (by decide +kernel), List.mem_of_getElem? (i := 1007) (by decide +kernel), List.mem_of_getElem? (i := 1008) (by decide +kernel)⟩
theorem lw_p55 : lw_okq (⟨"TemperIslesModel", "settles", "()V"⟩, 29) := ⟨⟨by decide +kernel, by decide +kernel⟩, List.mem_of_getElem? (i := 724) (by decide +kernel), List.mem_of_getElem? (i := 1011) (by decide +kernel), List.mem_of_getElem? (i := 1012) (by decide +kernel)⟩
theorem lw_p56 : lw_okq (⟨"TemperIslesModel", "daysGo", "(I)V"⟩, 29) := ⟨⟨by decide +kernel, by decide +kernel⟩, List.mem_of_getElem? (i := 724) (by decide +kernel), List.mem_of_getElem? (i := 1028) (by decide +kernel), List.mem_of_getElem? (i := 1029) (by decide +kernel)⟩
theorem lw_p57 : lw_okq (⟨"TemperIslesModel", "dayGoes", "(Z)V"⟩, 29) := ⟨⟨by decide +kernel, by decide +kernel⟩, List.mem_of_getElem? (i := 724) (by decide +kernel), List.mem_of_getElem? (i := 1032) (by decide +kernel), List.mem_of_getElem? (i := 1033) (by decide +kernel)⟩
theorem lw_p58 : lw_okq (⟨"TemperIslesModel", "feasts", "(I)V"⟩, 29) := ⟨⟨by decide +kernel, by decide +kernel⟩, List.mem_of_getElem? (i := 724) (by decide +kernel), List.mem_of_getElem? (i := 1036) (by decide +kernel), List.mem_of_getElem? (i := 1037) (by decide +kernel)⟩
theorem lw_p59 : lw_okq (⟨"TemperIslesModel", "isHeld", "(II)Z"⟩, 29) := ⟨⟨by decide +kernel, by decide +kernel⟩, List.mem_of_getElem? (i := 724) (by decide +kernel), List.mem_of_getElem? (i := 1040) (by decide +kernel), List.mem_of_getElem? (i := 1041) (by decide +kernel)⟩
theorem lw_p60 : lw_okq (⟨"TemperIslesModel", "drifts", "(I)V"⟩, 29) := ⟨⟨by decide +kernel, by decide +kernel⟩, List.mem_of_getElem? (i := 724) (by decide +kernel), List.mem_of_getElem? (i := 1044) (by decide +kernel), List.mem_of_getElem? (i := 1045) (by decide +kernel)⟩
theorem lw_p61 : lw_okq (⟨"TemperIslesModel", "bumpsSince", "()I"⟩, 29) := ⟨⟨by decide +kernel, by decide +kernel⟩, List.mem_of_getElem? (i := 724) (by decide +kernel), List.mem_of_getElem? (i := 1048) (by decide +kernel), List.mem_of_getElem? (i := 1049) (by decide +kernel)⟩
theorem lw_p62 : lw_okq (⟨"TemperIslesModel", "spreadBehind", "(I)I"⟩, 29) := ⟨⟨by decide +kernel, by decide +kernel⟩, List.mem_of_getElem? (i := 724) (by decide +kernel), List.mem_of_getElem? (i := 1078) (by decide +kernel), List.mem_of_getElem? (i := 1079) (by decide +kernel)⟩
theorem lw_p63 : lw_okq (⟨"TemperIslesModel", "startsJudging", "(I)V"⟩, 29) := ⟨⟨by decide +kernel, by decide +kernel⟩, List.mem_of_getElem? (i := 724) (by decide +kernel), List.mem_of_getElem? (i := 1082) (by decide +kernel), List.mem_of_getElem? (i := 1083) (by decide +kernel)⟩
def lw_privs_4 : List (MethodName × Nat) := [(⟨"TemperIslesModel", "sulkOf", "(I)I"⟩, 29), (⟨"TemperIslesModel", "nearest", "(I)I"⟩, 29), (⟨"TemperIslesModel", "areTwo", "(II)Z"⟩, 29), (⟨"TemperIslesModel", "isRope", "(I)Z"⟩, 29), (⟨"TemperIslesModel", "isTaken", "(I)Z"⟩, 29), (⟨"TemperIslesModel", "becomes", "(II)I"⟩, 29), (⟨"TemperIslesModel", "ties", "(III)V"⟩, 29), (⟨"TemperIslesModel", "settles", "()V"⟩, 29), (⟨"TemperIslesModel", "daysGo", "(I)V"⟩, 29), (⟨"TemperIslesModel", "dayGoes", "(Z)V"⟩, 29), (⟨"TemperIslesModel", "feasts", "(I)V"⟩, 29), (⟨"TemperIslesModel", "isHeld", "(II)Z"⟩, 29), (⟨"TemperIslesModel", "drifts", "(I)V"⟩, 29), (⟨"TemperIslesModel", "bumpsSince", "()I"⟩, 29), (⟨"TemperIslesModel", "spreadBehind", "(I)I"⟩, 29), (⟨"TemperIslesModel", "startsJudging", "(I)V"⟩, 29)]
theorem lw_r4 : ∀ q ∈ lw_privs_4, lw_okq q := List.forall_mem_cons.mpr ⟨lw_p48, List.forall_mem_cons.mpr ⟨lw_p49, List.forall_mem_cons.mpr ⟨lw_p50, List.forall_mem_cons.mpr ⟨lw_p51, List.forall_mem_cons.mpr ⟨lw_p52, List.forall_mem_cons.mpr ⟨lw_p53, List.forall_mem_cons.mpr ⟨lw_p54, List.forall_mem_cons.mpr ⟨lw_p55, List.forall_mem_cons.mpr ⟨lw_p56, List.forall_mem_cons.mpr ⟨lw_p57, List.forall_mem_cons.mpr ⟨lw_p58, List.forall_mem_cons.mpr ⟨lw_p59, List.forall_mem_cons.mpr ⟨lw_p60, List.forall_mem_cons.mpr ⟨lw_p61, List.forall_mem_cons.mpr ⟨lw_p62, List.forall_mem_cons.mpr ⟨lw_p63, fun _ h => absurd h List.not_mem_nil⟩⟩⟩⟩⟩⟩⟩⟩⟩⟩⟩⟩⟩⟩⟩⟩
theorem lw_p64 : lw_okq (⟨"TemperIslesModel", "judges", "(II)V"⟩, 29) := ⟨⟨by decide +kernel, by decide +kernel⟩, List.mem_of_getElem? (i := 724) (by decide +kernel), List.mem_of_getElem? (i := 1086) (by decide +kernel), List.mem_of_getElem? (i := 1087) (by decide +kernel)⟩
theorem lw_p65 : lw_okq (⟨"TemperIslesModel", "judged", "(I)I"⟩, 29) := ⟨⟨by decide +kernel, by decide +kernel⟩, List.mem_of_getElem? (i := 724) (by decide +kernel), List.mem_of_getElem? (i := 1090) (by decide +kernel), List.mem_of_getElem? (i := 1091) (by decide +kernel)⟩
theorem lw_p66 : lw_okq (⟨"TemperIslesModel", "frays", "(I)V"⟩, 29) := ⟨⟨by decide +kernel, by decide +kernel⟩, List.mem_of_getElem? (i := 724) (by decide +kernel), List.mem_of_getElem? (i := 1098) (by decide +kernel), List.mem_of_getElem? (i := 1099) (by decide +kernel)⟩
theorem lw_p67 : lw_okq (⟨"TemperIslesModel", "findOdds", "(III)V"⟩, 29) := ⟨⟨by decide +kernel, by decide +kernel⟩, List.mem_of_getElem? (i := 724) (by decide +kernel), List.mem_of_getElem? (i := 1126) (by decide +kernel), List.mem_of_getElem? (i := 1127) (by decide +kernel)⟩
theorem lw_p68 : lw_okq (⟨"TemperIslesModel", "which", "(II)I"⟩, 29) := ⟨⟨by decide +kernel, by decide +kernel⟩, List.mem_of_getElem? (i := 724) (by decide +kernel), List.mem_of_getElem? (i := 1153) (by decide +kernel), List.mem_of_getElem? (i := 1154) (by decide +kernel)⟩
theorem lw_p69 : lw_okq (⟨"TemperIslesModel", "isSoWith", "(II)Z"⟩, 29) := ⟨⟨by decide +kernel, by decide +kernel⟩, List.mem_of_getElem? (i := 724) (by decide +kernel), List.mem_of_getElem? (i := 1157) (by decide +kernel), List.mem_of_getElem? (i := 1158) (by decide +kernel)⟩
theorem lw_p70 : lw_okq (⟨"TemperIslesModel", "copies", "(II)V"⟩, 29) := ⟨⟨by decide +kernel, by decide +kernel⟩, List.mem_of_getElem? (i := 724) (by decide +kernel), List.mem_of_getElem? (i := 1178) (by decide +kernel), List.mem_of_getElem? (i := 1179) (by decide +kernel)⟩
def lw_privs_5 : List (MethodName × Nat) := [(⟨"TemperIslesModel", "judges", "(II)V"⟩, 29), (⟨"TemperIslesModel", "judged", "(I)I"⟩, 29), (⟨"TemperIslesModel", "frays", "(I)V"⟩, 29), (⟨"TemperIslesModel", "findOdds", "(III)V"⟩, 29), (⟨"TemperIslesModel", "which", "(II)I"⟩, 29), (⟨"TemperIslesModel", "isSoWith", "(II)Z"⟩, 29), (⟨"TemperIslesModel", "copies", "(II)V"⟩, 29)]
theorem lw_r5 : ∀ q ∈ lw_privs_5, lw_okq q := List.forall_mem_cons.mpr ⟨lw_p64, List.forall_mem_cons.mpr ⟨lw_p65, List.forall_mem_cons.mpr ⟨lw_p66, List.forall_mem_cons.mpr ⟨lw_p67, List.forall_mem_cons.mpr ⟨lw_p68, List.forall_mem_cons.mpr ⟨lw_p69, List.forall_mem_cons.mpr ⟨lw_p70, fun _ h => absurd h List.not_mem_nil⟩⟩⟩⟩⟩⟩⟩
def lw_privs : List (MethodName × Nat) := lw_privs_1 ++ (lw_privs_2 ++ (lw_privs_3 ++ (lw_privs_4 ++ (lw_privs_5))))
def lw_tbl : List Cond := k2_sels lw_privs ++ tables_1
theorem lw_privs_ok : ∀ q ∈ lw_privs, lw_okq q := by
  show ∀ q ∈ lw_privs_1 ++ (lw_privs_2 ++ (lw_privs_3 ++ (lw_privs_4 ++ (lw_privs_5)))), lw_okq q
  exact List.forall_mem_append.mpr ⟨lw_r1, List.forall_mem_append.mpr ⟨lw_r2, List.forall_mem_append.mpr ⟨lw_r3, List.forall_mem_append.mpr ⟨lw_r4, lw_r5⟩⟩⟩⟩
end
section
def RX0 : String := "TemperIsles$Firth"
def TX0 : u_T := fun k => match k with
  | 0 => ("TemperIsles$Firth", "isles", "I", false)
  | 1 => ("TemperIsles$Firth", "tempers", "[I", true)
  | 2 => ("TemperIsles$Firth", "places", "[I", true)
  | 3 => ("TemperIsles$Firth", "grudges", "[I", true)
  | 4 => ("TemperIsles$Firth", "ropes", "I", false)
  | 5 => ("TemperIsles$Firth", "firstEnds", "[I", true)
  | 6 => ("TemperIsles$Firth", "secondEnds", "[I", true)
  | 7 => ("TemperIsles$Firth", "lengths", "[I", true)
  | 8 => ("TemperIsles$Firth", "holiday", "I", false)
  | 9 => ("TemperIsles$Firth", "day", "I", false)
  | _ => ("TemperIsles$Firth", "bumps", "I", false)
def tyX0 : Nat → FieldType := fun k => match k with
  | 0 => .int
  | 1 => .array .int
  | 2 => .array .int
  | 3 => .array .int
  | 4 => .int
  | 5 => .array .int
  | 6 => .array .int
  | 7 => .array .int
  | 8 => .int
  | 9 => .int
  | _ => .int
abbrev wsX00 : List Cond := u_ws RX0 TX0 11
theorem nmX0 : ∀ a, a < 11 → ∀ b, b < 11 → a ≠ b → (TX0 a).2.1 ≠ (TX0 b).2.1 := by decide +kernel
theorem tyX0_ok : ∀ k, k < 11 → parseFieldDescriptor (TX0 k).2.2.1 = some (tyX0 k) := by decide +kernel
abbrev cX0_init : ByteArray := prog_2_method_1_code
def yX0_init : MethodName := ⟨RX0, "<init>", "()V"⟩
abbrev cX0_clear : ByteArray := prog_2_method_2_code
def yX0_clear : MethodName := ⟨RX0, "clear", "()V"⟩
abbrev cX0_become : ByteArray := prog_2_method_3_code
def yX0_become : MethodName := ⟨RX0, "become", "(LTemperIsles$Firth;)V"⟩
abbrev cX0_addIsle : ByteArray := prog_2_method_4_code
def yX0_addIsle : MethodName := ⟨RX0, "addIsle", "(II)V"⟩
abbrev cX0_addRope : ByteArray := prog_2_method_5_code
def yX0_addRope : MethodName := ⟨RX0, "addRope", "(III)V"⟩
abbrev cX0_dropRope : ByteArray := prog_2_method_6_code
def yX0_dropRope : MethodName := ⟨RX0, "dropRope", "(I)V"⟩
abbrev cX0_grudge : ByteArray := prog_2_method_7_code
def yX0_grudge : MethodName := ⟨RX0, "grudge", "(II)I"⟩
abbrev cX0_setGrudge : ByteArray := prog_2_method_8_code
def yX0_setGrudge : MethodName := ⟨RX0, "setGrudge", "(III)V"⟩
abbrev cX0_ropesOf : ByteArray := prog_2_method_9_code
def yX0_ropesOf : MethodName := ⟨RX0, "ropesOf", "(I)I"⟩
abbrev cX0_lengthOfAll : ByteArray := prog_2_method_10_code
def yX0_lengthOfAll : MethodName := ⟨RX0, "lengthOfAll", "()I"⟩
abbrev cX0_grudgeOfAll : ByteArray := prog_2_method_11_code
def yX0_grudgeOfAll : MethodName := ⟨RX0, "grudgeOfAll", "()I"⟩
abbrev cX0_spread : ByteArray := prog_2_method_12_code
def yX0_spread : MethodName := ⟨RX0, "spread", "()I"⟩
abbrev cX0_movedFrom : ByteArray := prog_2_method_13_code
def yX0_movedFrom : MethodName := ⟨RX0, "movedFrom", "(LTemperIsles$Firth;)I"⟩
abbrev cX0_isTaken : ByteArray := prog_2_method_14_code
def yX0_isTaken : MethodName := ⟨RX0, "isTaken", "(II)Z"⟩
abbrev cX0_nearestTo : ByteArray := prog_2_method_15_code
def yX0_nearestTo : MethodName := ⟨RX0, "nearestTo", "(I)I"⟩
abbrev cX0_driftOf : ByteArray := prog_2_method_16_code
def yX0_driftOf : MethodName := ⟨RX0, "driftOf", "(I)I"⟩
abbrev cX0_isHeld : ByteArray := prog_2_method_17_code
def yX0_isHeld : MethodName := ⟨RX0, "isHeld", "(II)Z"⟩
abbrev cX0_passDay : ByteArray := prog_2_method_18_code
def yX0_passDay : MethodName := ⟨RX0, "passDay", "()V"⟩
abbrev cX0_passDays : ByteArray := prog_2_method_19_code
def yX0_passDays : MethodName := ⟨RX0, "passDays", "(I)V"⟩
abbrev cX0_spreadBehind : ByteArray := prog_2_method_20_code
def yX0_spreadBehind : MethodName := ⟨RX0, "spreadBehind", "(I)I"⟩
abbrev cX0_bumpsIn : ByteArray := prog_2_method_21_code
def yX0_bumpsIn : MethodName := ⟨RX0, "bumpsIn", "(I)I"⟩
abbrev cX0_comeIn : ByteArray := prog_2_method_22_code
def yX0_comeIn : MethodName := ⟨RX0, "comeIn", "(I)V"⟩
abbrev cX0_driftOff : ByteArray := prog_2_method_23_code
def yX0_driftOff : MethodName := ⟨RX0, "driftOff", "(I)V"⟩
def RX1 : String := "TemperIsles$Image"
def TX1 : u_T := fun k => match k with
  | 0 => ("TemperIsles$Image", "there", "Z", false)
  | 1 => ("TemperIsles$Image", "firth", "LTemperIsles$Firth;", true)
  | _ => ("TemperIsles$Image", "seen", "LTemperIsles$Sightings;", true)
def tyX1 : Nat → FieldType := fun k => match k with
  | 0 => .boolean
  | 1 => .object "TemperIsles$Firth"
  | _ => .object "TemperIsles$Sightings"
abbrev wsX10 : List Cond := u_ws RX1 TX1 3
theorem nmX1 : ∀ a, a < 3 → ∀ b, b < 3 → a ≠ b → (TX1 a).2.1 ≠ (TX1 b).2.1 := by decide +kernel
theorem tyX1_ok : ∀ k, k < 3 → parseFieldDescriptor (TX1 k).2.2.1 = some (tyX1 k) := by decide +kernel
abbrev cX1_init : ByteArray := prog_3_method_1_code
def yX1_init : MethodName := ⟨RX1, "<init>", "()V"⟩
def RX2 : String := "TemperIsles$Scribe"
def TX2 : u_T := fun k => match k with
  | 0 => ("TemperIsles$Scribe", "tape", "[B", true)
  | 1 => ("TemperIsles$Scribe", "length", "I", false)
  | 2 => ("TemperIsles$Scribe", "draft", "LTemperIsles$Firth;", true)
  | 3 => ("TemperIsles$Scribe", "lines", "I", false)
  | 4 => ("TemperIsles$Scribe", "faultFound", "I", false)
  | 5 => ("TemperIsles$Scribe", "faultPlace", "I", false)
  | 6 => ("TemperIsles$Scribe", "grudgeTold", "[Z", true)
  | 7 => ("TemperIsles$Scribe", "feastTold", "Z", false)
  | 8 => ("TemperIsles$Scribe", "highestIsle", "I", false)
  | 9 => ("TemperIsles$Scribe", "next", "I", false)
  | 10 => ("TemperIsles$Scribe", "token", "I", false)
  | 11 => ("TemperIsles$Scribe", "from", "I", false)
  | 12 => ("TemperIsles$Scribe", "value", "I", false)
  | 13 => ("TemperIsles$Scribe", "one", "I", false)
  | _ => ("TemperIsles$Scribe", "other", "I", false)
def tyX2 : Nat → FieldType := fun k => match k with
  | 0 => .array .byte
  | 1 => .int
  | 2 => .object "TemperIsles$Firth"
  | 3 => .int
  | 4 => .int
  | 5 => .int
  | 6 => .array .boolean
  | 7 => .boolean
  | 8 => .int
  | 9 => .int
  | 10 => .int
  | 11 => .int
  | 12 => .int
  | 13 => .int
  | _ => .int
abbrev wsX20 : List Cond := u_ws RX2 TX2 15
theorem nmX2 : ∀ a, a < 15 → ∀ b, b < 15 → a ≠ b → (TX2 a).2.1 ≠ (TX2 b).2.1 := by decide +kernel
theorem tyX2_ok : ∀ k, k < 15 → parseFieldDescriptor (TX2 k).2.2.1 = some (tyX2 k) := by decide +kernel
abbrev cX2_init : ByteArray := prog_4_method_1_code
def yX2_init : MethodName := ⟨RX2, "<init>", "()V"⟩
abbrev cX2_takeText : ByteArray := prog_4_method_2_code
def yX2_takeText : MethodName := ⟨RX2, "takeText", "()Z"⟩
abbrev cX2_startOver : ByteArray := prog_4_method_3_code
def yX2_startOver : MethodName := ⟨RX2, "startOver", "()V"⟩
abbrev cX2_fail : ByteArray := prog_4_method_4_code
def yX2_fail : MethodName := ⟨RX2, "fail", "(I)Z"⟩
abbrev cX2_lineNamed : ByteArray := prog_4_method_5_code
def yX2_lineNamed : MethodName := ⟨RX2, "lineNamed", "()I"⟩
abbrev cX2_isNamed : ByteArray := prog_4_method_6_code
def yX2_isNamed : MethodName := ⟨RX2, "isNamed", "(Ljava/lang/String;)Z"⟩
abbrev cX2_takeLine : ByteArray := prog_4_method_7_code
def yX2_takeLine : MethodName := ⟨RX2, "takeLine", "(I)Z"⟩
abbrev cX2_takeIsle : ByteArray := prog_4_method_8_code
def yX2_takeIsle : MethodName := ⟨RX2, "takeIsle", "(I)Z"⟩
abbrev cX2_takePair : ByteArray := prog_4_method_9_code
def yX2_takePair : MethodName := ⟨RX2, "takePair", "()Z"⟩
abbrev cX2_takeGrudge : ByteArray := prog_4_method_10_code
def yX2_takeGrudge : MethodName := ⟨RX2, "takeGrudge", "()Z"⟩
abbrev cX2_takeRope : ByteArray := prog_4_method_11_code
def yX2_takeRope : MethodName := ⟨RX2, "takeRope", "()Z"⟩
abbrev cX2_takeFeast : ByteArray := prog_4_method_12_code
def yX2_takeFeast : MethodName := ⟨RX2, "takeFeast", "()Z"⟩
abbrev cX2_takeNumber : ByteArray := prog_4_method_13_code
def yX2_takeNumber : MethodName := ⟨RX2, "takeNumber", "(II)Z"⟩
abbrev cX2_takeStop : ByteArray := prog_4_method_14_code
def yX2_takeStop : MethodName := ⟨RX2, "takeStop", "()Z"⟩
abbrev cX2_takeToken : ByteArray := prog_4_method_15_code
def yX2_takeToken : MethodName := ⟨RX2, "takeToken", "()Z"⟩
abbrev cX2_pass : ByteArray := prog_4_method_16_code
def yX2_pass : MethodName := ⟨RX2, "pass", "(CC)I"⟩
def RX3 : String := "TemperIsles$Sheet"
def TX3 : u_T := fun k => match k with
  | 0 => ("TemperIsles$Sheet", "lane", "I", false)
  | 1 => ("TemperIsles$Sheet", "size", "I", false)
  | _ => ("TemperIsles$Sheet", "cells", "[I", true)
def tyX3 : Nat → FieldType := fun k => match k with
  | 0 => .int
  | 1 => .int
  | _ => .array .int
abbrev wsX30 : List Cond := u_ws RX3 TX3 3
theorem nmX3 : ∀ a, a < 3 → ∀ b, b < 3 → a ≠ b → (TX3 a).2.1 ≠ (TX3 b).2.1 := by decide +kernel
theorem tyX3_ok : ∀ k, k < 3 → parseFieldDescriptor (TX3 k).2.2.1 = some (tyX3 k) := by decide +kernel
abbrev cX3_init : ByteArray := prog_5_method_1_code
def yX3_init : MethodName := ⟨RX3, "<init>", "()V"⟩
abbrev cX3_renew : ByteArray := prog_5_method_2_code
def yX3_renew : MethodName := ⟨RX3, "renew", "(II)V"⟩
abbrev cX3_faultAt : ByteArray := prog_5_method_3_code
def yX3_faultAt : MethodName := ⟨RX3, "faultAt", "(II)I"⟩
abbrev cX3_faultInThree : ByteArray := prog_5_method_4_code
def yX3_faultInThree : MethodName := ⟨RX3, "faultInThree", "(II)I"⟩
abbrev cX3_put : ByteArray := prog_5_method_5_code
def yX3_put : MethodName := ⟨RX3, "put", "(II)V"⟩
def RX4 : String := "TemperIsles$Sightings"
def TX4 : u_T := fun k => match k with
  | 0 => ("TemperIsles$Sightings", "number", "I", false)
  | 1 => ("TemperIsles$Sightings", "behind", "[I", true)
  | 2 => ("TemperIsles$Sightings", "whom", "[I", true)
  | _ => ("TemperIsles$Sightings", "where", "[I", true)
def tyX4 : Nat → FieldType := fun k => match k with
  | 0 => .int
  | 1 => .array .int
  | 2 => .array .int
  | _ => .array .int
abbrev wsX40 : List Cond := u_ws RX4 TX4 4
theorem nmX4 : ∀ a, a < 4 → ∀ b, b < 4 → a ≠ b → (TX4 a).2.1 ≠ (TX4 b).2.1 := by decide +kernel
theorem tyX4_ok : ∀ k, k < 4 → parseFieldDescriptor (TX4 k).2.2.1 = some (tyX4 k) := by decide +kernel
abbrev cX4_init : ByteArray := prog_6_method_1_code
def yX4_init : MethodName := ⟨RX4, "<init>", "()V"⟩
abbrev cX4_become : ByteArray := prog_6_method_2_code
def yX4_become : MethodName := ⟨RX4, "become", "(LTemperIsles$Sightings;)V"⟩
abbrev cX4_add : ByteArray := prog_6_method_3_code
def yX4_add : MethodName := ⟨RX4, "add", "(III)V"⟩
abbrev cX4_agreeWith : ByteArray := prog_6_method_4_code
def yX4_agreeWith : MethodName := ⟨RX4, "agreeWith", "(LTemperIsles$Firth;)Z"⟩
abbrev cX4_agreeBehind : ByteArray := prog_6_method_5_code
def yX4_agreeBehind : MethodName := ⟨RX4, "agreeBehind", "(ILTemperIsles$Firth;)Z"⟩
def RX5 : String := "TemperIsles"
def TX5 : u_T := fun k => match k with
  | 0 => ("TemperIsles", "now", "LTemperIsles$Firth;", true)
  | 1 => ("TemperIsles", "trial", "LTemperIsles$Firth;", true)
  | 2 => ("TemperIsles", "seen", "LTemperIsles$Sightings;", true)
  | 3 => ("TemperIsles", "images", "[LTemperIsles$Image;", true)
  | 4 => ("TemperIsles", "sheets", "[LTemperIsles$Sheet;", true)
  | 5 => ("TemperIsles", "scribe", "LTemperIsles$Scribe;", true)
  | 6 => ("TemperIsles", "courses", "[I", true)
  | 7 => ("TemperIsles", "stormPlaces", "[I", true)
  | _ => ("TemperIsles", "tornFault", "I", false)
def tyX5 : Nat → FieldType := fun k => match k with
  | 0 => .object "TemperIsles$Firth"
  | 1 => .object "TemperIsles$Firth"
  | 2 => .object "TemperIsles$Sightings"
  | 3 => .array (.object "TemperIsles$Image")
  | 4 => .array (.object "TemperIsles$Sheet")
  | 5 => .object "TemperIsles$Scribe"
  | 6 => .array .int
  | 7 => .array .int
  | _ => .int
abbrev wsX50 : List Cond := u_ws RX5 TX5 9
theorem nmX5 : ∀ a, a < 9 → ∀ b, b < 9 → a ≠ b → (TX5 a).2.1 ≠ (TX5 b).2.1 := by decide +kernel
theorem tyX5_ok : ∀ k, k < 9 → parseFieldDescriptor (TX5 k).2.2.1 = some (tyX5 k) := by decide +kernel
abbrev cX5_init : ByteArray := prog_1_method_1_code
def yX5_init : MethodName := ⟨RX5, "<init>", "()V"⟩
abbrev cX5_feed : ByteArray := prog_1_method_2_code
def yX5_feed : MethodName := ⟨RX5, "feed", "(I)I"⟩
abbrev cX5_end : ByteArray := prog_1_method_3_code
def yX5_end : MethodName := ⟨RX5, "end", "(I)I"⟩
abbrev cX5_text : ByteArray := prog_1_method_4_code
def yX5_text : MethodName := ⟨RX5, "text", "()I"⟩
abbrev cX5_fault : ByteArray := prog_1_method_5_code
def yX5_fault : MethodName := ⟨RX5, "fault", "()I"⟩
abbrev cX5_rule : ByteArray := prog_1_method_6_code
def yX5_rule : MethodName := ⟨RX5, "rule", "(I)I"⟩
abbrev cX5_isle : ByteArray := prog_1_method_7_code
def yX5_isle : MethodName := ⟨RX5, "isle", "(II)I"⟩
abbrev cX5_cross : ByteArray := prog_1_method_8_code
def yX5_cross : MethodName := ⟨RX5, "cross", "(II)I"⟩
abbrev cX5_rope : ByteArray := prog_1_method_9_code
def yX5_rope : MethodName := ⟨RX5, "rope", "(II)I"⟩
abbrev cX5_far : ByteArray := prog_1_method_10_code
def yX5_far : MethodName := ⟨RX5, "far", "(II)I"⟩
abbrev cX5_alter : ByteArray := prog_1_method_11_code
def yX5_alter : MethodName := ⟨RX5, "alter", "(III)I"⟩
abbrev cX5_sulk : ByteArray := prog_1_method_12_code
def yX5_sulk : MethodName := ⟨RX5, "sulk", "(III)I"⟩
abbrev cX5_haul : ByteArray := prog_1_method_13_code
def yX5_haul : MethodName := ⟨RX5, "haul", "(II)I"⟩
abbrev cX5_wed : ByteArray := prog_1_method_14_code
def yX5_wed : MethodName := ⟨RX5, "wed", "(III)I"⟩
abbrev cX5_loose : ByteArray := prog_1_method_15_code
def yX5_loose : MethodName := ⟨RX5, "loose", "(I)I"⟩
abbrev cX5_feast : ByteArray := prog_1_method_16_code
def yX5_feast : MethodName := ⟨RX5, "feast", "(I)I"⟩
abbrev cX5_days : ByteArray := prog_1_method_17_code
def yX5_days : MethodName := ⟨RX5, "days", "(I)I"⟩
abbrev cX5_runs : ByteArray := prog_1_method_18_code
def yX5_runs : MethodName := ⟨RX5, "runs", "(II)I"⟩
abbrev cX5_ahead : ByteArray := prog_1_method_19_code
def yX5_ahead : MethodName := ⟨RX5, "ahead", "(II)I"⟩
abbrev cX5_within : ByteArray := prog_1_method_20_code
def yX5_within : MethodName := ⟨RX5, "within", "(I)I"⟩
abbrev cX5_match : ByteArray := prog_1_method_21_code
def yX5_match : MethodName := ⟨RX5, "match", "(II)I"⟩
abbrev cX5_fray : ByteArray := prog_1_method_22_code
def yX5_fray : MethodName := ⟨RX5, "fray", "(I)I"⟩
abbrev cX5_soothe : ByteArray := prog_1_method_23_code
def yX5_soothe : MethodName := ⟨RX5, "soothe", "(I)I"⟩
abbrev cX5_holy : ByteArray := prog_1_method_24_code
def yX5_holy : MethodName := ⟨RX5, "holy", "(II)I"⟩
abbrev cX5_kind : ByteArray := prog_1_method_25_code
def yX5_kind : MethodName := ⟨RX5, "kind", "(III)I"⟩
abbrev cX5_slack : ByteArray := prog_1_method_26_code
def yX5_slack : MethodName := ⟨RX5, "slack", "(III)I"⟩
abbrev cX5_luck : ByteArray := prog_1_method_27_code
def yX5_luck : MethodName := ⟨RX5, "luck", "(IIII)J"⟩
abbrev cX5_mean : ByteArray := prog_1_method_28_code
def yX5_mean : MethodName := ⟨RX5, "mean", "(III)J"⟩
abbrev cX5_see : ByteArray := prog_1_method_29_code
def yX5_see : MethodName := ⟨RX5, "see", "(III)I"⟩
abbrev cX5_forget : ByteArray := prog_1_method_30_code
def yX5_forget : MethodName := ⟨RX5, "forget", "(I)I"⟩
abbrev cX5_kinds : ByteArray := prog_1_method_31_code
def yX5_kinds : MethodName := ⟨RX5, "kinds", "(I)I"⟩
abbrev cX5_sulks : ByteArray := prog_1_method_32_code
def yX5_sulks : MethodName := ⟨RX5, "sulks", "(II)I"⟩
abbrev cX5_ask : ByteArray := prog_1_method_33_code
def yX5_ask : MethodName := ⟨RX5, "ask", "(II)I"⟩
abbrev cX5_drift : ByteArray := prog_1_method_34_code
def yX5_drift : MethodName := ⟨RX5, "drift", "(III)I"⟩
abbrev cX5_keep : ByteArray := prog_1_method_35_code
def yX5_keep : MethodName := ⟨RX5, "keep", "(I)I"⟩
abbrev cX5_back : ByteArray := prog_1_method_36_code
def yX5_back : MethodName := ⟨RX5, "back", "(I)I"⟩
abbrev cX5_sheet : ByteArray := prog_1_method_37_code
def yX5_sheet : MethodName := ⟨RX5, "sheet", "(III)I"⟩
abbrev cX5_lay : ByteArray := prog_1_method_38_code
def yX5_lay : MethodName := ⟨RX5, "lay", "(III)I"⟩
abbrev cX5_read : ByteArray := prog_1_method_39_code
def yX5_read : MethodName := ⟨RX5, "read", "(IIII)I"⟩
abbrev cX5_torn : ByteArray := prog_1_method_40_code
def yX5_torn : MethodName := ⟨RX5, "torn", "()I"⟩
abbrev cX5_count : ByteArray := prog_1_method_41_code
def yX5_count : MethodName := ⟨RX5, "count", "(I)I"⟩
abbrev cX5_isWithin : ByteArray := prog_1_method_42_code
def yX5_isWithin : MethodName := ⟨RX5, "isWithin", "(III)Z"⟩
abbrev cX5_isIsle : ByteArray := prog_1_method_43_code
def yX5_isIsle : MethodName := ⟨RX5, "isIsle", "(I)Z"⟩
abbrev cX5_isRope : ByteArray := prog_1_method_44_code
def yX5_isRope : MethodName := ⟨RX5, "isRope", "(I)Z"⟩
abbrev cX5_isPair : ByteArray := prog_1_method_45_code
def yX5_isPair : MethodName := ⟨RX5, "isPair", "(II)Z"⟩
abbrev cX5_isGrudge : ByteArray := prog_1_method_46_code
def yX5_isGrudge : MethodName := ⟨RX5, "isGrudge", "(III)Z"⟩
abbrev cX5_isStorms : ByteArray := prog_1_method_47_code
def yX5_isStorms : MethodName := ⟨RX5, "isStorms", "(III)Z"⟩
abbrev cX5_asItIs : ByteArray := prog_1_method_48_code
def yX5_asItIs : MethodName := ⟨RX5, "asItIs", "()LTemperIsles$Firth;"⟩
abbrev cX5_advice : ByteArray := prog_1_method_49_code
def yX5_advice : MethodName := ⟨RX5, "advice", "(III)I"⟩
abbrev cX5_kindsAsSeen : ByteArray := prog_1_method_50_code
def yX5_kindsAsSeen : MethodName := ⟨RX5, "kindsAsSeen", "(I)I"⟩
abbrev cX5_layCourses : ByteArray := prog_1_method_51_code
def yX5_layCourses : MethodName := ⟨RX5, "layCourses", "(II)I"⟩
abbrev cX5_mostLeft : ByteArray := prog_1_method_52_code
def yX5_mostLeft : MethodName := ⟨RX5, "mostLeft", "(II)I"⟩
abbrev cX5_stormSum : ByteArray := prog_1_method_53_code
def yX5_stormSum : MethodName := ⟨RX5, "stormSum", "(LTemperIsles$Firth;[IIII)J"⟩
abbrev cX5_fractionPart : ByteArray := prog_1_method_54_code
def yX5_fractionPart : MethodName := ⟨RX5, "fractionPart", "(JII)J"⟩
abbrev cX5_commonDivisor : ByteArray := prog_1_method_55_code
def yX5_commonDivisor : MethodName := ⟨RX5, "commonDivisor", "(JJ)J"⟩
def RX6 : String := "TemperIslesModel"
def TX6 : u_T := fun k => match k with
  | 0 => ("TemperIslesModel", "st", "[I", true)
  | 1 => ("TemperIslesModel", "now", "[I", true)
  | 2 => ("TemperIslesModel", "isKept", "[Z", true)
  | 3 => ("TemperIslesModel", "isles", "I", false)
  | 4 => ("TemperIslesModel", "draft", "[I", true)
  | 5 => ("TemperIslesModel", "dIsles", "I", false)
  | 6 => ("TemperIslesModel", "hasFeast", "Z", false)
  | 7 => ("TemperIslesModel", "toldCross", "I", false)
  | 8 => ("TemperIslesModel", "highest", "I", false)
  | 9 => ("TemperIslesModel", "tape", "[I", true)
  | 10 => ("TemperIslesModel", "taped", "I", false)
  | 11 => ("TemperIslesModel", "pos", "I", false)
  | 12 => ("TemperIslesModel", "begun", "I", false)
  | 13 => ("TemperIslesModel", "sort", "I", false)
  | 14 => ("TemperIslesModel", "value", "I", false)
  | 15 => ("TemperIslesModel", "fault", "I", false)
  | 16 => ("TemperIslesModel", "wrongAt", "I", false)
  | 17 => ("TemperIslesModel", "bestCode", "I", false)
  | 18 => ("TemperIslesModel", "bestMuch", "I", false)
  | 19 => ("TemperIslesModel", "nearSum", "J", false)
  | 20 => ("TemperIslesModel", "spreadSum", "J", false)
  | 21 => ("TemperIslesModel", "allWays", "J", false)
  | 22 => ("TemperIslesModel", "were", "[I", true)
  | 23 => ("TemperIslesModel", "byKind", "[I", true)
  | 24 => ("TemperIslesModel", "lanes", "[I", true)
  | 25 => ("TemperIslesModel", "sizes", "[I", true)
  | 26 => ("TemperIslesModel", "cells", "[I", true)
  | 27 => ("TemperIslesModel", "torn", "I", false)
  | _ => ("TemperIslesModel", "before", "[I", true)
def tyX6 : Nat → FieldType := fun k => match k with
  | 0 => .array .int
  | 1 => .array .int
  | 2 => .array .boolean
  | 3 => .int
  | 4 => .array .int
  | 5 => .int
  | 6 => .boolean
  | 7 => .int
  | 8 => .int
  | 9 => .array .int
  | 10 => .int
  | 11 => .int
  | 12 => .int
  | 13 => .int
  | 14 => .int
  | 15 => .int
  | 16 => .int
  | 17 => .int
  | 18 => .int
  | 19 => .long
  | 20 => .long
  | 21 => .long
  | 22 => .array .int
  | 23 => .array .int
  | 24 => .array .int
  | 25 => .array .int
  | 26 => .array .int
  | 27 => .int
  | _ => .array .int
abbrev wsX60 : List Cond := u_ws RX6 TX6 29
theorem nmX6 : ∀ a, a < 29 → ∀ b, b < 29 → a ≠ b → (TX6 a).2.1 ≠ (TX6 b).2.1 := by decide +kernel
theorem tyX6_ok : ∀ k, k < 29 → parseFieldDescriptor (TX6 k).2.2.1 = some (tyX6 k) := by decide +kernel
abbrev cX6_init : ByteArray := prog_8_method_1_code
def yX6_init : MethodName := ⟨RX6, "<init>", "()V"⟩
abbrev cX6_in : ByteArray := prog_8_method_3_code
def yX6_in : MethodName := ⟨RX6, "in", "(JJJ)Z"⟩
abbrev cX6_flag : ByteArray := prog_8_method_4_code
def yX6_flag : MethodName := ⟨RX6, "flag", "(Z)I"⟩
abbrev cX6_lesser : ByteArray := prog_8_method_5_code
def yX6_lesser : MethodName := ⟨RX6, "lesser", "(II)I"⟩
abbrev cX6_sizeOf : ByteArray := prog_8_method_6_code
def yX6_sizeOf : MethodName := ⟨RX6, "sizeOf", "(I)I"⟩
abbrev cX6_firstDraft : ByteArray := prog_8_method_7_code
def yX6_firstDraft : MethodName := ⟨RX6, "firstDraft", "()V"⟩
abbrev cX6_keepDraft : ByteArray := prog_8_method_8_code
def yX6_keepDraft : MethodName := ⟨RX6, "keepDraft", "()V"⟩
abbrev cX6_feed : ByteArray := prog_8_method_9_code
def yX6_feed : MethodName := ⟨RX6, "feed", "(I)I"⟩
abbrev cX6_end : ByteArray := prog_8_method_10_code
def yX6_end : MethodName := ⟨RX6, "end", "(I)I"⟩
abbrev cX6_needs : ByteArray := prog_8_method_11_code
def yX6_needs : MethodName := ⟨RX6, "needs", "(ZI)V"⟩
abbrev cX6_byteAt : ByteArray := prog_8_method_12_code
def yX6_byteAt : MethodName := ⟨RX6, "byteAt", "(I)I"⟩
abbrev cX6_is : ByteArray := prog_8_method_13_code
def yX6_is : MethodName := ⟨RX6, "is", "(IIIII)Z"⟩
abbrev cX6_endsIn : ByteArray := prog_8_method_14_code
def yX6_endsIn : MethodName := ⟨RX6, "endsIn", "(I)Z"⟩
abbrev cX6_lineNow : ByteArray := prog_8_method_15_code
def yX6_lineNow : MethodName := ⟨RX6, "lineNow", "()I"⟩
abbrev cX6_takes : ByteArray := prog_8_method_16_code
def yX6_takes : MethodName := ⟨RX6, "takes", "()V"⟩
abbrev cX6_looked : ByteArray := prog_8_method_17_code
def yX6_looked : MethodName := ⟨RX6, "looked", "(II)I"⟩
abbrev cX6_readNumber : ByteArray := prog_8_method_18_code
def yX6_readNumber : MethodName := ⟨RX6, "readNumber", "(II)I"⟩
abbrev cX6_noteHighest : ByteArray := prog_8_method_19_code
def yX6_noteHighest : MethodName := ⟨RX6, "noteHighest", "(I)V"⟩
abbrev cX6_readIsle : ByteArray := prog_8_method_20_code
def yX6_readIsle : MethodName := ⟨RX6, "readIsle", "(I)V"⟩
abbrev cX6_readCross : ByteArray := prog_8_method_21_code
def yX6_readCross : MethodName := ⟨RX6, "readCross", "()V"⟩
abbrev cX6_readRope : ByteArray := prog_8_method_22_code
def yX6_readRope : MethodName := ⟨RX6, "readRope", "()V"⟩
abbrev cX6_readLineOf : ByteArray := prog_8_method_23_code
def yX6_readLineOf : MethodName := ⟨RX6, "readLineOf", "(I)V"⟩
abbrev cX6_readLine : ByteArray := prog_8_method_24_code
def yX6_readLine : MethodName := ⟨RX6, "readLine", "()V"⟩
abbrev cX6_text : ByteArray := prog_8_method_25_code
def yX6_text : MethodName := ⟨RX6, "text", "()I"⟩
abbrev cX6_fault : ByteArray := prog_8_method_26_code
def yX6_fault : MethodName := ⟨RX6, "fault", "()I"⟩
abbrev cX6_isIsle : ByteArray := prog_8_method_27_code
def yX6_isIsle : MethodName := ⟨RX6, "isIsle", "(I)Z"⟩
abbrev cX6_areTwo : ByteArray := prog_8_method_28_code
def yX6_areTwo : MethodName := ⟨RX6, "areTwo", "(II)Z"⟩
abbrev cX6_isRope : ByteArray := prog_8_method_29_code
def yX6_isRope : MethodName := ⟨RX6, "isRope", "(I)Z"⟩
abbrev cX6_isFathom : ByteArray := prog_8_method_30_code
def yX6_isFathom : MethodName := ⟨RX6, "isFathom", "(I)Z"⟩
abbrev cX6_isPart : ByteArray := prog_8_method_31_code
def yX6_isPart : MethodName := ⟨RX6, "isPart", "(I)Z"⟩
abbrev cX6_starts : ByteArray := prog_8_method_32_code
def yX6_starts : MethodName := ⟨RX6, "starts", "()V"⟩
abbrev cX6_settles : ByteArray := prog_8_method_33_code
def yX6_settles : MethodName := ⟨RX6, "settles", "()V"⟩
abbrev cX6_place : ByteArray := prog_8_method_34_code
def yX6_place : MethodName := ⟨RX6, "place", "(I)I"⟩
abbrev cX6_apart : ByteArray := prog_8_method_35_code
def yX6_apart : MethodName := ⟨RX6, "apart", "(II)I"⟩
abbrev cX6_spread : ByteArray := prog_8_method_36_code
def yX6_spread : MethodName := ⟨RX6, "spread", "()I"⟩
abbrev cX6_sulkOf : ByteArray := prog_8_method_37_code
def yX6_sulkOf : MethodName := ⟨RX6, "sulkOf", "(I)I"⟩
abbrev cX6_driftOf : ByteArray := prog_8_method_38_code
def yX6_driftOf : MethodName := ⟨RX6, "driftOf", "(I)I"⟩
abbrev cX6_isHeld : ByteArray := prog_8_method_39_code
def yX6_isHeld : MethodName := ⟨RX6, "isHeld", "(II)Z"⟩
abbrev cX6_isTaken : ByteArray := prog_8_method_40_code
def yX6_isTaken : MethodName := ⟨RX6, "isTaken", "(I)Z"⟩
abbrev cX6_nearest : ByteArray := prog_8_method_41_code
def yX6_nearest : MethodName := ⟨RX6, "nearest", "(I)I"⟩
abbrev cX6_drifts : ByteArray := prog_8_method_42_code
def yX6_drifts : MethodName := ⟨RX6, "drifts", "(I)V"⟩
abbrev cX6_feasts : ByteArray := prog_8_method_43_code
def yX6_feasts : MethodName := ⟨RX6, "feasts", "(I)V"⟩
abbrev cX6_dayGoes : ByteArray := prog_8_method_44_code
def yX6_dayGoes : MethodName := ⟨RX6, "dayGoes", "(Z)V"⟩
abbrev cX6_daysGo : ByteArray := prog_8_method_45_code
def yX6_daysGo : MethodName := ⟨RX6, "daysGo", "(I)V"⟩
abbrev cX6_bumpsSince : ByteArray := prog_8_method_46_code
def yX6_bumpsSince : MethodName := ⟨RX6, "bumpsSince", "()I"⟩
abbrev cX6_rule : ByteArray := prog_8_method_47_code
def yX6_rule : MethodName := ⟨RX6, "rule", "(I)I"⟩
abbrev cX6_ropesOf : ByteArray := prog_8_method_48_code
def yX6_ropesOf : MethodName := ⟨RX6, "ropesOf", "(I)I"⟩
abbrev cX6_isle : ByteArray := prog_8_method_49_code
def yX6_isle : MethodName := ⟨RX6, "isle", "(II)I"⟩
abbrev cX6_cross : ByteArray := prog_8_method_50_code
def yX6_cross : MethodName := ⟨RX6, "cross", "(II)I"⟩
abbrev cX6_rope : ByteArray := prog_8_method_51_code
def yX6_rope : MethodName := ⟨RX6, "rope", "(II)I"⟩
abbrev cX6_far : ByteArray := prog_8_method_52_code
def yX6_far : MethodName := ⟨RX6, "far", "(II)I"⟩
abbrev cX6_becomes : ByteArray := prog_8_method_53_code
def yX6_becomes : MethodName := ⟨RX6, "becomes", "(II)I"⟩
abbrev cX6_alter : ByteArray := prog_8_method_54_code
def yX6_alter : MethodName := ⟨RX6, "alter", "(III)I"⟩
abbrev cX6_sulk : ByteArray := prog_8_method_55_code
def yX6_sulk : MethodName := ⟨RX6, "sulk", "(III)I"⟩
abbrev cX6_haul : ByteArray := prog_8_method_56_code
def yX6_haul : MethodName := ⟨RX6, "haul", "(II)I"⟩
abbrev cX6_ties : ByteArray := prog_8_method_57_code
def yX6_ties : MethodName := ⟨RX6, "ties", "(III)V"⟩
abbrev cX6_wed : ByteArray := prog_8_method_58_code
def yX6_wed : MethodName := ⟨RX6, "wed", "(III)I"⟩
abbrev cX6_loose : ByteArray := prog_8_method_59_code
def yX6_loose : MethodName := ⟨RX6, "loose", "(I)I"⟩
abbrev cX6_feast : ByteArray := prog_8_method_60_code
def yX6_feast : MethodName := ⟨RX6, "feast", "(I)I"⟩
abbrev cX6_days : ByteArray := prog_8_method_61_code
def yX6_days : MethodName := ⟨RX6, "days", "(I)I"⟩
abbrev cX6_isFar : ByteArray := prog_8_method_62_code
def yX6_isFar : MethodName := ⟨RX6, "isFar", "(I)Z"⟩
abbrev cX6_runs : ByteArray := prog_8_method_63_code
def yX6_runs : MethodName := ⟨RX6, "runs", "(II)I"⟩
abbrev cX6_ahead : ByteArray := prog_8_method_64_code
def yX6_ahead : MethodName := ⟨RX6, "ahead", "(II)I"⟩
abbrev cX6_within : ByteArray := prog_8_method_65_code
def yX6_within : MethodName := ⟨RX6, "within", "(I)I"⟩
abbrev cX6_startsJudging : ByteArray := prog_8_method_66_code
def yX6_startsJudging : MethodName := ⟨RX6, "startsJudging", "(I)V"⟩
abbrev cX6_judges : ByteArray := prog_8_method_67_code
def yX6_judges : MethodName := ⟨RX6, "judges", "(II)V"⟩
abbrev cX6_judged : ByteArray := prog_8_method_68_code
def yX6_judged : MethodName := ⟨RX6, "judged", "(I)I"⟩
abbrev cX6_spreadBehind : ByteArray := prog_8_method_69_code
def yX6_spreadBehind : MethodName := ⟨RX6, "spreadBehind", "(I)I"⟩
abbrev cX6_match : ByteArray := prog_8_method_70_code
def yX6_match : MethodName := ⟨RX6, "match", "(II)I"⟩
abbrev cX6_frays : ByteArray := prog_8_method_71_code
def yX6_frays : MethodName := ⟨RX6, "frays", "(I)V"⟩
abbrev cX6_fray : ByteArray := prog_8_method_72_code
def yX6_fray : MethodName := ⟨RX6, "fray", "(I)I"⟩
abbrev cX6_soothe : ByteArray := prog_8_method_73_code
def yX6_soothe : MethodName := ⟨RX6, "soothe", "(I)I"⟩
abbrev cX6_holy : ByteArray := prog_8_method_74_code
def yX6_holy : MethodName := ⟨RX6, "holy", "(II)I"⟩
abbrev cX6_kind : ByteArray := prog_8_method_75_code
def yX6_kind : MethodName := ⟨RX6, "kind", "(III)I"⟩
abbrev cX6_slack : ByteArray := prog_8_method_76_code
def yX6_slack : MethodName := ⟨RX6, "slack", "(III)I"⟩
abbrev cX6_common : ByteArray := prog_8_method_77_code
def yX6_common : MethodName := ⟨RX6, "common", "(JJ)J"⟩
abbrev cX6_told : ByteArray := prog_8_method_78_code
def yX6_told : MethodName := ⟨RX6, "told", "(JJI)J"⟩
abbrev cX6_findOdds : ByteArray := prog_8_method_79_code
def yX6_findOdds : MethodName := ⟨RX6, "findOdds", "(III)V"⟩
abbrev cX6_luck : ByteArray := prog_8_method_80_code
def yX6_luck : MethodName := ⟨RX6, "luck", "(IIII)J"⟩
abbrev cX6_mean : ByteArray := prog_8_method_81_code
def yX6_mean : MethodName := ⟨RX6, "mean", "(III)J"⟩
abbrev cX6_see : ByteArray := prog_8_method_82_code
def yX6_see : MethodName := ⟨RX6, "see", "(III)I"⟩
abbrev cX6_forget : ByteArray := prog_8_method_83_code
def yX6_forget : MethodName := ⟨RX6, "forget", "(I)I"⟩
abbrev cX6_isSoWith : ByteArray := prog_8_method_84_code
def yX6_isSoWith : MethodName := ⟨RX6, "isSoWith", "(II)Z"⟩
abbrev cX6_which : ByteArray := prog_8_method_85_code
def yX6_which : MethodName := ⟨RX6, "which", "(II)I"⟩
abbrev cX6_kinds : ByteArray := prog_8_method_86_code
def yX6_kinds : MethodName := ⟨RX6, "kinds", "(I)I"⟩
abbrev cX6_sulks : ByteArray := prog_8_method_87_code
def yX6_sulks : MethodName := ⟨RX6, "sulks", "(II)I"⟩
abbrev cX6_ask : ByteArray := prog_8_method_88_code
def yX6_ask : MethodName := ⟨RX6, "ask", "(II)I"⟩
abbrev cX6_drift : ByteArray := prog_8_method_89_code
def yX6_drift : MethodName := ⟨RX6, "drift", "(III)I"⟩
abbrev cX6_copies : ByteArray := prog_8_method_90_code
def yX6_copies : MethodName := ⟨RX6, "copies", "(II)V"⟩
abbrev cX6_keep : ByteArray := prog_8_method_91_code
def yX6_keep : MethodName := ⟨RX6, "keep", "(I)I"⟩
abbrev cX6_back : ByteArray := prog_8_method_92_code
def yX6_back : MethodName := ⟨RX6, "back", "(I)I"⟩
abbrev cX6_isSheet : ByteArray := prog_8_method_93_code
def yX6_isSheet : MethodName := ⟨RX6, "isSheet", "(II)Z"⟩
abbrev cX6_sheet : ByteArray := prog_8_method_94_code
def yX6_sheet : MethodName := ⟨RX6, "sheet", "(III)I"⟩
abbrev cX6_lay : ByteArray := prog_8_method_95_code
def yX6_lay : MethodName := ⟨RX6, "lay", "(III)I"⟩
abbrev cX6_read : ByteArray := prog_8_method_96_code
def yX6_read : MethodName := ⟨RX6, "read", "(IIII)I"⟩
abbrev cX6_torn : ByteArray := prog_8_method_97_code
def yX6_torn : MethodName := ⟨RX6, "torn", "()I"⟩
abbrev cX6_count : ByteArray := prog_8_method_98_code
def yX6_count : MethodName := ⟨RX6, "count", "(I)I"⟩
def RJ6 : String := "java/lang/Integer"
abbrev cJ6_signum_0f7a4 : ByteArray := prog_9_method_56_code
def yJ6_signum_0f7a4 : MethodName := ⟨RJ6, "signum", "(I)I"⟩
def RJ9 : String := "java/lang/Math"
abbrev cJ9_abs_0f7a4 : ByteArray := prog_10_method_59_code
def yJ9_abs_0f7a4 : MethodName := ⟨RJ9, "abs", "(I)I"⟩
abbrev cJ9_max_7cf53 : ByteArray := prog_10_method_65_code
def yJ9_max_7cf53 : MethodName := ⟨RJ9, "max", "(II)I"⟩
abbrev cJ9_max_f86c9 : ByteArray := prog_10_method_66_code
def yJ9_max_f86c9 : MethodName := ⟨RJ9, "max", "(JJ)J"⟩
abbrev cJ9_min_7cf53 : ByteArray := prog_10_method_69_code
def yJ9_min_7cf53 : MethodName := ⟨RJ9, "min", "(II)I"⟩
def RJ0 : String := "java/lang/String"
abbrev cJ0_length_8abf5 : ByteArray := prog_11_method_54_code
def yJ0_length_8abf5 : MethodName := ⟨RJ0, "length", "()I"⟩
abbrev cJ0_charAt_5068e : ByteArray := prog_11_method_56_code
def yJ0_charAt_5068e : MethodName := ⟨RJ0, "charAt", "(I)C"⟩
abbrev cJ0_coder_7d493 : ByteArray := prog_11_method_152_code
def yJ0_coder_7d493 : MethodName := ⟨RJ0, "coder", "()B"⟩
abbrev cJ0_isLatin1_aae02 : ByteArray := prog_11_method_154_code
def yJ0_isLatin1_aae02 : MethodName := ⟨RJ0, "isLatin1", "()Z"⟩
abbrev cJ0_checkIndex_df160 : ByteArray := prog_11_method_155_code
def yJ0_checkIndex_df160 : MethodName := ⟨RJ0, "checkIndex", "(II)V"⟩
def RJ1 : String := "java/lang/StringLatin1"
abbrev cJ1_charAt_3b067 : ByteArray := prog_12_method_2_code
def yJ1_charAt_3b067 : MethodName := ⟨RJ1, "charAt", "([BI)C"⟩
def RJ2 : String := "java/lang/StringUTF16"
abbrev cJ2_getChar_3b067 : ByteArray := prog_13_method_5_code
def yJ2_getChar_3b067 : MethodName := ⟨RJ2, "getChar", "([BI)C"⟩
abbrev cJ2_length_9d52b : ByteArray := prog_13_method_6_code
def yJ2_length_9d52b : MethodName := ⟨RJ2, "length", "([B)I"⟩
abbrev cJ2_charAt_3b067 : ByteArray := prog_13_method_83_code
def yJ2_charAt_3b067 : MethodName := ⟨RJ2, "charAt", "([BI)C"⟩
abbrev cJ2_checkIndex_2214a : ByteArray := prog_13_method_91_code
def yJ2_checkIndex_2214a : MethodName := ⟨RJ2, "checkIndex", "(I[B)V"⟩
def RJ10 : String := "java/lang/System"
def RJ7 : String := "java/util/Arrays"
abbrev cJ7_fill_53178 : ByteArray := prog_15_method_103_code
def yJ7_fill_53178 : MethodName := ⟨RJ7, "fill", "([II)V"⟩
def RJ3 : String := "jdk/internal/util/Preconditions"
abbrev cJ3_checkIndex_8e157 : ByteArray := prog_16_method_11_code
def yJ3_checkIndex_8e157 : MethodName := ⟨RJ3, "checkIndex", "(IILjava/util/function/BiFunction;)I"⟩
def RL : String := "TemperIslesLaw"
abbrev cL_law : ByteArray := code
def yL_law : MethodName := ⟨RL, "law", "([I)Z"⟩
abbrev vwCl : List vw_C := [(RX0, TX0, 11), (RX1, TX1, 3), (RX2, TX2, 15), (RX3, TX3, 3), (RX4, TX4, 4), (RX5, TX5, 9), (RX6, TX6, 29)]
end
section
theorem dX0_init_0 : decode cX0_init 0 = .ok (.aload_n 0, 1) := by decide +kernel
theorem dX0_init_1 : decode cX0_init 1 = .ok (.invokespecial 3, 3) := by decide +kernel
theorem dX0_init_4 : decode cX0_init 4 = .ok (.aload_n 0, 1) := by decide +kernel
theorem dX0_init_5 : decode cX0_init 5 = .ok (.iconst 0, 1) := by decide +kernel
theorem dX0_init_6 : decode cX0_init 6 = .ok (.putfield 9, 3) := by decide +kernel
theorem dX0_init_9 : decode cX0_init 9 = .ok (.aload_n 0, 1) := by decide +kernel
theorem dX0_init_10 : decode cX0_init 10 = .ok (.iconst 5, 1) := by decide +kernel
theorem dX0_init_11 : decode cX0_init 11 = .ok (.newarray .int, 2) := by decide +kernel
theorem dX0_init_13 : decode cX0_init 13 = .ok (.putfield 15, 3) := by decide +kernel
theorem dX0_init_16 : decode cX0_init 16 = .ok (.aload_n 0, 1) := by decide +kernel
theorem dX0_init_17 : decode cX0_init 17 = .ok (.iconst 5, 1) := by decide +kernel
theorem dX0_init_18 : decode cX0_init 18 = .ok (.newarray .int, 2) := by decide +kernel
theorem dX0_init_20 : decode cX0_init 20 = .ok (.putfield 19, 3) := by decide +kernel
theorem dX0_init_23 : decode cX0_init 23 = .ok (.aload_n 0, 1) := by decide +kernel
theorem dX0_init_24 : decode cX0_init 24 = .ok (.bipush 25, 2) := by decide +kernel
theorem dX0_init_26 : decode cX0_init 26 = .ok (.newarray .int, 2) := by decide +kernel
theorem dX0_init_28 : decode cX0_init 28 = .ok (.putfield 22, 3) := by decide +kernel
theorem dX0_init_31 : decode cX0_init 31 = .ok (.aload_n 0, 1) := by decide +kernel
theorem dX0_init_32 : decode cX0_init 32 = .ok (.iconst 0, 1) := by decide +kernel
theorem dX0_init_33 : decode cX0_init 33 = .ok (.putfield 25, 3) := by decide +kernel
theorem dX0_init_36 : decode cX0_init 36 = .ok (.aload_n 0, 1) := by decide +kernel
theorem dX0_init_37 : decode cX0_init 37 = .ok (.bipush 6, 2) := by decide +kernel
theorem dX0_init_39 : decode cX0_init 39 = .ok (.newarray .int, 2) := by decide +kernel
theorem dX0_init_41 : decode cX0_init 41 = .ok (.putfield 28, 3) := by decide +kernel
theorem dX0_init_44 : decode cX0_init 44 = .ok (.aload_n 0, 1) := by decide +kernel
theorem dX0_init_45 : decode cX0_init 45 = .ok (.bipush 6, 2) := by decide +kernel
theorem dX0_init_47 : decode cX0_init 47 = .ok (.newarray .int, 2) := by decide +kernel
theorem dX0_init_49 : decode cX0_init 49 = .ok (.putfield 31, 3) := by decide +kernel
theorem dX0_init_52 : decode cX0_init 52 = .ok (.aload_n 0, 1) := by decide +kernel
theorem dX0_init_53 : decode cX0_init 53 = .ok (.bipush 6, 2) := by decide +kernel
theorem dX0_init_55 : decode cX0_init 55 = .ok (.newarray .int, 2) := by decide +kernel
theorem dX0_init_57 : decode cX0_init 57 = .ok (.putfield 34, 3) := by decide +kernel
theorem dX0_init_60 : decode cX0_init 60 = .ok (.aload_n 0, 1) := by decide +kernel
theorem dX0_init_61 : decode cX0_init 61 = .ok (.iconst 0, 1) := by decide +kernel
theorem dX0_init_62 : decode cX0_init 62 = .ok (.putfield 37, 3) := by decide +kernel
theorem dX0_init_65 : decode cX0_init 65 = .ok (.aload_n 0, 1) := by decide +kernel
theorem dX0_init_66 : decode cX0_init 66 = .ok (.iconst 0, 1) := by decide +kernel
theorem dX0_init_67 : decode cX0_init 67 = .ok (.putfield 40, 3) := by decide +kernel
theorem dX0_init_70 : decode cX0_init 70 = .ok (.aload_n 0, 1) := by decide +kernel
theorem dX0_init_71 : decode cX0_init 71 = .ok (.iconst 0, 1) := by decide +kernel
theorem dX0_init_72 : decode cX0_init 72 = .ok (.putfield 43, 3) := by decide +kernel
theorem dX0_init_75 : decode cX0_init 75 = .ok (.return_, 1) := by decide +kernel
theorem dX0_clear_0 : decode cX0_clear 0 = .ok (.aload_n 0, 1) := by decide +kernel
theorem dX0_clear_1 : decode cX0_clear 1 = .ok (.iconst 0, 1) := by decide +kernel
theorem dX0_clear_2 : decode cX0_clear 2 = .ok (.putfield 9, 3) := by decide +kernel
theorem dX0_clear_5 : decode cX0_clear 5 = .ok (.aload_n 0, 1) := by decide +kernel
theorem dX0_clear_6 : decode cX0_clear 6 = .ok (.getfield 22, 3) := by decide +kernel
theorem dX0_clear_9 : decode cX0_clear 9 = .ok (.iconst 0, 1) := by decide +kernel
theorem dX0_clear_10 : decode cX0_clear 10 = .ok (.invokestatic 46, 3) := by decide +kernel
theorem dX0_clear_13 : decode cX0_clear 13 = .ok (.aload_n 0, 1) := by decide +kernel
theorem dX0_clear_14 : decode cX0_clear 14 = .ok (.iconst 0, 1) := by decide +kernel
theorem dX0_clear_15 : decode cX0_clear 15 = .ok (.putfield 25, 3) := by decide +kernel
theorem dX0_clear_18 : decode cX0_clear 18 = .ok (.aload_n 0, 1) := by decide +kernel
theorem dX0_clear_19 : decode cX0_clear 19 = .ok (.iconst 0, 1) := by decide +kernel
theorem dX0_clear_20 : decode cX0_clear 20 = .ok (.putfield 37, 3) := by decide +kernel
theorem dX0_clear_23 : decode cX0_clear 23 = .ok (.aload_n 0, 1) := by decide +kernel
theorem dX0_clear_24 : decode cX0_clear 24 = .ok (.iconst 0, 1) := by decide +kernel
theorem dX0_clear_25 : decode cX0_clear 25 = .ok (.putfield 40, 3) := by decide +kernel
theorem dX0_clear_28 : decode cX0_clear 28 = .ok (.aload_n 0, 1) := by decide +kernel
theorem dX0_clear_29 : decode cX0_clear 29 = .ok (.iconst 0, 1) := by decide +kernel
theorem dX0_clear_30 : decode cX0_clear 30 = .ok (.putfield 43, 3) := by decide +kernel
theorem dX0_clear_33 : decode cX0_clear 33 = .ok (.return_, 1) := by decide +kernel
theorem dX0_become_0 : decode cX0_become 0 = .ok (.aload_n 0, 1) := by decide +kernel
theorem dX0_become_1 : decode cX0_become 1 = .ok (.aload_n 1, 1) := by decide +kernel
theorem dX0_become_2 : decode cX0_become 2 = .ok (.getfield 9, 3) := by decide +kernel
theorem dX0_become_5 : decode cX0_become 5 = .ok (.putfield 9, 3) := by decide +kernel
theorem dX0_become_8 : decode cX0_become 8 = .ok (.aload_n 1, 1) := by decide +kernel
theorem dX0_become_9 : decode cX0_become 9 = .ok (.getfield 15, 3) := by decide +kernel
theorem dX0_become_12 : decode cX0_become 12 = .ok (.iconst 0, 1) := by decide +kernel
theorem dX0_become_13 : decode cX0_become 13 = .ok (.aload_n 0, 1) := by decide +kernel
theorem dX0_become_14 : decode cX0_become 14 = .ok (.getfield 15, 3) := by decide +kernel
theorem dX0_become_17 : decode cX0_become 17 = .ok (.iconst 0, 1) := by decide +kernel
theorem dX0_become_18 : decode cX0_become 18 = .ok (.iconst 5, 1) := by decide +kernel
theorem dX0_become_19 : decode cX0_become 19 = .ok (.invokestatic 52, 3) := by decide +kernel
theorem dX0_become_22 : decode cX0_become 22 = .ok (.aload_n 1, 1) := by decide +kernel
theorem dX0_become_23 : decode cX0_become 23 = .ok (.getfield 19, 3) := by decide +kernel
theorem dX0_become_26 : decode cX0_become 26 = .ok (.iconst 0, 1) := by decide +kernel
theorem dX0_become_27 : decode cX0_become 27 = .ok (.aload_n 0, 1) := by decide +kernel
theorem dX0_become_28 : decode cX0_become 28 = .ok (.getfield 19, 3) := by decide +kernel
theorem dX0_become_31 : decode cX0_become 31 = .ok (.iconst 0, 1) := by decide +kernel
theorem dX0_become_32 : decode cX0_become 32 = .ok (.iconst 5, 1) := by decide +kernel
theorem dX0_become_33 : decode cX0_become 33 = .ok (.invokestatic 52, 3) := by decide +kernel
theorem dX0_become_36 : decode cX0_become 36 = .ok (.aload_n 1, 1) := by decide +kernel
theorem dX0_become_37 : decode cX0_become 37 = .ok (.getfield 22, 3) := by decide +kernel
theorem dX0_become_40 : decode cX0_become 40 = .ok (.iconst 0, 1) := by decide +kernel
theorem dX0_become_41 : decode cX0_become 41 = .ok (.aload_n 0, 1) := by decide +kernel
theorem dX0_become_42 : decode cX0_become 42 = .ok (.getfield 22, 3) := by decide +kernel
theorem dX0_become_45 : decode cX0_become 45 = .ok (.iconst 0, 1) := by decide +kernel
theorem dX0_become_46 : decode cX0_become 46 = .ok (.bipush 25, 2) := by decide +kernel
theorem dX0_become_48 : decode cX0_become 48 = .ok (.invokestatic 52, 3) := by decide +kernel
theorem dX0_become_51 : decode cX0_become 51 = .ok (.aload_n 0, 1) := by decide +kernel
theorem dX0_become_52 : decode cX0_become 52 = .ok (.aload_n 1, 1) := by decide +kernel
theorem dX0_become_53 : decode cX0_become 53 = .ok (.getfield 25, 3) := by decide +kernel
theorem dX0_become_56 : decode cX0_become 56 = .ok (.putfield 25, 3) := by decide +kernel
theorem dX0_become_59 : decode cX0_become 59 = .ok (.aload_n 1, 1) := by decide +kernel
theorem dX0_become_60 : decode cX0_become 60 = .ok (.getfield 28, 3) := by decide +kernel
theorem dX0_become_63 : decode cX0_become 63 = .ok (.iconst 0, 1) := by decide +kernel
theorem dX0_become_64 : decode cX0_become 64 = .ok (.aload_n 0, 1) := by decide +kernel
theorem dX0_become_65 : decode cX0_become 65 = .ok (.getfield 28, 3) := by decide +kernel
theorem dX0_become_68 : decode cX0_become 68 = .ok (.iconst 0, 1) := by decide +kernel
theorem dX0_become_69 : decode cX0_become 69 = .ok (.bipush 6, 2) := by decide +kernel
theorem dX0_become_71 : decode cX0_become 71 = .ok (.invokestatic 52, 3) := by decide +kernel
theorem dX0_become_74 : decode cX0_become 74 = .ok (.aload_n 1, 1) := by decide +kernel
theorem dX0_become_75 : decode cX0_become 75 = .ok (.getfield 31, 3) := by decide +kernel
theorem dX0_become_78 : decode cX0_become 78 = .ok (.iconst 0, 1) := by decide +kernel
theorem dX0_become_79 : decode cX0_become 79 = .ok (.aload_n 0, 1) := by decide +kernel
theorem dX0_become_80 : decode cX0_become 80 = .ok (.getfield 31, 3) := by decide +kernel
theorem dX0_become_83 : decode cX0_become 83 = .ok (.iconst 0, 1) := by decide +kernel
theorem dX0_become_84 : decode cX0_become 84 = .ok (.bipush 6, 2) := by decide +kernel
theorem dX0_become_86 : decode cX0_become 86 = .ok (.invokestatic 52, 3) := by decide +kernel
theorem dX0_become_89 : decode cX0_become 89 = .ok (.aload_n 1, 1) := by decide +kernel
theorem dX0_become_90 : decode cX0_become 90 = .ok (.getfield 34, 3) := by decide +kernel
theorem dX0_become_93 : decode cX0_become 93 = .ok (.iconst 0, 1) := by decide +kernel
theorem dX0_become_94 : decode cX0_become 94 = .ok (.aload_n 0, 1) := by decide +kernel
theorem dX0_become_95 : decode cX0_become 95 = .ok (.getfield 34, 3) := by decide +kernel
theorem dX0_become_98 : decode cX0_become 98 = .ok (.iconst 0, 1) := by decide +kernel
theorem dX0_become_99 : decode cX0_become 99 = .ok (.bipush 6, 2) := by decide +kernel
theorem dX0_become_101 : decode cX0_become 101 = .ok (.invokestatic 52, 3) := by decide +kernel
theorem dX0_become_104 : decode cX0_become 104 = .ok (.aload_n 0, 1) := by decide +kernel
theorem dX0_become_105 : decode cX0_become 105 = .ok (.aload_n 1, 1) := by decide +kernel
theorem dX0_become_106 : decode cX0_become 106 = .ok (.getfield 37, 3) := by decide +kernel
theorem dX0_become_109 : decode cX0_become 109 = .ok (.putfield 37, 3) := by decide +kernel
theorem dX0_become_112 : decode cX0_become 112 = .ok (.aload_n 0, 1) := by decide +kernel
theorem dX0_become_113 : decode cX0_become 113 = .ok (.aload_n 1, 1) := by decide +kernel
theorem dX0_become_114 : decode cX0_become 114 = .ok (.getfield 40, 3) := by decide +kernel
theorem dX0_become_117 : decode cX0_become 117 = .ok (.putfield 40, 3) := by decide +kernel
theorem dX0_become_120 : decode cX0_become 120 = .ok (.aload_n 0, 1) := by decide +kernel
theorem dX0_become_121 : decode cX0_become 121 = .ok (.aload_n 1, 1) := by decide +kernel
theorem dX0_become_122 : decode cX0_become 122 = .ok (.getfield 43, 3) := by decide +kernel
theorem dX0_become_125 : decode cX0_become 125 = .ok (.putfield 43, 3) := by decide +kernel
theorem dX0_become_128 : decode cX0_become 128 = .ok (.return_, 1) := by decide +kernel
theorem dX0_addIsle_0 : decode cX0_addIsle 0 = .ok (.aload_n 0, 1) := by decide +kernel
theorem dX0_addIsle_1 : decode cX0_addIsle 1 = .ok (.getfield 9, 3) := by decide +kernel
theorem dX0_addIsle_4 : decode cX0_addIsle 4 = .ok (.iconst 5, 1) := by decide +kernel
theorem dX0_addIsle_5 : decode cX0_addIsle 5 = .ok (.if_icmp .ge 33, 3) := by decide +kernel
theorem dX0_addIsle_8 : decode cX0_addIsle 8 = .ok (.aload_n 0, 1) := by decide +kernel
theorem dX0_addIsle_9 : decode cX0_addIsle 9 = .ok (.getfield 15, 3) := by decide +kernel
theorem dX0_addIsle_12 : decode cX0_addIsle 12 = .ok (.aload_n 0, 1) := by decide +kernel
theorem dX0_addIsle_13 : decode cX0_addIsle 13 = .ok (.getfield 9, 3) := by decide +kernel
theorem dX0_addIsle_16 : decode cX0_addIsle 16 = .ok (.iload_n 1, 1) := by decide +kernel
theorem dX0_addIsle_17 : decode cX0_addIsle 17 = .ok (.iastore, 1) := by decide +kernel
theorem dX0_addIsle_18 : decode cX0_addIsle 18 = .ok (.aload_n 0, 1) := by decide +kernel
theorem dX0_addIsle_19 : decode cX0_addIsle 19 = .ok (.getfield 19, 3) := by decide +kernel
theorem dX0_addIsle_22 : decode cX0_addIsle 22 = .ok (.aload_n 0, 1) := by decide +kernel
theorem dX0_addIsle_23 : decode cX0_addIsle 23 = .ok (.getfield 9, 3) := by decide +kernel
theorem dX0_addIsle_26 : decode cX0_addIsle 26 = .ok (.iload_n 2, 1) := by decide +kernel
theorem dX0_addIsle_27 : decode cX0_addIsle 27 = .ok (.iastore, 1) := by decide +kernel
theorem dX0_addIsle_28 : decode cX0_addIsle 28 = .ok (.aload_n 0, 1) := by decide +kernel
theorem dX0_addIsle_29 : decode cX0_addIsle 29 = .ok (.dup, 1) := by decide +kernel
theorem dX0_addIsle_30 : decode cX0_addIsle 30 = .ok (.getfield 9, 3) := by decide +kernel
theorem dX0_addIsle_33 : decode cX0_addIsle 33 = .ok (.iconst 1, 1) := by decide +kernel
theorem dX0_addIsle_34 : decode cX0_addIsle 34 = .ok (.iadd, 1) := by decide +kernel
theorem dX0_addIsle_35 : decode cX0_addIsle 35 = .ok (.putfield 9, 3) := by decide +kernel
theorem dX0_addIsle_38 : decode cX0_addIsle 38 = .ok (.return_, 1) := by decide +kernel
theorem dX0_addRope_0 : decode cX0_addRope 0 = .ok (.aload_n 0, 1) := by decide +kernel
theorem dX0_addRope_1 : decode cX0_addRope 1 = .ok (.getfield 25, 3) := by decide +kernel
theorem dX0_addRope_4 : decode cX0_addRope 4 = .ok (.bipush 6, 2) := by decide +kernel
theorem dX0_addRope_6 : decode cX0_addRope 6 = .ok (.if_icmp .ge 43, 3) := by decide +kernel
theorem dX0_addRope_9 : decode cX0_addRope 9 = .ok (.aload_n 0, 1) := by decide +kernel
theorem dX0_addRope_10 : decode cX0_addRope 10 = .ok (.getfield 28, 3) := by decide +kernel
theorem dX0_addRope_13 : decode cX0_addRope 13 = .ok (.aload_n 0, 1) := by decide +kernel
theorem dX0_addRope_14 : decode cX0_addRope 14 = .ok (.getfield 25, 3) := by decide +kernel
theorem dX0_addRope_17 : decode cX0_addRope 17 = .ok (.iload_n 1, 1) := by decide +kernel
theorem dX0_addRope_18 : decode cX0_addRope 18 = .ok (.iastore, 1) := by decide +kernel
theorem dX0_addRope_19 : decode cX0_addRope 19 = .ok (.aload_n 0, 1) := by decide +kernel
theorem dX0_addRope_20 : decode cX0_addRope 20 = .ok (.getfield 31, 3) := by decide +kernel
theorem dX0_addRope_23 : decode cX0_addRope 23 = .ok (.aload_n 0, 1) := by decide +kernel
theorem dX0_addRope_24 : decode cX0_addRope 24 = .ok (.getfield 25, 3) := by decide +kernel
theorem dX0_addRope_27 : decode cX0_addRope 27 = .ok (.iload_n 2, 1) := by decide +kernel
theorem dX0_addRope_28 : decode cX0_addRope 28 = .ok (.iastore, 1) := by decide +kernel
theorem dX0_addRope_29 : decode cX0_addRope 29 = .ok (.aload_n 0, 1) := by decide +kernel
theorem dX0_addRope_30 : decode cX0_addRope 30 = .ok (.getfield 34, 3) := by decide +kernel
theorem dX0_addRope_33 : decode cX0_addRope 33 = .ok (.aload_n 0, 1) := by decide +kernel
theorem dX0_addRope_34 : decode cX0_addRope 34 = .ok (.getfield 25, 3) := by decide +kernel
theorem dX0_addRope_37 : decode cX0_addRope 37 = .ok (.iload_n 3, 1) := by decide +kernel
theorem dX0_addRope_38 : decode cX0_addRope 38 = .ok (.iastore, 1) := by decide +kernel
theorem dX0_addRope_39 : decode cX0_addRope 39 = .ok (.aload_n 0, 1) := by decide +kernel
theorem dX0_addRope_40 : decode cX0_addRope 40 = .ok (.dup, 1) := by decide +kernel
theorem dX0_addRope_41 : decode cX0_addRope 41 = .ok (.getfield 25, 3) := by decide +kernel
theorem dX0_addRope_44 : decode cX0_addRope 44 = .ok (.iconst 1, 1) := by decide +kernel
theorem dX0_addRope_45 : decode cX0_addRope 45 = .ok (.iadd, 1) := by decide +kernel
theorem dX0_addRope_46 : decode cX0_addRope 46 = .ok (.putfield 25, 3) := by decide +kernel
theorem dX0_addRope_49 : decode cX0_addRope 49 = .ok (.return_, 1) := by decide +kernel
theorem dX0_dropRope_0 : decode cX0_dropRope 0 = .ok (.iload_n 1, 1) := by decide +kernel
theorem dX0_dropRope_1 : decode cX0_dropRope 1 = .ok (.istore_n 2, 1) := by decide +kernel
theorem dX0_dropRope_2 : decode cX0_dropRope 2 = .ok (.iload_n 2, 1) := by decide +kernel
theorem dX0_dropRope_3 : decode cX0_dropRope 3 = .ok (.iconst 1, 1) := by decide +kernel
theorem dX0_dropRope_4 : decode cX0_dropRope 4 = .ok (.iadd, 1) := by decide +kernel
theorem dX0_dropRope_5 : decode cX0_dropRope 5 = .ok (.aload_n 0, 1) := by decide +kernel
theorem dX0_dropRope_6 : decode cX0_dropRope 6 = .ok (.getfield 25, 3) := by decide +kernel
theorem dX0_dropRope_9 : decode cX0_dropRope 9 = .ok (.if_icmp .ge 51, 3) := by decide +kernel
theorem dX0_dropRope_12 : decode cX0_dropRope 12 = .ok (.aload_n 0, 1) := by decide +kernel
theorem dX0_dropRope_13 : decode cX0_dropRope 13 = .ok (.getfield 28, 3) := by decide +kernel
theorem dX0_dropRope_16 : decode cX0_dropRope 16 = .ok (.iload_n 2, 1) := by decide +kernel
theorem dX0_dropRope_17 : decode cX0_dropRope 17 = .ok (.aload_n 0, 1) := by decide +kernel
theorem dX0_dropRope_18 : decode cX0_dropRope 18 = .ok (.getfield 28, 3) := by decide +kernel
theorem dX0_dropRope_21 : decode cX0_dropRope 21 = .ok (.iload_n 2, 1) := by decide +kernel
theorem dX0_dropRope_22 : decode cX0_dropRope 22 = .ok (.iconst 1, 1) := by decide +kernel
theorem dX0_dropRope_23 : decode cX0_dropRope 23 = .ok (.iadd, 1) := by decide +kernel
theorem dX0_dropRope_24 : decode cX0_dropRope 24 = .ok (.iaload, 1) := by decide +kernel
theorem dX0_dropRope_25 : decode cX0_dropRope 25 = .ok (.iastore, 1) := by decide +kernel
theorem dX0_dropRope_26 : decode cX0_dropRope 26 = .ok (.aload_n 0, 1) := by decide +kernel
theorem dX0_dropRope_27 : decode cX0_dropRope 27 = .ok (.getfield 31, 3) := by decide +kernel
theorem dX0_dropRope_30 : decode cX0_dropRope 30 = .ok (.iload_n 2, 1) := by decide +kernel
theorem dX0_dropRope_31 : decode cX0_dropRope 31 = .ok (.aload_n 0, 1) := by decide +kernel
theorem dX0_dropRope_32 : decode cX0_dropRope 32 = .ok (.getfield 31, 3) := by decide +kernel
theorem dX0_dropRope_35 : decode cX0_dropRope 35 = .ok (.iload_n 2, 1) := by decide +kernel
theorem dX0_dropRope_36 : decode cX0_dropRope 36 = .ok (.iconst 1, 1) := by decide +kernel
theorem dX0_dropRope_37 : decode cX0_dropRope 37 = .ok (.iadd, 1) := by decide +kernel
theorem dX0_dropRope_38 : decode cX0_dropRope 38 = .ok (.iaload, 1) := by decide +kernel
theorem dX0_dropRope_39 : decode cX0_dropRope 39 = .ok (.iastore, 1) := by decide +kernel
theorem dX0_dropRope_40 : decode cX0_dropRope 40 = .ok (.aload_n 0, 1) := by decide +kernel
theorem dX0_dropRope_41 : decode cX0_dropRope 41 = .ok (.getfield 34, 3) := by decide +kernel
theorem dX0_dropRope_44 : decode cX0_dropRope 44 = .ok (.iload_n 2, 1) := by decide +kernel
theorem dX0_dropRope_45 : decode cX0_dropRope 45 = .ok (.aload_n 0, 1) := by decide +kernel
theorem dX0_dropRope_46 : decode cX0_dropRope 46 = .ok (.getfield 34, 3) := by decide +kernel
theorem dX0_dropRope_49 : decode cX0_dropRope 49 = .ok (.iload_n 2, 1) := by decide +kernel
theorem dX0_dropRope_50 : decode cX0_dropRope 50 = .ok (.iconst 1, 1) := by decide +kernel
theorem dX0_dropRope_51 : decode cX0_dropRope 51 = .ok (.iadd, 1) := by decide +kernel
theorem dX0_dropRope_52 : decode cX0_dropRope 52 = .ok (.iaload, 1) := by decide +kernel
theorem dX0_dropRope_53 : decode cX0_dropRope 53 = .ok (.iastore, 1) := by decide +kernel
theorem dX0_dropRope_54 : decode cX0_dropRope 54 = .ok (.iinc 2 1, 3) := by decide +kernel
theorem dX0_dropRope_57 : decode cX0_dropRope 57 = .ok (.goto (-55), 3) := by decide +kernel
theorem dX0_dropRope_60 : decode cX0_dropRope 60 = .ok (.aload_n 0, 1) := by decide +kernel
theorem dX0_dropRope_61 : decode cX0_dropRope 61 = .ok (.dup, 1) := by decide +kernel
theorem dX0_dropRope_62 : decode cX0_dropRope 62 = .ok (.getfield 25, 3) := by decide +kernel
theorem dX0_dropRope_65 : decode cX0_dropRope 65 = .ok (.iconst 1, 1) := by decide +kernel
theorem dX0_dropRope_66 : decode cX0_dropRope 66 = .ok (.isub, 1) := by decide +kernel
theorem dX0_dropRope_67 : decode cX0_dropRope 67 = .ok (.putfield 25, 3) := by decide +kernel
theorem dX0_dropRope_70 : decode cX0_dropRope 70 = .ok (.return_, 1) := by decide +kernel
theorem dX0_grudge_0 : decode cX0_grudge 0 = .ok (.aload_n 0, 1) := by decide +kernel
theorem dX0_grudge_1 : decode cX0_grudge 1 = .ok (.getfield 22, 3) := by decide +kernel
theorem dX0_grudge_4 : decode cX0_grudge 4 = .ok (.iload_n 1, 1) := by decide +kernel
theorem dX0_grudge_5 : decode cX0_grudge 5 = .ok (.iconst 5, 1) := by decide +kernel
theorem dX0_grudge_6 : decode cX0_grudge 6 = .ok (.imul, 1) := by decide +kernel
theorem dX0_grudge_7 : decode cX0_grudge 7 = .ok (.iload_n 2, 1) := by decide +kernel
theorem dX0_grudge_8 : decode cX0_grudge 8 = .ok (.iadd, 1) := by decide +kernel
theorem dX0_grudge_9 : decode cX0_grudge 9 = .ok (.iaload, 1) := by decide +kernel
theorem dX0_grudge_10 : decode cX0_grudge 10 = .ok (.ireturn, 1) := by decide +kernel
theorem dX0_setGrudge_0 : decode cX0_setGrudge 0 = .ok (.aload_n 0, 1) := by decide +kernel
theorem dX0_setGrudge_1 : decode cX0_setGrudge 1 = .ok (.getfield 22, 3) := by decide +kernel
theorem dX0_setGrudge_4 : decode cX0_setGrudge 4 = .ok (.iload_n 1, 1) := by decide +kernel
theorem dX0_setGrudge_5 : decode cX0_setGrudge 5 = .ok (.iconst 5, 1) := by decide +kernel
theorem dX0_setGrudge_6 : decode cX0_setGrudge 6 = .ok (.imul, 1) := by decide +kernel
theorem dX0_setGrudge_7 : decode cX0_setGrudge 7 = .ok (.iload_n 2, 1) := by decide +kernel
theorem dX0_setGrudge_8 : decode cX0_setGrudge 8 = .ok (.iadd, 1) := by decide +kernel
theorem dX0_setGrudge_9 : decode cX0_setGrudge 9 = .ok (.iload_n 3, 1) := by decide +kernel
theorem dX0_setGrudge_10 : decode cX0_setGrudge 10 = .ok (.iastore, 1) := by decide +kernel
theorem dX0_setGrudge_11 : decode cX0_setGrudge 11 = .ok (.return_, 1) := by decide +kernel
theorem dX0_ropesOf_0 : decode cX0_ropesOf 0 = .ok (.iconst 0, 1) := by decide +kernel
theorem dX0_ropesOf_1 : decode cX0_ropesOf 1 = .ok (.istore_n 2, 1) := by decide +kernel
theorem dX0_ropesOf_2 : decode cX0_ropesOf 2 = .ok (.iconst 0, 1) := by decide +kernel
theorem dX0_ropesOf_3 : decode cX0_ropesOf 3 = .ok (.istore_n 3, 1) := by decide +kernel
theorem dX0_ropesOf_4 : decode cX0_ropesOf 4 = .ok (.iload_n 3, 1) := by decide +kernel
theorem dX0_ropesOf_5 : decode cX0_ropesOf 5 = .ok (.aload_n 0, 1) := by decide +kernel
theorem dX0_ropesOf_6 : decode cX0_ropesOf 6 = .ok (.getfield 25, 3) := by decide +kernel
theorem dX0_ropesOf_9 : decode cX0_ropesOf 9 = .ok (.if_icmp .ge 32, 3) := by decide +kernel
theorem dX0_ropesOf_12 : decode cX0_ropesOf 12 = .ok (.aload_n 0, 1) := by decide +kernel
theorem dX0_ropesOf_13 : decode cX0_ropesOf 13 = .ok (.getfield 28, 3) := by decide +kernel
theorem dX0_ropesOf_16 : decode cX0_ropesOf 16 = .ok (.iload_n 3, 1) := by decide +kernel
theorem dX0_ropesOf_17 : decode cX0_ropesOf 17 = .ok (.iaload, 1) := by decide +kernel
theorem dX0_ropesOf_18 : decode cX0_ropesOf 18 = .ok (.iload_n 1, 1) := by decide +kernel
theorem dX0_ropesOf_19 : decode cX0_ropesOf 19 = .ok (.if_icmp .eq 13, 3) := by decide +kernel
theorem dX0_ropesOf_22 : decode cX0_ropesOf 22 = .ok (.aload_n 0, 1) := by decide +kernel
theorem dX0_ropesOf_23 : decode cX0_ropesOf 23 = .ok (.getfield 31, 3) := by decide +kernel
theorem dX0_ropesOf_26 : decode cX0_ropesOf 26 = .ok (.iload_n 3, 1) := by decide +kernel
theorem dX0_ropesOf_27 : decode cX0_ropesOf 27 = .ok (.iaload, 1) := by decide +kernel
theorem dX0_ropesOf_28 : decode cX0_ropesOf 28 = .ok (.iload_n 1, 1) := by decide +kernel
theorem dX0_ropesOf_29 : decode cX0_ropesOf 29 = .ok (.if_icmp .ne 6, 3) := by decide +kernel
theorem dX0_ropesOf_32 : decode cX0_ropesOf 32 = .ok (.iinc 2 1, 3) := by decide +kernel
theorem dX0_ropesOf_35 : decode cX0_ropesOf 35 = .ok (.iinc 3 1, 3) := by decide +kernel
theorem dX0_ropesOf_38 : decode cX0_ropesOf 38 = .ok (.goto (-34), 3) := by decide +kernel
theorem dX0_ropesOf_41 : decode cX0_ropesOf 41 = .ok (.iload_n 2, 1) := by decide +kernel
theorem dX0_ropesOf_42 : decode cX0_ropesOf 42 = .ok (.ireturn, 1) := by decide +kernel
theorem dX0_lengthOfAll_0 : decode cX0_lengthOfAll 0 = .ok (.iconst 0, 1) := by decide +kernel
theorem dX0_lengthOfAll_1 : decode cX0_lengthOfAll 1 = .ok (.istore_n 1, 1) := by decide +kernel
theorem dX0_lengthOfAll_2 : decode cX0_lengthOfAll 2 = .ok (.iconst 0, 1) := by decide +kernel
theorem dX0_lengthOfAll_3 : decode cX0_lengthOfAll 3 = .ok (.istore_n 2, 1) := by decide +kernel
theorem dX0_lengthOfAll_4 : decode cX0_lengthOfAll 4 = .ok (.iload_n 2, 1) := by decide +kernel
theorem dX0_lengthOfAll_5 : decode cX0_lengthOfAll 5 = .ok (.aload_n 0, 1) := by decide +kernel
theorem dX0_lengthOfAll_6 : decode cX0_lengthOfAll 6 = .ok (.getfield 25, 3) := by decide +kernel
theorem dX0_lengthOfAll_9 : decode cX0_lengthOfAll 9 = .ok (.if_icmp .ge 18, 3) := by decide +kernel
theorem dX0_lengthOfAll_12 : decode cX0_lengthOfAll 12 = .ok (.iload_n 1, 1) := by decide +kernel
theorem dX0_lengthOfAll_13 : decode cX0_lengthOfAll 13 = .ok (.aload_n 0, 1) := by decide +kernel
theorem dX0_lengthOfAll_14 : decode cX0_lengthOfAll 14 = .ok (.getfield 34, 3) := by decide +kernel
theorem dX0_lengthOfAll_17 : decode cX0_lengthOfAll 17 = .ok (.iload_n 2, 1) := by decide +kernel
theorem dX0_lengthOfAll_18 : decode cX0_lengthOfAll 18 = .ok (.iaload, 1) := by decide +kernel
theorem dX0_lengthOfAll_19 : decode cX0_lengthOfAll 19 = .ok (.iadd, 1) := by decide +kernel
theorem dX0_lengthOfAll_20 : decode cX0_lengthOfAll 20 = .ok (.istore_n 1, 1) := by decide +kernel
theorem dX0_lengthOfAll_21 : decode cX0_lengthOfAll 21 = .ok (.iinc 2 1, 3) := by decide +kernel
theorem dX0_lengthOfAll_24 : decode cX0_lengthOfAll 24 = .ok (.goto (-20), 3) := by decide +kernel
theorem dX0_lengthOfAll_27 : decode cX0_lengthOfAll 27 = .ok (.iload_n 1, 1) := by decide +kernel
theorem dX0_lengthOfAll_28 : decode cX0_lengthOfAll 28 = .ok (.ireturn, 1) := by decide +kernel
theorem dX0_grudgeOfAll_0 : decode cX0_grudgeOfAll 0 = .ok (.iconst 0, 1) := by decide +kernel
theorem dX0_grudgeOfAll_1 : decode cX0_grudgeOfAll 1 = .ok (.istore_n 1, 1) := by decide +kernel
theorem dX0_grudgeOfAll_2 : decode cX0_grudgeOfAll 2 = .ok (.iconst 0, 1) := by decide +kernel
theorem dX0_grudgeOfAll_3 : decode cX0_grudgeOfAll 3 = .ok (.istore_n 2, 1) := by decide +kernel
theorem dX0_grudgeOfAll_4 : decode cX0_grudgeOfAll 4 = .ok (.iload_n 2, 1) := by decide +kernel
theorem dX0_grudgeOfAll_5 : decode cX0_grudgeOfAll 5 = .ok (.aload_n 0, 1) := by decide +kernel
theorem dX0_grudgeOfAll_6 : decode cX0_grudgeOfAll 6 = .ok (.getfield 9, 3) := by decide +kernel
theorem dX0_grudgeOfAll_9 : decode cX0_grudgeOfAll 9 = .ok (.if_icmp .ge 43, 3) := by decide +kernel
theorem dX0_grudgeOfAll_12 : decode cX0_grudgeOfAll 12 = .ok (.iconst 0, 1) := by decide +kernel
theorem dX0_grudgeOfAll_13 : decode cX0_grudgeOfAll 13 = .ok (.istore_n 3, 1) := by decide +kernel
theorem dX0_grudgeOfAll_14 : decode cX0_grudgeOfAll 14 = .ok (.iload_n 3, 1) := by decide +kernel
theorem dX0_grudgeOfAll_15 : decode cX0_grudgeOfAll 15 = .ok (.aload_n 0, 1) := by decide +kernel
theorem dX0_grudgeOfAll_16 : decode cX0_grudgeOfAll 16 = .ok (.getfield 9, 3) := by decide +kernel
theorem dX0_grudgeOfAll_19 : decode cX0_grudgeOfAll 19 = .ok (.if_icmp .ge 27, 3) := by decide +kernel
theorem dX0_grudgeOfAll_22 : decode cX0_grudgeOfAll 22 = .ok (.iload_n 1, 1) := by decide +kernel
theorem dX0_grudgeOfAll_23 : decode cX0_grudgeOfAll 23 = .ok (.iload_n 2, 1) := by decide +kernel
theorem dX0_grudgeOfAll_24 : decode cX0_grudgeOfAll 24 = .ok (.iload_n 3, 1) := by decide +kernel
theorem dX0_grudgeOfAll_25 : decode cX0_grudgeOfAll 25 = .ok (.if_icmp .ne 7, 3) := by decide +kernel
theorem dX0_grudgeOfAll_28 : decode cX0_grudgeOfAll 28 = .ok (.iconst 0, 1) := by decide +kernel
theorem dX0_grudgeOfAll_29 : decode cX0_grudgeOfAll 29 = .ok (.goto 9, 3) := by decide +kernel
theorem dX0_grudgeOfAll_32 : decode cX0_grudgeOfAll 32 = .ok (.aload_n 0, 1) := by decide +kernel
theorem dX0_grudgeOfAll_33 : decode cX0_grudgeOfAll 33 = .ok (.iload_n 2, 1) := by decide +kernel
theorem dX0_grudgeOfAll_34 : decode cX0_grudgeOfAll 34 = .ok (.iload_n 3, 1) := by decide +kernel
theorem dX0_grudgeOfAll_35 : decode cX0_grudgeOfAll 35 = .ok (.invokevirtual 58, 3) := by decide +kernel
theorem dX0_grudgeOfAll_38 : decode cX0_grudgeOfAll 38 = .ok (.iadd, 1) := by decide +kernel
theorem dX0_grudgeOfAll_39 : decode cX0_grudgeOfAll 39 = .ok (.istore_n 1, 1) := by decide +kernel
theorem dX0_grudgeOfAll_40 : decode cX0_grudgeOfAll 40 = .ok (.iinc 3 1, 3) := by decide +kernel
theorem dX0_grudgeOfAll_43 : decode cX0_grudgeOfAll 43 = .ok (.goto (-29), 3) := by decide +kernel
theorem dX0_grudgeOfAll_46 : decode cX0_grudgeOfAll 46 = .ok (.iinc 2 1, 3) := by decide +kernel
theorem dX0_grudgeOfAll_49 : decode cX0_grudgeOfAll 49 = .ok (.goto (-45), 3) := by decide +kernel
theorem dX0_grudgeOfAll_52 : decode cX0_grudgeOfAll 52 = .ok (.iload_n 1, 1) := by decide +kernel
theorem dX0_grudgeOfAll_53 : decode cX0_grudgeOfAll 53 = .ok (.ireturn, 1) := by decide +kernel
theorem dX0_spread_0 : decode cX0_spread 0 = .ok (.aload_n 0, 1) := by decide +kernel
theorem dX0_spread_1 : decode cX0_spread 1 = .ok (.getfield 9, 3) := by decide +kernel
theorem dX0_spread_4 : decode cX0_spread 4 = .ok (.iconst 2, 1) := by decide +kernel
theorem dX0_spread_5 : decode cX0_spread 5 = .ok (.if_icmp .ge 5, 3) := by decide +kernel
theorem dX0_spread_8 : decode cX0_spread 8 = .ok (.iconst 0, 1) := by decide +kernel
theorem dX0_spread_9 : decode cX0_spread 9 = .ok (.ireturn, 1) := by decide +kernel
theorem dX0_spread_10 : decode cX0_spread 10 = .ok (.aload_n 0, 1) := by decide +kernel
theorem dX0_spread_11 : decode cX0_spread 11 = .ok (.getfield 19, 3) := by decide +kernel
theorem dX0_spread_14 : decode cX0_spread 14 = .ok (.iconst 0, 1) := by decide +kernel
theorem dX0_spread_15 : decode cX0_spread 15 = .ok (.iaload, 1) := by decide +kernel
theorem dX0_spread_16 : decode cX0_spread 16 = .ok (.istore_n 1, 1) := by decide +kernel
theorem dX0_spread_17 : decode cX0_spread 17 = .ok (.aload_n 0, 1) := by decide +kernel
theorem dX0_spread_18 : decode cX0_spread 18 = .ok (.getfield 19, 3) := by decide +kernel
theorem dX0_spread_21 : decode cX0_spread 21 = .ok (.iconst 0, 1) := by decide +kernel
theorem dX0_spread_22 : decode cX0_spread 22 = .ok (.iaload, 1) := by decide +kernel
theorem dX0_spread_23 : decode cX0_spread 23 = .ok (.istore_n 2, 1) := by decide +kernel
theorem dX0_spread_24 : decode cX0_spread 24 = .ok (.iconst 1, 1) := by decide +kernel
theorem dX0_spread_25 : decode cX0_spread 25 = .ok (.istore_n 3, 1) := by decide +kernel
theorem dX0_spread_26 : decode cX0_spread 26 = .ok (.iload_n 3, 1) := by decide +kernel
theorem dX0_spread_27 : decode cX0_spread 27 = .ok (.aload_n 0, 1) := by decide +kernel
theorem dX0_spread_28 : decode cX0_spread 28 = .ok (.getfield 9, 3) := by decide +kernel
theorem dX0_spread_31 : decode cX0_spread 31 = .ok (.if_icmp .ge 31, 3) := by decide +kernel
theorem dX0_spread_34 : decode cX0_spread 34 = .ok (.iload_n 1, 1) := by decide +kernel
theorem dX0_spread_35 : decode cX0_spread 35 = .ok (.aload_n 0, 1) := by decide +kernel
theorem dX0_spread_36 : decode cX0_spread 36 = .ok (.getfield 19, 3) := by decide +kernel
theorem dX0_spread_39 : decode cX0_spread 39 = .ok (.iload_n 3, 1) := by decide +kernel
theorem dX0_spread_40 : decode cX0_spread 40 = .ok (.iaload, 1) := by decide +kernel
theorem dX0_spread_41 : decode cX0_spread 41 = .ok (.invokestatic 62, 3) := by decide +kernel
theorem dX0_spread_44 : decode cX0_spread 44 = .ok (.istore_n 1, 1) := by decide +kernel
theorem dX0_spread_45 : decode cX0_spread 45 = .ok (.iload_n 2, 1) := by decide +kernel
theorem dX0_spread_46 : decode cX0_spread 46 = .ok (.aload_n 0, 1) := by decide +kernel
theorem dX0_spread_47 : decode cX0_spread 47 = .ok (.getfield 19, 3) := by decide +kernel
theorem dX0_spread_50 : decode cX0_spread 50 = .ok (.iload_n 3, 1) := by decide +kernel
theorem dX0_spread_51 : decode cX0_spread 51 = .ok (.iaload, 1) := by decide +kernel
theorem dX0_spread_52 : decode cX0_spread 52 = .ok (.invokestatic 67, 3) := by decide +kernel
theorem dX0_spread_55 : decode cX0_spread 55 = .ok (.istore_n 2, 1) := by decide +kernel
theorem dX0_spread_56 : decode cX0_spread 56 = .ok (.iinc 3 1, 3) := by decide +kernel
theorem dX0_spread_59 : decode cX0_spread 59 = .ok (.goto (-33), 3) := by decide +kernel
theorem dX0_spread_62 : decode cX0_spread 62 = .ok (.iload_n 2, 1) := by decide +kernel
theorem dX0_spread_63 : decode cX0_spread 63 = .ok (.iload_n 1, 1) := by decide +kernel
theorem dX0_spread_64 : decode cX0_spread 64 = .ok (.isub, 1) := by decide +kernel
theorem dX0_spread_65 : decode cX0_spread 65 = .ok (.ireturn, 1) := by decide +kernel
theorem dX0_movedFrom_0 : decode cX0_movedFrom 0 = .ok (.iconst 0, 1) := by decide +kernel
theorem dX0_movedFrom_1 : decode cX0_movedFrom 1 = .ok (.istore_n 2, 1) := by decide +kernel
theorem dX0_movedFrom_2 : decode cX0_movedFrom 2 = .ok (.iconst 0, 1) := by decide +kernel
theorem dX0_movedFrom_3 : decode cX0_movedFrom 3 = .ok (.istore_n 3, 1) := by decide +kernel
theorem dX0_movedFrom_4 : decode cX0_movedFrom 4 = .ok (.iload_n 3, 1) := by decide +kernel
theorem dX0_movedFrom_5 : decode cX0_movedFrom 5 = .ok (.aload_n 0, 1) := by decide +kernel
theorem dX0_movedFrom_6 : decode cX0_movedFrom 6 = .ok (.getfield 9, 3) := by decide +kernel
theorem dX0_movedFrom_9 : decode cX0_movedFrom 9 = .ok (.if_icmp .ge 27, 3) := by decide +kernel
theorem dX0_movedFrom_12 : decode cX0_movedFrom 12 = .ok (.aload_n 0, 1) := by decide +kernel
theorem dX0_movedFrom_13 : decode cX0_movedFrom 13 = .ok (.getfield 19, 3) := by decide +kernel
theorem dX0_movedFrom_16 : decode cX0_movedFrom 16 = .ok (.iload_n 3, 1) := by decide +kernel
theorem dX0_movedFrom_17 : decode cX0_movedFrom 17 = .ok (.iaload, 1) := by decide +kernel
theorem dX0_movedFrom_18 : decode cX0_movedFrom 18 = .ok (.aload_n 1, 1) := by decide +kernel
theorem dX0_movedFrom_19 : decode cX0_movedFrom 19 = .ok (.getfield 19, 3) := by decide +kernel
theorem dX0_movedFrom_22 : decode cX0_movedFrom 22 = .ok (.iload_n 3, 1) := by decide +kernel
theorem dX0_movedFrom_23 : decode cX0_movedFrom 23 = .ok (.iaload, 1) := by decide +kernel
theorem dX0_movedFrom_24 : decode cX0_movedFrom 24 = .ok (.if_icmp .eq 6, 3) := by decide +kernel
theorem dX0_movedFrom_27 : decode cX0_movedFrom 27 = .ok (.iinc 2 1, 3) := by decide +kernel
theorem dX0_movedFrom_30 : decode cX0_movedFrom 30 = .ok (.iinc 3 1, 3) := by decide +kernel
theorem dX0_movedFrom_33 : decode cX0_movedFrom 33 = .ok (.goto (-29), 3) := by decide +kernel
theorem dX0_movedFrom_36 : decode cX0_movedFrom 36 = .ok (.iload_n 2, 1) := by decide +kernel
theorem dX0_movedFrom_37 : decode cX0_movedFrom 37 = .ok (.ireturn, 1) := by decide +kernel
theorem dX0_isTaken_0 : decode cX0_isTaken 0 = .ok (.iconst 0, 1) := by decide +kernel
theorem dX0_isTaken_1 : decode cX0_isTaken 1 = .ok (.istore_n 3, 1) := by decide +kernel
theorem dX0_isTaken_2 : decode cX0_isTaken 2 = .ok (.iload_n 3, 1) := by decide +kernel
theorem dX0_isTaken_3 : decode cX0_isTaken 3 = .ok (.aload_n 0, 1) := by decide +kernel
theorem dX0_isTaken_4 : decode cX0_isTaken 4 = .ok (.getfield 9, 3) := by decide +kernel
theorem dX0_isTaken_7 : decode cX0_isTaken 7 = .ok (.if_icmp .ge 26, 3) := by decide +kernel
theorem dX0_isTaken_10 : decode cX0_isTaken 10 = .ok (.iload_n 3, 1) := by decide +kernel
theorem dX0_isTaken_11 : decode cX0_isTaken 11 = .ok (.iload_n 2, 1) := by decide +kernel
theorem dX0_isTaken_12 : decode cX0_isTaken 12 = .ok (.if_icmp .eq 15, 3) := by decide +kernel
theorem dX0_isTaken_15 : decode cX0_isTaken 15 = .ok (.aload_n 0, 1) := by decide +kernel
theorem dX0_isTaken_16 : decode cX0_isTaken 16 = .ok (.getfield 19, 3) := by decide +kernel
theorem dX0_isTaken_19 : decode cX0_isTaken 19 = .ok (.iload_n 3, 1) := by decide +kernel
theorem dX0_isTaken_20 : decode cX0_isTaken 20 = .ok (.iaload, 1) := by decide +kernel
theorem dX0_isTaken_21 : decode cX0_isTaken 21 = .ok (.iload_n 1, 1) := by decide +kernel
theorem dX0_isTaken_22 : decode cX0_isTaken 22 = .ok (.if_icmp .ne 5, 3) := by decide +kernel
theorem dX0_isTaken_25 : decode cX0_isTaken 25 = .ok (.iconst 1, 1) := by decide +kernel
theorem dX0_isTaken_26 : decode cX0_isTaken 26 = .ok (.ireturn, 1) := by decide +kernel
theorem dX0_isTaken_27 : decode cX0_isTaken 27 = .ok (.iinc 3 1, 3) := by decide +kernel
theorem dX0_isTaken_30 : decode cX0_isTaken 30 = .ok (.goto (-28), 3) := by decide +kernel
theorem dX0_isTaken_33 : decode cX0_isTaken 33 = .ok (.iconst 0, 1) := by decide +kernel
theorem dX0_isTaken_34 : decode cX0_isTaken 34 = .ok (.ireturn, 1) := by decide +kernel
theorem dX0_nearestTo_0 : decode cX0_nearestTo 0 = .ok (.bipush (-4), 2) := by decide +kernel
theorem dX0_nearestTo_2 : decode cX0_nearestTo 2 = .ok (.istore_n 2, 1) := by decide +kernel
theorem dX0_nearestTo_3 : decode cX0_nearestTo 3 = .ok (.bipush 100, 2) := by decide +kernel
theorem dX0_nearestTo_5 : decode cX0_nearestTo 5 = .ok (.istore_n 3, 1) := by decide +kernel
theorem dX0_nearestTo_6 : decode cX0_nearestTo 6 = .ok (.iconst 0, 1) := by decide +kernel
theorem dX0_nearestTo_7 : decode cX0_nearestTo 7 = .ok (.istore 4, 2) := by decide +kernel
theorem dX0_nearestTo_9 : decode cX0_nearestTo 9 = .ok (.iload 4, 2) := by decide +kernel
theorem dX0_nearestTo_11 : decode cX0_nearestTo 11 = .ok (.aload_n 0, 1) := by decide +kernel
theorem dX0_nearestTo_12 : decode cX0_nearestTo 12 = .ok (.getfield 9, 3) := by decide +kernel
theorem dX0_nearestTo_15 : decode cX0_nearestTo 15 = .ok (.if_icmp .ge 46, 3) := by decide +kernel
theorem dX0_nearestTo_18 : decode cX0_nearestTo 18 = .ok (.aload_n 0, 1) := by decide +kernel
theorem dX0_nearestTo_19 : decode cX0_nearestTo 19 = .ok (.getfield 19, 3) := by decide +kernel
theorem dX0_nearestTo_22 : decode cX0_nearestTo 22 = .ok (.iload_n 1, 1) := by decide +kernel
theorem dX0_nearestTo_23 : decode cX0_nearestTo 23 = .ok (.iaload, 1) := by decide +kernel
theorem dX0_nearestTo_24 : decode cX0_nearestTo 24 = .ok (.aload_n 0, 1) := by decide +kernel
theorem dX0_nearestTo_25 : decode cX0_nearestTo 25 = .ok (.getfield 19, 3) := by decide +kernel
theorem dX0_nearestTo_28 : decode cX0_nearestTo 28 = .ok (.iload 4, 2) := by decide +kernel
theorem dX0_nearestTo_30 : decode cX0_nearestTo 30 = .ok (.iaload, 1) := by decide +kernel
theorem dX0_nearestTo_31 : decode cX0_nearestTo 31 = .ok (.isub, 1) := by decide +kernel
theorem dX0_nearestTo_32 : decode cX0_nearestTo 32 = .ok (.invokestatic 70, 3) := by decide +kernel
theorem dX0_nearestTo_35 : decode cX0_nearestTo 35 = .ok (.istore 5, 2) := by decide +kernel
theorem dX0_nearestTo_37 : decode cX0_nearestTo 37 = .ok (.iload 4, 2) := by decide +kernel
theorem dX0_nearestTo_39 : decode cX0_nearestTo 39 = .ok (.iload_n 1, 1) := by decide +kernel
theorem dX0_nearestTo_40 : decode cX0_nearestTo 40 = .ok (.if_icmp .eq 15, 3) := by decide +kernel
theorem dX0_nearestTo_43 : decode cX0_nearestTo 43 = .ok (.iload 5, 2) := by decide +kernel
theorem dX0_nearestTo_45 : decode cX0_nearestTo 45 = .ok (.iload_n 3, 1) := by decide +kernel
theorem dX0_nearestTo_46 : decode cX0_nearestTo 46 = .ok (.if_icmp .ge 9, 3) := by decide +kernel
theorem dX0_nearestTo_49 : decode cX0_nearestTo 49 = .ok (.iload 5, 2) := by decide +kernel
theorem dX0_nearestTo_51 : decode cX0_nearestTo 51 = .ok (.istore_n 3, 1) := by decide +kernel
theorem dX0_nearestTo_52 : decode cX0_nearestTo 52 = .ok (.iload 4, 2) := by decide +kernel
theorem dX0_nearestTo_54 : decode cX0_nearestTo 54 = .ok (.istore_n 2, 1) := by decide +kernel
theorem dX0_nearestTo_55 : decode cX0_nearestTo 55 = .ok (.iinc 4 1, 3) := by decide +kernel
theorem dX0_nearestTo_58 : decode cX0_nearestTo 58 = .ok (.goto (-49), 3) := by decide +kernel
theorem dX0_nearestTo_61 : decode cX0_nearestTo 61 = .ok (.iload_n 2, 1) := by decide +kernel
theorem dX0_nearestTo_62 : decode cX0_nearestTo 62 = .ok (.ireturn, 1) := by decide +kernel
theorem dX0_driftOf_0 : decode cX0_driftOf 0 = .ok (.iconst 0, 1) := by decide +kernel
theorem dX0_driftOf_1 : decode cX0_driftOf 1 = .ok (.istore_n 2, 1) := by decide +kernel
theorem dX0_driftOf_2 : decode cX0_driftOf 2 = .ok (.iconst 0, 1) := by decide +kernel
theorem dX0_driftOf_3 : decode cX0_driftOf 3 = .ok (.istore_n 3, 1) := by decide +kernel
theorem dX0_driftOf_4 : decode cX0_driftOf 4 = .ok (.iload_n 3, 1) := by decide +kernel
theorem dX0_driftOf_5 : decode cX0_driftOf 5 = .ok (.aload_n 0, 1) := by decide +kernel
theorem dX0_driftOf_6 : decode cX0_driftOf 6 = .ok (.getfield 9, 3) := by decide +kernel
theorem dX0_driftOf_9 : decode cX0_driftOf 9 = .ok (.if_icmp .ge 52, 3) := by decide +kernel
theorem dX0_driftOf_12 : decode cX0_driftOf 12 = .ok (.iload_n 3, 1) := by decide +kernel
theorem dX0_driftOf_13 : decode cX0_driftOf 13 = .ok (.iload_n 1, 1) := by decide +kernel
theorem dX0_driftOf_14 : decode cX0_driftOf 14 = .ok (.if_icmp .eq 41, 3) := by decide +kernel
theorem dX0_driftOf_17 : decode cX0_driftOf 17 = .ok (.aload_n 0, 1) := by decide +kernel
theorem dX0_driftOf_18 : decode cX0_driftOf 18 = .ok (.getfield 22, 3) := by decide +kernel
theorem dX0_driftOf_21 : decode cX0_driftOf 21 = .ok (.iload_n 1, 1) := by decide +kernel
theorem dX0_driftOf_22 : decode cX0_driftOf 22 = .ok (.iconst 5, 1) := by decide +kernel
theorem dX0_driftOf_23 : decode cX0_driftOf 23 = .ok (.imul, 1) := by decide +kernel
theorem dX0_driftOf_24 : decode cX0_driftOf 24 = .ok (.iload_n 3, 1) := by decide +kernel
theorem dX0_driftOf_25 : decode cX0_driftOf 25 = .ok (.iadd, 1) := by decide +kernel
theorem dX0_driftOf_26 : decode cX0_driftOf 26 = .ok (.iaload, 1) := by decide +kernel
theorem dX0_driftOf_27 : decode cX0_driftOf 27 = .ok (.istore 4, 2) := by decide +kernel
theorem dX0_driftOf_29 : decode cX0_driftOf 29 = .ok (.iload_n 2, 1) := by decide +kernel
theorem dX0_driftOf_30 : decode cX0_driftOf 30 = .ok (.aload_n 0, 1) := by decide +kernel
theorem dX0_driftOf_31 : decode cX0_driftOf 31 = .ok (.getfield 19, 3) := by decide +kernel
theorem dX0_driftOf_34 : decode cX0_driftOf 34 = .ok (.iload_n 1, 1) := by decide +kernel
theorem dX0_driftOf_35 : decode cX0_driftOf 35 = .ok (.iaload, 1) := by decide +kernel
theorem dX0_driftOf_36 : decode cX0_driftOf 36 = .ok (.aload_n 0, 1) := by decide +kernel
theorem dX0_driftOf_37 : decode cX0_driftOf 37 = .ok (.getfield 19, 3) := by decide +kernel
theorem dX0_driftOf_40 : decode cX0_driftOf 40 = .ok (.iload_n 3, 1) := by decide +kernel
theorem dX0_driftOf_41 : decode cX0_driftOf 41 = .ok (.iaload, 1) := by decide +kernel
theorem dX0_driftOf_42 : decode cX0_driftOf 42 = .ok (.if_icmp .le 8, 3) := by decide +kernel
theorem dX0_driftOf_45 : decode cX0_driftOf 45 = .ok (.iload 4, 2) := by decide +kernel
theorem dX0_driftOf_47 : decode cX0_driftOf 47 = .ok (.goto 6, 3) := by decide +kernel
theorem dX0_driftOf_50 : decode cX0_driftOf 50 = .ok (.iload 4, 2) := by decide +kernel
theorem dX0_driftOf_52 : decode cX0_driftOf 52 = .ok (.ineg, 1) := by decide +kernel
theorem dX0_driftOf_53 : decode cX0_driftOf 53 = .ok (.iadd, 1) := by decide +kernel
theorem dX0_driftOf_54 : decode cX0_driftOf 54 = .ok (.istore_n 2, 1) := by decide +kernel
theorem dX0_driftOf_55 : decode cX0_driftOf 55 = .ok (.iinc 3 1, 3) := by decide +kernel
theorem dX0_driftOf_58 : decode cX0_driftOf 58 = .ok (.goto (-54), 3) := by decide +kernel
theorem dX0_driftOf_61 : decode cX0_driftOf 61 = .ok (.aload_n 0, 1) := by decide +kernel
theorem dX0_driftOf_62 : decode cX0_driftOf 62 = .ok (.getfield 15, 3) := by decide +kernel
theorem dX0_driftOf_65 : decode cX0_driftOf 65 = .ok (.iload_n 1, 1) := by decide +kernel
theorem dX0_driftOf_66 : decode cX0_driftOf 66 = .ok (.iaload, 1) := by decide +kernel
theorem dX0_driftOf_67 : decode cX0_driftOf 67 = .ok (.tableswitch 42 1 3 #[25, 29, 33], 25) := by decide +kernel
theorem dX0_driftOf_92 : decode cX0_driftOf 92 = .ok (.iconst 2, 1) := by decide +kernel
theorem dX0_driftOf_93 : decode cX0_driftOf 93 = .ok (.iload_n 2, 1) := by decide +kernel
theorem dX0_driftOf_94 : decode cX0_driftOf 94 = .ok (.imul, 1) := by decide +kernel
theorem dX0_driftOf_95 : decode cX0_driftOf 95 = .ok (.ireturn, 1) := by decide +kernel
theorem dX0_driftOf_96 : decode cX0_driftOf 96 = .ok (.iload_n 2, 1) := by decide +kernel
theorem dX0_driftOf_97 : decode cX0_driftOf 97 = .ok (.iconst 2, 1) := by decide +kernel
theorem dX0_driftOf_98 : decode cX0_driftOf 98 = .ok (.idiv, 1) := by decide +kernel
theorem dX0_driftOf_99 : decode cX0_driftOf 99 = .ok (.ireturn, 1) := by decide +kernel
theorem dX0_driftOf_100 : decode cX0_driftOf 100 = .ok (.iconst 2, 1) := by decide +kernel
theorem dX0_driftOf_101 : decode cX0_driftOf 101 = .ok (.iload_n 2, 1) := by decide +kernel
theorem dX0_driftOf_102 : decode cX0_driftOf 102 = .ok (.imul, 1) := by decide +kernel
theorem dX0_driftOf_103 : decode cX0_driftOf 103 = .ok (.iload_n 2, 1) := by decide +kernel
theorem dX0_driftOf_104 : decode cX0_driftOf 104 = .ok (.invokestatic 74, 3) := by decide +kernel
theorem dX0_driftOf_107 : decode cX0_driftOf 107 = .ok (.isub, 1) := by decide +kernel
theorem dX0_driftOf_108 : decode cX0_driftOf 108 = .ok (.ireturn, 1) := by decide +kernel
theorem dX0_driftOf_109 : decode cX0_driftOf 109 = .ok (.iload_n 2, 1) := by decide +kernel
theorem dX0_driftOf_110 : decode cX0_driftOf 110 = .ok (.ireturn, 1) := by decide +kernel
theorem dX0_isHeld_0 : decode cX0_isHeld 0 = .ok (.iconst 0, 1) := by decide +kernel
theorem dX0_isHeld_1 : decode cX0_isHeld 1 = .ok (.istore_n 3, 1) := by decide +kernel
theorem dX0_isHeld_2 : decode cX0_isHeld 2 = .ok (.iload_n 3, 1) := by decide +kernel
theorem dX0_isHeld_3 : decode cX0_isHeld 3 = .ok (.aload_n 0, 1) := by decide +kernel
theorem dX0_isHeld_4 : decode cX0_isHeld 4 = .ok (.getfield 25, 3) := by decide +kernel
theorem dX0_isHeld_7 : decode cX0_isHeld 7 = .ok (.if_icmp .ge 100, 3) := by decide +kernel
theorem dX0_isHeld_10 : decode cX0_isHeld 10 = .ok (.aload_n 0, 1) := by decide +kernel
theorem dX0_isHeld_11 : decode cX0_isHeld 11 = .ok (.getfield 28, 3) := by decide +kernel
theorem dX0_isHeld_14 : decode cX0_isHeld 14 = .ok (.iload_n 3, 1) := by decide +kernel
theorem dX0_isHeld_15 : decode cX0_isHeld 15 = .ok (.iaload, 1) := by decide +kernel
theorem dX0_isHeld_16 : decode cX0_isHeld 16 = .ok (.iload_n 1, 1) := by decide +kernel
theorem dX0_isHeld_17 : decode cX0_isHeld 17 = .ok (.if_icmp .eq 13, 3) := by decide +kernel
theorem dX0_isHeld_20 : decode cX0_isHeld 20 = .ok (.aload_n 0, 1) := by decide +kernel
theorem dX0_isHeld_21 : decode cX0_isHeld 21 = .ok (.getfield 31, 3) := by decide +kernel
theorem dX0_isHeld_24 : decode cX0_isHeld 24 = .ok (.iload_n 3, 1) := by decide +kernel
theorem dX0_isHeld_25 : decode cX0_isHeld 25 = .ok (.iaload, 1) := by decide +kernel
theorem dX0_isHeld_26 : decode cX0_isHeld 26 = .ok (.iload_n 1, 1) := by decide +kernel
theorem dX0_isHeld_27 : decode cX0_isHeld 27 = .ok (.if_icmp .ne 74, 3) := by decide +kernel
theorem dX0_isHeld_30 : decode cX0_isHeld 30 = .ok (.aload_n 0, 1) := by decide +kernel
theorem dX0_isHeld_31 : decode cX0_isHeld 31 = .ok (.getfield 19, 3) := by decide +kernel
theorem dX0_isHeld_34 : decode cX0_isHeld 34 = .ok (.aload_n 0, 1) := by decide +kernel
theorem dX0_isHeld_35 : decode cX0_isHeld 35 = .ok (.getfield 28, 3) := by decide +kernel
theorem dX0_isHeld_38 : decode cX0_isHeld 38 = .ok (.iload_n 3, 1) := by decide +kernel
theorem dX0_isHeld_39 : decode cX0_isHeld 39 = .ok (.iaload, 1) := by decide +kernel
theorem dX0_isHeld_40 : decode cX0_isHeld 40 = .ok (.iload_n 1, 1) := by decide +kernel
theorem dX0_isHeld_41 : decode cX0_isHeld 41 = .ok (.if_icmp .ne 12, 3) := by decide +kernel
theorem dX0_isHeld_44 : decode cX0_isHeld 44 = .ok (.aload_n 0, 1) := by decide +kernel
theorem dX0_isHeld_45 : decode cX0_isHeld 45 = .ok (.getfield 31, 3) := by decide +kernel
theorem dX0_isHeld_48 : decode cX0_isHeld 48 = .ok (.iload_n 3, 1) := by decide +kernel
theorem dX0_isHeld_49 : decode cX0_isHeld 49 = .ok (.iaload, 1) := by decide +kernel
theorem dX0_isHeld_50 : decode cX0_isHeld 50 = .ok (.goto 9, 3) := by decide +kernel
theorem dX0_isHeld_53 : decode cX0_isHeld 53 = .ok (.aload_n 0, 1) := by decide +kernel
theorem dX0_isHeld_54 : decode cX0_isHeld 54 = .ok (.getfield 28, 3) := by decide +kernel
theorem dX0_isHeld_57 : decode cX0_isHeld 57 = .ok (.iload_n 3, 1) := by decide +kernel
theorem dX0_isHeld_58 : decode cX0_isHeld 58 = .ok (.iaload, 1) := by decide +kernel
theorem dX0_isHeld_59 : decode cX0_isHeld 59 = .ok (.iaload, 1) := by decide +kernel
theorem dX0_isHeld_60 : decode cX0_isHeld 60 = .ok (.istore 4, 2) := by decide +kernel
theorem dX0_isHeld_62 : decode cX0_isHeld 62 = .ok (.iload_n 2, 1) := by decide +kernel
theorem dX0_isHeld_63 : decode cX0_isHeld 63 = .ok (.iload 4, 2) := by decide +kernel
theorem dX0_isHeld_65 : decode cX0_isHeld 65 = .ok (.isub, 1) := by decide +kernel
theorem dX0_isHeld_66 : decode cX0_isHeld 66 = .ok (.invokestatic 70, 3) := by decide +kernel
theorem dX0_isHeld_69 : decode cX0_isHeld 69 = .ok (.istore 5, 2) := by decide +kernel
theorem dX0_isHeld_71 : decode cX0_isHeld 71 = .ok (.iload 5, 2) := by decide +kernel
theorem dX0_isHeld_73 : decode cX0_isHeld 73 = .ok (.aload_n 0, 1) := by decide +kernel
theorem dX0_isHeld_74 : decode cX0_isHeld 74 = .ok (.getfield 34, 3) := by decide +kernel
theorem dX0_isHeld_77 : decode cX0_isHeld 77 = .ok (.iload_n 3, 1) := by decide +kernel
theorem dX0_isHeld_78 : decode cX0_isHeld 78 = .ok (.iaload, 1) := by decide +kernel
theorem dX0_isHeld_79 : decode cX0_isHeld 79 = .ok (.if_icmp .le 22, 3) := by decide +kernel
theorem dX0_isHeld_82 : decode cX0_isHeld 82 = .ok (.iload 5, 2) := by decide +kernel
theorem dX0_isHeld_84 : decode cX0_isHeld 84 = .ok (.aload_n 0, 1) := by decide +kernel
theorem dX0_isHeld_85 : decode cX0_isHeld 85 = .ok (.getfield 19, 3) := by decide +kernel
theorem dX0_isHeld_88 : decode cX0_isHeld 88 = .ok (.iload_n 1, 1) := by decide +kernel
theorem dX0_isHeld_89 : decode cX0_isHeld 89 = .ok (.iaload, 1) := by decide +kernel
theorem dX0_isHeld_90 : decode cX0_isHeld 90 = .ok (.iload 4, 2) := by decide +kernel
theorem dX0_isHeld_92 : decode cX0_isHeld 92 = .ok (.isub, 1) := by decide +kernel
theorem dX0_isHeld_93 : decode cX0_isHeld 93 = .ok (.invokestatic 70, 3) := by decide +kernel
theorem dX0_isHeld_96 : decode cX0_isHeld 96 = .ok (.if_icmp .le 5, 3) := by decide +kernel
theorem dX0_isHeld_99 : decode cX0_isHeld 99 = .ok (.iconst 1, 1) := by decide +kernel
theorem dX0_isHeld_100 : decode cX0_isHeld 100 = .ok (.ireturn, 1) := by decide +kernel
theorem dX0_isHeld_101 : decode cX0_isHeld 101 = .ok (.iinc 3 1, 3) := by decide +kernel
theorem dX0_isHeld_104 : decode cX0_isHeld 104 = .ok (.goto (-102), 3) := by decide +kernel
theorem dX0_isHeld_107 : decode cX0_isHeld 107 = .ok (.iconst 0, 1) := by decide +kernel
theorem dX0_isHeld_108 : decode cX0_isHeld 108 = .ok (.ireturn, 1) := by decide +kernel
theorem dX0_passDay_0 : decode cX0_passDay 0 = .ok (.aload_n 0, 1) := by decide +kernel
theorem dX0_passDay_1 : decode cX0_passDay 1 = .ok (.getfield 40, 3) := by decide +kernel
theorem dX0_passDay_4 : decode cX0_passDay 4 = .ok (.bipush 7, 2) := by decide +kernel
theorem dX0_passDay_6 : decode cX0_passDay 6 = .ok (.irem, 1) := by decide +kernel
theorem dX0_passDay_7 : decode cX0_passDay 7 = .ok (.aload_n 0, 1) := by decide +kernel
theorem dX0_passDay_8 : decode cX0_passDay 8 = .ok (.getfield 37, 3) := by decide +kernel
theorem dX0_passDay_11 : decode cX0_passDay 11 = .ok (.if_icmp .ne 7, 3) := by decide +kernel
theorem dX0_passDay_14 : decode cX0_passDay 14 = .ok (.iconst 1, 1) := by decide +kernel
theorem dX0_passDay_15 : decode cX0_passDay 15 = .ok (.goto 4, 3) := by decide +kernel
theorem dX0_passDay_18 : decode cX0_passDay 18 = .ok (.iconst 0, 1) := by decide +kernel
theorem dX0_passDay_19 : decode cX0_passDay 19 = .ok (.istore_n 1, 1) := by decide +kernel
theorem dX0_passDay_20 : decode cX0_passDay 20 = .ok (.iconst 0, 1) := by decide +kernel
theorem dX0_passDay_21 : decode cX0_passDay 21 = .ok (.istore_n 2, 1) := by decide +kernel
theorem dX0_passDay_22 : decode cX0_passDay 22 = .ok (.iload_n 2, 1) := by decide +kernel
theorem dX0_passDay_23 : decode cX0_passDay 23 = .ok (.aload_n 0, 1) := by decide +kernel
theorem dX0_passDay_24 : decode cX0_passDay 24 = .ok (.getfield 9, 3) := by decide +kernel
theorem dX0_passDay_27 : decode cX0_passDay 27 = .ok (.if_icmp .ge 26, 3) := by decide +kernel
theorem dX0_passDay_30 : decode cX0_passDay 30 = .ok (.iload_n 1, 1) := by decide +kernel
theorem dX0_passDay_31 : decode cX0_passDay 31 = .ok (.ifCond .eq 11, 3) := by decide +kernel
theorem dX0_passDay_34 : decode cX0_passDay 34 = .ok (.aload_n 0, 1) := by decide +kernel
theorem dX0_passDay_35 : decode cX0_passDay 35 = .ok (.iload_n 2, 1) := by decide +kernel
theorem dX0_passDay_36 : decode cX0_passDay 36 = .ok (.invokevirtual 79, 3) := by decide +kernel
theorem dX0_passDay_39 : decode cX0_passDay 39 = .ok (.goto 8, 3) := by decide +kernel
theorem dX0_passDay_42 : decode cX0_passDay 42 = .ok (.aload_n 0, 1) := by decide +kernel
theorem dX0_passDay_43 : decode cX0_passDay 43 = .ok (.iload_n 2, 1) := by decide +kernel
theorem dX0_passDay_44 : decode cX0_passDay 44 = .ok (.invokevirtual 83, 3) := by decide +kernel
theorem dX0_passDay_47 : decode cX0_passDay 47 = .ok (.iinc 2 1, 3) := by decide +kernel
theorem dX0_passDay_50 : decode cX0_passDay 50 = .ok (.goto (-28), 3) := by decide +kernel
theorem dX0_passDay_53 : decode cX0_passDay 53 = .ok (.aload_n 0, 1) := by decide +kernel
theorem dX0_passDay_54 : decode cX0_passDay 54 = .ok (.dup, 1) := by decide +kernel
theorem dX0_passDay_55 : decode cX0_passDay 55 = .ok (.getfield 40, 3) := by decide +kernel
theorem dX0_passDay_58 : decode cX0_passDay 58 = .ok (.iconst 1, 1) := by decide +kernel
theorem dX0_passDay_59 : decode cX0_passDay 59 = .ok (.iadd, 1) := by decide +kernel
theorem dX0_passDay_60 : decode cX0_passDay 60 = .ok (.putfield 40, 3) := by decide +kernel
theorem dX0_passDay_63 : decode cX0_passDay 63 = .ok (.return_, 1) := by decide +kernel
theorem dX0_passDays_0 : decode cX0_passDays 0 = .ok (.iconst 0, 1) := by decide +kernel
theorem dX0_passDays_1 : decode cX0_passDays 1 = .ok (.istore_n 2, 1) := by decide +kernel
theorem dX0_passDays_2 : decode cX0_passDays 2 = .ok (.iload_n 2, 1) := by decide +kernel
theorem dX0_passDays_3 : decode cX0_passDays 3 = .ok (.iload_n 1, 1) := by decide +kernel
theorem dX0_passDays_4 : decode cX0_passDays 4 = .ok (.if_icmp .ge 13, 3) := by decide +kernel
theorem dX0_passDays_7 : decode cX0_passDays 7 = .ok (.aload_n 0, 1) := by decide +kernel
theorem dX0_passDays_8 : decode cX0_passDays 8 = .ok (.invokevirtual 86, 3) := by decide +kernel
theorem dX0_passDays_11 : decode cX0_passDays 11 = .ok (.iinc 2 1, 3) := by decide +kernel
theorem dX0_passDays_14 : decode cX0_passDays 14 = .ok (.goto (-12), 3) := by decide +kernel
theorem dX0_passDays_17 : decode cX0_passDays 17 = .ok (.return_, 1) := by decide +kernel
theorem dX0_spreadBehind_0 : decode cX0_spreadBehind 0 = .ok (.aload_n 0, 1) := by decide +kernel
theorem dX0_spreadBehind_1 : decode cX0_spreadBehind 1 = .ok (.iload_n 1, 1) := by decide +kernel
theorem dX0_spreadBehind_2 : decode cX0_spreadBehind 2 = .ok (.invokevirtual 89, 3) := by decide +kernel
theorem dX0_spreadBehind_5 : decode cX0_spreadBehind 5 = .ok (.aload_n 0, 1) := by decide +kernel
theorem dX0_spreadBehind_6 : decode cX0_spreadBehind 6 = .ok (.invokevirtual 92, 3) := by decide +kernel
theorem dX0_spreadBehind_9 : decode cX0_spreadBehind 9 = .ok (.ireturn, 1) := by decide +kernel
theorem dX0_bumpsIn_0 : decode cX0_bumpsIn 0 = .ok (.aload_n 0, 1) := by decide +kernel
theorem dX0_bumpsIn_1 : decode cX0_bumpsIn 1 = .ok (.getfield 43, 3) := by decide +kernel
theorem dX0_bumpsIn_4 : decode cX0_bumpsIn 4 = .ok (.istore_n 2, 1) := by decide +kernel
theorem dX0_bumpsIn_5 : decode cX0_bumpsIn 5 = .ok (.aload_n 0, 1) := by decide +kernel
theorem dX0_bumpsIn_6 : decode cX0_bumpsIn 6 = .ok (.iload_n 1, 1) := by decide +kernel
theorem dX0_bumpsIn_7 : decode cX0_bumpsIn 7 = .ok (.invokevirtual 89, 3) := by decide +kernel
theorem dX0_bumpsIn_10 : decode cX0_bumpsIn 10 = .ok (.aload_n 0, 1) := by decide +kernel
theorem dX0_bumpsIn_11 : decode cX0_bumpsIn 11 = .ok (.getfield 43, 3) := by decide +kernel
theorem dX0_bumpsIn_14 : decode cX0_bumpsIn 14 = .ok (.iload_n 2, 1) := by decide +kernel
theorem dX0_bumpsIn_15 : decode cX0_bumpsIn 15 = .ok (.isub, 1) := by decide +kernel
theorem dX0_bumpsIn_16 : decode cX0_bumpsIn 16 = .ok (.ireturn, 1) := by decide +kernel
theorem dX0_comeIn_0 : decode cX0_comeIn 0 = .ok (.aload_n 0, 1) := by decide +kernel
theorem dX0_comeIn_1 : decode cX0_comeIn 1 = .ok (.iload_n 1, 1) := by decide +kernel
theorem dX0_comeIn_2 : decode cX0_comeIn 2 = .ok (.invokevirtual 96, 3) := by decide +kernel
theorem dX0_comeIn_5 : decode cX0_comeIn 5 = .ok (.istore_n 2, 1) := by decide +kernel
theorem dX0_comeIn_6 : decode cX0_comeIn 6 = .ok (.iload_n 2, 1) := by decide +kernel
theorem dX0_comeIn_7 : decode cX0_comeIn 7 = .ok (.ifCond .ge 4, 3) := by decide +kernel
theorem dX0_comeIn_10 : decode cX0_comeIn 10 = .ok (.return_, 1) := by decide +kernel
theorem dX0_comeIn_11 : decode cX0_comeIn 11 = .ok (.aload_n 0, 1) := by decide +kernel
theorem dX0_comeIn_12 : decode cX0_comeIn 12 = .ok (.getfield 19, 3) := by decide +kernel
theorem dX0_comeIn_15 : decode cX0_comeIn 15 = .ok (.iload_n 2, 1) := by decide +kernel
theorem dX0_comeIn_16 : decode cX0_comeIn 16 = .ok (.iaload, 1) := by decide +kernel
theorem dX0_comeIn_17 : decode cX0_comeIn 17 = .ok (.aload_n 0, 1) := by decide +kernel
theorem dX0_comeIn_18 : decode cX0_comeIn 18 = .ok (.getfield 19, 3) := by decide +kernel
theorem dX0_comeIn_21 : decode cX0_comeIn 21 = .ok (.iload_n 1, 1) := by decide +kernel
theorem dX0_comeIn_22 : decode cX0_comeIn 22 = .ok (.iaload, 1) := by decide +kernel
theorem dX0_comeIn_23 : decode cX0_comeIn 23 = .ok (.isub, 1) := by decide +kernel
theorem dX0_comeIn_24 : decode cX0_comeIn 24 = .ok (.istore_n 3, 1) := by decide +kernel
theorem dX0_comeIn_25 : decode cX0_comeIn 25 = .ok (.aload_n 0, 1) := by decide +kernel
theorem dX0_comeIn_26 : decode cX0_comeIn 26 = .ok (.getfield 19, 3) := by decide +kernel
theorem dX0_comeIn_29 : decode cX0_comeIn 29 = .ok (.iload_n 1, 1) := by decide +kernel
theorem dX0_comeIn_30 : decode cX0_comeIn 30 = .ok (.iaload, 1) := by decide +kernel
theorem dX0_comeIn_31 : decode cX0_comeIn 31 = .ok (.iload_n 3, 1) := by decide +kernel
theorem dX0_comeIn_32 : decode cX0_comeIn 32 = .ok (.invokestatic 74, 3) := by decide +kernel
theorem dX0_comeIn_35 : decode cX0_comeIn 35 = .ok (.iadd, 1) := by decide +kernel
theorem dX0_comeIn_36 : decode cX0_comeIn 36 = .ok (.istore 4, 2) := by decide +kernel
theorem dX0_comeIn_38 : decode cX0_comeIn 38 = .ok (.iload_n 3, 1) := by decide +kernel
theorem dX0_comeIn_39 : decode cX0_comeIn 39 = .ok (.invokestatic 70, 3) := by decide +kernel
theorem dX0_comeIn_42 : decode cX0_comeIn 42 = .ok (.iconst 1, 1) := by decide +kernel
theorem dX0_comeIn_43 : decode cX0_comeIn 43 = .ok (.if_icmp .le 21, 3) := by decide +kernel
theorem dX0_comeIn_46 : decode cX0_comeIn 46 = .ok (.aload_n 0, 1) := by decide +kernel
theorem dX0_comeIn_47 : decode cX0_comeIn 47 = .ok (.iload_n 1, 1) := by decide +kernel
theorem dX0_comeIn_48 : decode cX0_comeIn 48 = .ok (.iload 4, 2) := by decide +kernel
theorem dX0_comeIn_50 : decode cX0_comeIn 50 = .ok (.invokevirtual 99, 3) := by decide +kernel
theorem dX0_comeIn_53 : decode cX0_comeIn 53 = .ok (.ifCond .ne 11, 3) := by decide +kernel
theorem dX0_comeIn_56 : decode cX0_comeIn 56 = .ok (.aload_n 0, 1) := by decide +kernel
theorem dX0_comeIn_57 : decode cX0_comeIn 57 = .ok (.getfield 19, 3) := by decide +kernel
theorem dX0_comeIn_60 : decode cX0_comeIn 60 = .ok (.iload_n 1, 1) := by decide +kernel
theorem dX0_comeIn_61 : decode cX0_comeIn 61 = .ok (.iload 4, 2) := by decide +kernel
theorem dX0_comeIn_63 : decode cX0_comeIn 63 = .ok (.iastore, 1) := by decide +kernel
theorem dX0_comeIn_64 : decode cX0_comeIn 64 = .ok (.return_, 1) := by decide +kernel
theorem dX0_driftOff_0 : decode cX0_driftOff 0 = .ok (.aload_n 0, 1) := by decide +kernel
theorem dX0_driftOff_1 : decode cX0_driftOff 1 = .ok (.iload_n 1, 1) := by decide +kernel
theorem dX0_driftOff_2 : decode cX0_driftOff 2 = .ok (.invokevirtual 103, 3) := by decide +kernel
theorem dX0_driftOff_5 : decode cX0_driftOff 5 = .ok (.istore_n 2, 1) := by decide +kernel
theorem dX0_driftOff_6 : decode cX0_driftOff 6 = .ok (.iload_n 2, 1) := by decide +kernel
theorem dX0_driftOff_7 : decode cX0_driftOff 7 = .ok (.invokestatic 74, 3) := by decide +kernel
theorem dX0_driftOff_10 : decode cX0_driftOff 10 = .ok (.istore_n 3, 1) := by decide +kernel
theorem dX0_driftOff_11 : decode cX0_driftOff 11 = .ok (.iload_n 2, 1) := by decide +kernel
theorem dX0_driftOff_12 : decode cX0_driftOff 12 = .ok (.invokestatic 70, 3) := by decide +kernel
theorem dX0_driftOff_15 : decode cX0_driftOff 15 = .ok (.istore 4, 2) := by decide +kernel
theorem dX0_driftOff_17 : decode cX0_driftOff 17 = .ok (.iload 4, 2) := by decide +kernel
theorem dX0_driftOff_19 : decode cX0_driftOff 19 = .ok (.ifCond .le 71, 3) := by decide +kernel
theorem dX0_driftOff_22 : decode cX0_driftOff 22 = .ok (.aload_n 0, 1) := by decide +kernel
theorem dX0_driftOff_23 : decode cX0_driftOff 23 = .ok (.getfield 19, 3) := by decide +kernel
theorem dX0_driftOff_26 : decode cX0_driftOff 26 = .ok (.iload_n 1, 1) := by decide +kernel
theorem dX0_driftOff_27 : decode cX0_driftOff 27 = .ok (.iaload, 1) := by decide +kernel
theorem dX0_driftOff_28 : decode cX0_driftOff 28 = .ok (.iload_n 3, 1) := by decide +kernel
theorem dX0_driftOff_29 : decode cX0_driftOff 29 = .ok (.iadd, 1) := by decide +kernel
theorem dX0_driftOff_30 : decode cX0_driftOff 30 = .ok (.istore 5, 2) := by decide +kernel
theorem dX0_driftOff_32 : decode cX0_driftOff 32 = .ok (.iload 5, 2) := by decide +kernel
theorem dX0_driftOff_34 : decode cX0_driftOff 34 = .ok (.ifCond .lt 20, 3) := by decide +kernel
theorem dX0_driftOff_37 : decode cX0_driftOff 37 = .ok (.iload 5, 2) := by decide +kernel
theorem dX0_driftOff_39 : decode cX0_driftOff 39 = .ok (.bipush 99, 2) := by decide +kernel
theorem dX0_driftOff_41 : decode cX0_driftOff 41 = .ok (.if_icmp .gt 13, 3) := by decide +kernel
theorem dX0_driftOff_44 : decode cX0_driftOff 44 = .ok (.aload_n 0, 1) := by decide +kernel
theorem dX0_driftOff_45 : decode cX0_driftOff 45 = .ok (.iload_n 1, 1) := by decide +kernel
theorem dX0_driftOff_46 : decode cX0_driftOff 46 = .ok (.iload 5, 2) := by decide +kernel
theorem dX0_driftOff_48 : decode cX0_driftOff 48 = .ok (.invokevirtual 99, 3) := by decide +kernel
theorem dX0_driftOff_51 : decode cX0_driftOff 51 = .ok (.ifCond .eq 4, 3) := by decide +kernel
theorem dX0_driftOff_54 : decode cX0_driftOff 54 = .ok (.return_, 1) := by decide +kernel
theorem dX0_driftOff_55 : decode cX0_driftOff 55 = .ok (.aload_n 0, 1) := by decide +kernel
theorem dX0_driftOff_56 : decode cX0_driftOff 56 = .ok (.iload 5, 2) := by decide +kernel
theorem dX0_driftOff_58 : decode cX0_driftOff 58 = .ok (.iload_n 1, 1) := by decide +kernel
theorem dX0_driftOff_59 : decode cX0_driftOff 59 = .ok (.invokevirtual 106, 3) := by decide +kernel
theorem dX0_driftOff_62 : decode cX0_driftOff 62 = .ok (.ifCond .eq 14, 3) := by decide +kernel
theorem dX0_driftOff_65 : decode cX0_driftOff 65 = .ok (.aload_n 0, 1) := by decide +kernel
theorem dX0_driftOff_66 : decode cX0_driftOff 66 = .ok (.dup, 1) := by decide +kernel
theorem dX0_driftOff_67 : decode cX0_driftOff 67 = .ok (.getfield 43, 3) := by decide +kernel
theorem dX0_driftOff_70 : decode cX0_driftOff 70 = .ok (.iconst 1, 1) := by decide +kernel
theorem dX0_driftOff_71 : decode cX0_driftOff 71 = .ok (.iadd, 1) := by decide +kernel
theorem dX0_driftOff_72 : decode cX0_driftOff 72 = .ok (.putfield 43, 3) := by decide +kernel
theorem dX0_driftOff_75 : decode cX0_driftOff 75 = .ok (.return_, 1) := by decide +kernel
theorem dX0_driftOff_76 : decode cX0_driftOff 76 = .ok (.aload_n 0, 1) := by decide +kernel
theorem dX0_driftOff_77 : decode cX0_driftOff 77 = .ok (.getfield 19, 3) := by decide +kernel
theorem dX0_driftOff_80 : decode cX0_driftOff 80 = .ok (.iload_n 1, 1) := by decide +kernel
theorem dX0_driftOff_81 : decode cX0_driftOff 81 = .ok (.iload 5, 2) := by decide +kernel
theorem dX0_driftOff_83 : decode cX0_driftOff 83 = .ok (.iastore, 1) := by decide +kernel
theorem dX0_driftOff_84 : decode cX0_driftOff 84 = .ok (.iinc 4 (-1), 3) := by decide +kernel
theorem dX0_driftOff_87 : decode cX0_driftOff 87 = .ok (.goto (-70), 3) := by decide +kernel
theorem dX0_driftOff_90 : decode cX0_driftOff 90 = .ok (.return_, 1) := by decide +kernel
theorem dX1_init_0 : decode cX1_init 0 = .ok (.aload_n 0, 1) := by decide +kernel
theorem dX1_init_1 : decode cX1_init 1 = .ok (.invokespecial 1, 3) := by decide +kernel
theorem dX1_init_4 : decode cX1_init 4 = .ok (.aload_n 0, 1) := by decide +kernel
theorem dX1_init_5 : decode cX1_init 5 = .ok (.iconst 0, 1) := by decide +kernel
theorem dX1_init_6 : decode cX1_init 6 = .ok (.putfield 7, 3) := by decide +kernel
theorem dX1_init_9 : decode cX1_init 9 = .ok (.aload_n 0, 1) := by decide +kernel
theorem dX1_init_10 : decode cX1_init 10 = .ok (.new 13, 3) := by decide +kernel
theorem dX1_init_13 : decode cX1_init 13 = .ok (.dup, 1) := by decide +kernel
theorem dX1_init_14 : decode cX1_init 14 = .ok (.invokespecial 15, 3) := by decide +kernel
theorem dX1_init_17 : decode cX1_init 17 = .ok (.putfield 16, 3) := by decide +kernel
theorem dX1_init_20 : decode cX1_init 20 = .ok (.aload_n 0, 1) := by decide +kernel
theorem dX1_init_21 : decode cX1_init 21 = .ok (.new 20, 3) := by decide +kernel
theorem dX1_init_24 : decode cX1_init 24 = .ok (.dup, 1) := by decide +kernel
theorem dX1_init_25 : decode cX1_init 25 = .ok (.invokespecial 22, 3) := by decide +kernel
theorem dX1_init_28 : decode cX1_init 28 = .ok (.putfield 23, 3) := by decide +kernel
theorem dX1_init_31 : decode cX1_init 31 = .ok (.return_, 1) := by decide +kernel
theorem dX2_init_0 : decode cX2_init 0 = .ok (.aload_n 0, 1) := by decide +kernel
theorem dX2_init_1 : decode cX2_init 1 = .ok (.invokespecial 3, 3) := by decide +kernel
theorem dX2_init_4 : decode cX2_init 4 = .ok (.aload_n 0, 1) := by decide +kernel
theorem dX2_init_5 : decode cX2_init 5 = .ok (.sipush 160, 3) := by decide +kernel
theorem dX2_init_8 : decode cX2_init 8 = .ok (.newarray .byte, 2) := by decide +kernel
theorem dX2_init_10 : decode cX2_init 10 = .ok (.putfield 9, 3) := by decide +kernel
theorem dX2_init_13 : decode cX2_init 13 = .ok (.aload_n 0, 1) := by decide +kernel
theorem dX2_init_14 : decode cX2_init 14 = .ok (.iconst 0, 1) := by decide +kernel
theorem dX2_init_15 : decode cX2_init 15 = .ok (.putfield 15, 3) := by decide +kernel
theorem dX2_init_18 : decode cX2_init 18 = .ok (.aload_n 0, 1) := by decide +kernel
theorem dX2_init_19 : decode cX2_init 19 = .ok (.new 19, 3) := by decide +kernel
theorem dX2_init_22 : decode cX2_init 22 = .ok (.dup, 1) := by decide +kernel
theorem dX2_init_23 : decode cX2_init 23 = .ok (.invokespecial 21, 3) := by decide +kernel
theorem dX2_init_26 : decode cX2_init 26 = .ok (.putfield 22, 3) := by decide +kernel
theorem dX2_init_29 : decode cX2_init 29 = .ok (.aload_n 0, 1) := by decide +kernel
theorem dX2_init_30 : decode cX2_init 30 = .ok (.iconst 0, 1) := by decide +kernel
theorem dX2_init_31 : decode cX2_init 31 = .ok (.putfield 26, 3) := by decide +kernel
theorem dX2_init_34 : decode cX2_init 34 = .ok (.aload_n 0, 1) := by decide +kernel
theorem dX2_init_35 : decode cX2_init 35 = .ok (.iconst 0, 1) := by decide +kernel
theorem dX2_init_36 : decode cX2_init 36 = .ok (.putfield 29, 3) := by decide +kernel
theorem dX2_init_39 : decode cX2_init 39 = .ok (.aload_n 0, 1) := by decide +kernel
theorem dX2_init_40 : decode cX2_init 40 = .ok (.iconst 0, 1) := by decide +kernel
theorem dX2_init_41 : decode cX2_init 41 = .ok (.putfield 32, 3) := by decide +kernel
theorem dX2_init_44 : decode cX2_init 44 = .ok (.aload_n 0, 1) := by decide +kernel
theorem dX2_init_45 : decode cX2_init 45 = .ok (.bipush 25, 2) := by decide +kernel
theorem dX2_init_47 : decode cX2_init 47 = .ok (.newarray .boolean, 2) := by decide +kernel
theorem dX2_init_49 : decode cX2_init 49 = .ok (.putfield 35, 3) := by decide +kernel
theorem dX2_init_52 : decode cX2_init 52 = .ok (.aload_n 0, 1) := by decide +kernel
theorem dX2_init_53 : decode cX2_init 53 = .ok (.iconst 0, 1) := by decide +kernel
theorem dX2_init_54 : decode cX2_init 54 = .ok (.putfield 39, 3) := by decide +kernel
theorem dX2_init_57 : decode cX2_init 57 = .ok (.aload_n 0, 1) := by decide +kernel
theorem dX2_init_58 : decode cX2_init 58 = .ok (.iconst (-1), 1) := by decide +kernel
theorem dX2_init_59 : decode cX2_init 59 = .ok (.putfield 43, 3) := by decide +kernel
theorem dX2_init_62 : decode cX2_init 62 = .ok (.aload_n 0, 1) := by decide +kernel
theorem dX2_init_63 : decode cX2_init 63 = .ok (.iconst 0, 1) := by decide +kernel
theorem dX2_init_64 : decode cX2_init 64 = .ok (.putfield 46, 3) := by decide +kernel
theorem dX2_init_67 : decode cX2_init 67 = .ok (.aload_n 0, 1) := by decide +kernel
theorem dX2_init_68 : decode cX2_init 68 = .ok (.iconst 0, 1) := by decide +kernel
theorem dX2_init_69 : decode cX2_init 69 = .ok (.putfield 49, 3) := by decide +kernel
theorem dX2_init_72 : decode cX2_init 72 = .ok (.aload_n 0, 1) := by decide +kernel
theorem dX2_init_73 : decode cX2_init 73 = .ok (.iconst 0, 1) := by decide +kernel
theorem dX2_init_74 : decode cX2_init 74 = .ok (.putfield 52, 3) := by decide +kernel
theorem dX2_init_77 : decode cX2_init 77 = .ok (.aload_n 0, 1) := by decide +kernel
theorem dX2_init_78 : decode cX2_init 78 = .ok (.iconst 0, 1) := by decide +kernel
theorem dX2_init_79 : decode cX2_init 79 = .ok (.putfield 55, 3) := by decide +kernel
theorem dX2_init_82 : decode cX2_init 82 = .ok (.aload_n 0, 1) := by decide +kernel
theorem dX2_init_83 : decode cX2_init 83 = .ok (.iconst 0, 1) := by decide +kernel
theorem dX2_init_84 : decode cX2_init 84 = .ok (.putfield 58, 3) := by decide +kernel
theorem dX2_init_87 : decode cX2_init 87 = .ok (.aload_n 0, 1) := by decide +kernel
theorem dX2_init_88 : decode cX2_init 88 = .ok (.iconst 0, 1) := by decide +kernel
theorem dX2_init_89 : decode cX2_init 89 = .ok (.putfield 61, 3) := by decide +kernel
theorem dX2_init_92 : decode cX2_init 92 = .ok (.return_, 1) := by decide +kernel
theorem dX2_takeText_0 : decode cX2_takeText 0 = .ok (.aload_n 0, 1) := by decide +kernel
theorem dX2_takeText_1 : decode cX2_takeText 1 = .ok (.invokevirtual 64, 3) := by decide +kernel
theorem dX2_takeText_4 : decode cX2_takeText 4 = .ok (.iconst 0, 1) := by decide +kernel
theorem dX2_takeText_5 : decode cX2_takeText 5 = .ok (.istore_n 1, 1) := by decide +kernel
theorem dX2_takeText_6 : decode cX2_takeText 6 = .ok (.iload_n 1, 1) := by decide +kernel
theorem dX2_takeText_7 : decode cX2_takeText 7 = .ok (.sipush 160, 3) := by decide +kernel
theorem dX2_takeText_10 : decode cX2_takeText 10 = .ok (.if_icmp .gt 90, 3) := by decide +kernel
theorem dX2_takeText_13 : decode cX2_takeText 13 = .ok (.aload_n 0, 1) := by decide +kernel
theorem dX2_takeText_14 : decode cX2_takeText 14 = .ok (.invokevirtual 67, 3) := by decide +kernel
theorem dX2_takeText_17 : decode cX2_takeText 17 = .ok (.ifCond .ne 5, 3) := by decide +kernel
theorem dX2_takeText_20 : decode cX2_takeText 20 = .ok (.iconst 0, 1) := by decide +kernel
theorem dX2_takeText_21 : decode cX2_takeText 21 = .ok (.ireturn, 1) := by decide +kernel
theorem dX2_takeText_22 : decode cX2_takeText 22 = .ok (.aload_n 0, 1) := by decide +kernel
theorem dX2_takeText_23 : decode cX2_takeText 23 = .ok (.getfield 49, 3) := by decide +kernel
theorem dX2_takeText_26 : decode cX2_takeText 26 = .ok (.ifCond .ne 32, 3) := by decide +kernel
theorem dX2_takeText_29 : decode cX2_takeText 29 = .ok (.aload_n 0, 1) := by decide +kernel
theorem dX2_takeText_30 : decode cX2_takeText 30 = .ok (.getfield 43, 3) := by decide +kernel
theorem dX2_takeText_33 : decode cX2_takeText 33 = .ok (.aload_n 0, 1) := by decide +kernel
theorem dX2_takeText_34 : decode cX2_takeText 34 = .ok (.getfield 22, 3) := by decide +kernel
theorem dX2_takeText_37 : decode cX2_takeText 37 = .ok (.getfield 71, 3) := by decide +kernel
theorem dX2_takeText_40 : decode cX2_takeText 40 = .ok (.if_icmp .lt 12, 3) := by decide +kernel
theorem dX2_takeText_43 : decode cX2_takeText 43 = .ok (.aload_n 0, 1) := by decide +kernel
theorem dX2_takeText_44 : decode cX2_takeText 44 = .ok (.bipush 6, 2) := by decide +kernel
theorem dX2_takeText_46 : decode cX2_takeText 46 = .ok (.invokevirtual 74, 3) := by decide +kernel
theorem dX2_takeText_49 : decode cX2_takeText 49 = .ok (.ifCond .eq 7, 3) := by decide +kernel
theorem dX2_takeText_52 : decode cX2_takeText 52 = .ok (.iconst 1, 1) := by decide +kernel
theorem dX2_takeText_53 : decode cX2_takeText 53 = .ok (.goto 4, 3) := by decide +kernel
theorem dX2_takeText_56 : decode cX2_takeText 56 = .ok (.iconst 0, 1) := by decide +kernel
theorem dX2_takeText_57 : decode cX2_takeText 57 = .ok (.ireturn, 1) := by decide +kernel
theorem dX2_takeText_58 : decode cX2_takeText 58 = .ok (.aload_n 0, 1) := by decide +kernel
theorem dX2_takeText_59 : decode cX2_takeText 59 = .ok (.aload_n 0, 1) := by decide +kernel
theorem dX2_takeText_60 : decode cX2_takeText 60 = .ok (.getfield 49, 3) := by decide +kernel
theorem dX2_takeText_63 : decode cX2_takeText 63 = .ok (.iconst 1, 1) := by decide +kernel
theorem dX2_takeText_64 : decode cX2_takeText 64 = .ok (.if_icmp .ne 10, 3) := by decide +kernel
theorem dX2_takeText_67 : decode cX2_takeText 67 = .ok (.aload_n 0, 1) := by decide +kernel
theorem dX2_takeText_68 : decode cX2_takeText 68 = .ok (.invokevirtual 78, 3) := by decide +kernel
theorem dX2_takeText_71 : decode cX2_takeText 71 = .ok (.goto 5, 3) := by decide +kernel
theorem dX2_takeText_74 : decode cX2_takeText 74 = .ok (.bipush (-4), 2) := by decide +kernel
theorem dX2_takeText_76 : decode cX2_takeText 76 = .ok (.invokevirtual 82, 3) := by decide +kernel
theorem dX2_takeText_79 : decode cX2_takeText 79 = .ok (.ifCond .ne 5, 3) := by decide +kernel
theorem dX2_takeText_82 : decode cX2_takeText 82 = .ok (.iconst 0, 1) := by decide +kernel
theorem dX2_takeText_83 : decode cX2_takeText 83 = .ok (.ireturn, 1) := by decide +kernel
theorem dX2_takeText_84 : decode cX2_takeText 84 = .ok (.aload_n 0, 1) := by decide +kernel
theorem dX2_takeText_85 : decode cX2_takeText 85 = .ok (.dup, 1) := by decide +kernel
theorem dX2_takeText_86 : decode cX2_takeText 86 = .ok (.getfield 26, 3) := by decide +kernel
theorem dX2_takeText_89 : decode cX2_takeText 89 = .ok (.iconst 1, 1) := by decide +kernel
theorem dX2_takeText_90 : decode cX2_takeText 90 = .ok (.iadd, 1) := by decide +kernel
theorem dX2_takeText_91 : decode cX2_takeText 91 = .ok (.putfield 26, 3) := by decide +kernel
theorem dX2_takeText_94 : decode cX2_takeText 94 = .ok (.iinc 1 1, 3) := by decide +kernel
theorem dX2_takeText_97 : decode cX2_takeText 97 = .ok (.goto (-91), 3) := by decide +kernel
theorem dX2_takeText_100 : decode cX2_takeText 100 = .ok (.aload_n 0, 1) := by decide +kernel
theorem dX2_takeText_101 : decode cX2_takeText 101 = .ok (.iconst 2, 1) := by decide +kernel
theorem dX2_takeText_102 : decode cX2_takeText 102 = .ok (.invokevirtual 74, 3) := by decide +kernel
theorem dX2_takeText_105 : decode cX2_takeText 105 = .ok (.ireturn, 1) := by decide +kernel
theorem dX2_startOver_0 : decode cX2_startOver 0 = .ok (.aload_n 0, 1) := by decide +kernel
theorem dX2_startOver_1 : decode cX2_startOver 1 = .ok (.getfield 22, 3) := by decide +kernel
theorem dX2_startOver_4 : decode cX2_startOver 4 = .ok (.invokevirtual 85, 3) := by decide +kernel
theorem dX2_startOver_7 : decode cX2_startOver 7 = .ok (.aload_n 0, 1) := by decide +kernel
theorem dX2_startOver_8 : decode cX2_startOver 8 = .ok (.iconst 0, 1) := by decide +kernel
theorem dX2_startOver_9 : decode cX2_startOver 9 = .ok (.putfield 26, 3) := by decide +kernel
theorem dX2_startOver_12 : decode cX2_startOver 12 = .ok (.aload_n 0, 1) := by decide +kernel
theorem dX2_startOver_13 : decode cX2_startOver 13 = .ok (.iconst 0, 1) := by decide +kernel
theorem dX2_startOver_14 : decode cX2_startOver 14 = .ok (.putfield 29, 3) := by decide +kernel
theorem dX2_startOver_17 : decode cX2_startOver 17 = .ok (.aload_n 0, 1) := by decide +kernel
theorem dX2_startOver_18 : decode cX2_startOver 18 = .ok (.iconst 0, 1) := by decide +kernel
theorem dX2_startOver_19 : decode cX2_startOver 19 = .ok (.putfield 32, 3) := by decide +kernel
theorem dX2_startOver_22 : decode cX2_startOver 22 = .ok (.iconst 0, 1) := by decide +kernel
theorem dX2_startOver_23 : decode cX2_startOver 23 = .ok (.istore_n 1, 1) := by decide +kernel
theorem dX2_startOver_24 : decode cX2_startOver 24 = .ok (.iload_n 1, 1) := by decide +kernel
theorem dX2_startOver_25 : decode cX2_startOver 25 = .ok (.aload_n 0, 1) := by decide +kernel
theorem dX2_startOver_26 : decode cX2_startOver 26 = .ok (.getfield 35, 3) := by decide +kernel
theorem dX2_startOver_29 : decode cX2_startOver 29 = .ok (.arraylength, 1) := by decide +kernel
theorem dX2_startOver_30 : decode cX2_startOver 30 = .ok (.if_icmp .ge 16, 3) := by decide +kernel
theorem dX2_startOver_33 : decode cX2_startOver 33 = .ok (.aload_n 0, 1) := by decide +kernel
theorem dX2_startOver_34 : decode cX2_startOver 34 = .ok (.getfield 35, 3) := by decide +kernel
theorem dX2_startOver_37 : decode cX2_startOver 37 = .ok (.iload_n 1, 1) := by decide +kernel
theorem dX2_startOver_38 : decode cX2_startOver 38 = .ok (.iconst 0, 1) := by decide +kernel
theorem dX2_startOver_39 : decode cX2_startOver 39 = .ok (.bastore, 1) := by decide +kernel
theorem dX2_startOver_40 : decode cX2_startOver 40 = .ok (.iinc 1 1, 3) := by decide +kernel
theorem dX2_startOver_43 : decode cX2_startOver 43 = .ok (.goto (-19), 3) := by decide +kernel
theorem dX2_startOver_46 : decode cX2_startOver 46 = .ok (.aload_n 0, 1) := by decide +kernel
theorem dX2_startOver_47 : decode cX2_startOver 47 = .ok (.iconst 0, 1) := by decide +kernel
theorem dX2_startOver_48 : decode cX2_startOver 48 = .ok (.putfield 39, 3) := by decide +kernel
theorem dX2_startOver_51 : decode cX2_startOver 51 = .ok (.aload_n 0, 1) := by decide +kernel
theorem dX2_startOver_52 : decode cX2_startOver 52 = .ok (.iconst (-1), 1) := by decide +kernel
theorem dX2_startOver_53 : decode cX2_startOver 53 = .ok (.putfield 43, 3) := by decide +kernel
theorem dX2_startOver_56 : decode cX2_startOver 56 = .ok (.aload_n 0, 1) := by decide +kernel
theorem dX2_startOver_57 : decode cX2_startOver 57 = .ok (.iconst 0, 1) := by decide +kernel
theorem dX2_startOver_58 : decode cX2_startOver 58 = .ok (.putfield 46, 3) := by decide +kernel
theorem dX2_startOver_61 : decode cX2_startOver 61 = .ok (.return_, 1) := by decide +kernel
theorem dX2_fail_0 : decode cX2_fail 0 = .ok (.aload_n 0, 1) := by decide +kernel
theorem dX2_fail_1 : decode cX2_fail 1 = .ok (.iload_n 1, 1) := by decide +kernel
theorem dX2_fail_2 : decode cX2_fail 2 = .ok (.putfield 29, 3) := by decide +kernel
theorem dX2_fail_5 : decode cX2_fail 5 = .ok (.aload_n 0, 1) := by decide +kernel
theorem dX2_fail_6 : decode cX2_fail 6 = .ok (.aload_n 0, 1) := by decide +kernel
theorem dX2_fail_7 : decode cX2_fail 7 = .ok (.getfield 52, 3) := by decide +kernel
theorem dX2_fail_10 : decode cX2_fail 10 = .ok (.putfield 32, 3) := by decide +kernel
theorem dX2_fail_13 : decode cX2_fail 13 = .ok (.iconst 0, 1) := by decide +kernel
theorem dX2_fail_14 : decode cX2_fail 14 = .ok (.ireturn, 1) := by decide +kernel
theorem dX2_lineNamed_0 : decode cX2_lineNamed 0 = .ok (.aload_n 0, 1) := by decide +kernel
theorem dX2_lineNamed_1 : decode cX2_lineNamed 1 = .ok (.ldc 88, 2) := by decide +kernel
theorem dX2_lineNamed_3 : decode cX2_lineNamed 3 = .ok (.invokevirtual 90, 3) := by decide +kernel
theorem dX2_lineNamed_6 : decode cX2_lineNamed 6 = .ok (.ifCond .eq 5, 3) := by decide +kernel
theorem dX2_lineNamed_9 : decode cX2_lineNamed 9 = .ok (.iconst 0, 1) := by decide +kernel
theorem dX2_lineNamed_10 : decode cX2_lineNamed 10 = .ok (.ireturn, 1) := by decide +kernel
theorem dX2_lineNamed_11 : decode cX2_lineNamed 11 = .ok (.aload_n 0, 1) := by decide +kernel
theorem dX2_lineNamed_12 : decode cX2_lineNamed 12 = .ok (.ldc 94, 2) := by decide +kernel
theorem dX2_lineNamed_14 : decode cX2_lineNamed 14 = .ok (.invokevirtual 90, 3) := by decide +kernel
theorem dX2_lineNamed_17 : decode cX2_lineNamed 17 = .ok (.ifCond .eq 5, 3) := by decide +kernel
theorem dX2_lineNamed_20 : decode cX2_lineNamed 20 = .ok (.iconst 1, 1) := by decide +kernel
theorem dX2_lineNamed_21 : decode cX2_lineNamed 21 = .ok (.ireturn, 1) := by decide +kernel
theorem dX2_lineNamed_22 : decode cX2_lineNamed 22 = .ok (.aload_n 0, 1) := by decide +kernel
theorem dX2_lineNamed_23 : decode cX2_lineNamed 23 = .ok (.ldc 96, 2) := by decide +kernel
theorem dX2_lineNamed_25 : decode cX2_lineNamed 25 = .ok (.invokevirtual 90, 3) := by decide +kernel
theorem dX2_lineNamed_28 : decode cX2_lineNamed 28 = .ok (.ifCond .eq 5, 3) := by decide +kernel
theorem dX2_lineNamed_31 : decode cX2_lineNamed 31 = .ok (.iconst 2, 1) := by decide +kernel
theorem dX2_lineNamed_32 : decode cX2_lineNamed 32 = .ok (.ireturn, 1) := by decide +kernel
theorem dX2_lineNamed_33 : decode cX2_lineNamed 33 = .ok (.aload_n 0, 1) := by decide +kernel
theorem dX2_lineNamed_34 : decode cX2_lineNamed 34 = .ok (.ldc 98, 2) := by decide +kernel
theorem dX2_lineNamed_36 : decode cX2_lineNamed 36 = .ok (.invokevirtual 90, 3) := by decide +kernel
theorem dX2_lineNamed_39 : decode cX2_lineNamed 39 = .ok (.ifCond .eq 5, 3) := by decide +kernel
theorem dX2_lineNamed_42 : decode cX2_lineNamed 42 = .ok (.iconst 3, 1) := by decide +kernel
theorem dX2_lineNamed_43 : decode cX2_lineNamed 43 = .ok (.ireturn, 1) := by decide +kernel
theorem dX2_lineNamed_44 : decode cX2_lineNamed 44 = .ok (.aload_n 0, 1) := by decide +kernel
theorem dX2_lineNamed_45 : decode cX2_lineNamed 45 = .ok (.ldc 100, 2) := by decide +kernel
theorem dX2_lineNamed_47 : decode cX2_lineNamed 47 = .ok (.invokevirtual 90, 3) := by decide +kernel
theorem dX2_lineNamed_50 : decode cX2_lineNamed 50 = .ok (.ifCond .eq 6, 3) := by decide +kernel
theorem dX2_lineNamed_53 : decode cX2_lineNamed 53 = .ok (.bipush 10, 2) := by decide +kernel
theorem dX2_lineNamed_55 : decode cX2_lineNamed 55 = .ok (.ireturn, 1) := by decide +kernel
theorem dX2_lineNamed_56 : decode cX2_lineNamed 56 = .ok (.aload_n 0, 1) := by decide +kernel
theorem dX2_lineNamed_57 : decode cX2_lineNamed 57 = .ok (.ldc 102, 2) := by decide +kernel
theorem dX2_lineNamed_59 : decode cX2_lineNamed 59 = .ok (.invokevirtual 90, 3) := by decide +kernel
theorem dX2_lineNamed_62 : decode cX2_lineNamed 62 = .ok (.ifCond .eq 6, 3) := by decide +kernel
theorem dX2_lineNamed_65 : decode cX2_lineNamed 65 = .ok (.bipush 11, 2) := by decide +kernel
theorem dX2_lineNamed_67 : decode cX2_lineNamed 67 = .ok (.ireturn, 1) := by decide +kernel
theorem dX2_lineNamed_68 : decode cX2_lineNamed 68 = .ok (.aload_n 0, 1) := by decide +kernel
theorem dX2_lineNamed_69 : decode cX2_lineNamed 69 = .ok (.ldc 104, 2) := by decide +kernel
theorem dX2_lineNamed_71 : decode cX2_lineNamed 71 = .ok (.invokevirtual 90, 3) := by decide +kernel
theorem dX2_lineNamed_74 : decode cX2_lineNamed 74 = .ok (.ifCond .eq 8, 3) := by decide +kernel
theorem dX2_lineNamed_77 : decode cX2_lineNamed 77 = .ok (.bipush 12, 2) := by decide +kernel
theorem dX2_lineNamed_79 : decode cX2_lineNamed 79 = .ok (.goto 5, 3) := by decide +kernel
theorem dX2_lineNamed_82 : decode cX2_lineNamed 82 = .ok (.bipush (-4), 2) := by decide +kernel
theorem dX2_lineNamed_84 : decode cX2_lineNamed 84 = .ok (.ireturn, 1) := by decide +kernel
theorem dX2_isNamed_0 : decode cX2_isNamed 0 = .ok (.aload_n 0, 1) := by decide +kernel
theorem dX2_isNamed_1 : decode cX2_isNamed 1 = .ok (.getfield 46, 3) := by decide +kernel
theorem dX2_isNamed_4 : decode cX2_isNamed 4 = .ok (.aload_n 0, 1) := by decide +kernel
theorem dX2_isNamed_5 : decode cX2_isNamed 5 = .ok (.getfield 52, 3) := by decide +kernel
theorem dX2_isNamed_8 : decode cX2_isNamed 8 = .ok (.isub, 1) := by decide +kernel
theorem dX2_isNamed_9 : decode cX2_isNamed 9 = .ok (.aload_n 1, 1) := by decide +kernel
theorem dX2_isNamed_10 : decode cX2_isNamed 10 = .ok (.invokevirtual 106, 3) := by decide +kernel
theorem dX2_isNamed_13 : decode cX2_isNamed 13 = .ok (.if_icmp .eq 5, 3) := by decide +kernel
theorem dX2_isNamed_16 : decode cX2_isNamed 16 = .ok (.iconst 0, 1) := by decide +kernel
theorem dX2_isNamed_17 : decode cX2_isNamed 17 = .ok (.ireturn, 1) := by decide +kernel
theorem dX2_isNamed_18 : decode cX2_isNamed 18 = .ok (.iconst 0, 1) := by decide +kernel
theorem dX2_isNamed_19 : decode cX2_isNamed 19 = .ok (.istore_n 2, 1) := by decide +kernel
theorem dX2_isNamed_20 : decode cX2_isNamed 20 = .ok (.iload_n 2, 1) := by decide +kernel
theorem dX2_isNamed_21 : decode cX2_isNamed 21 = .ok (.aload_n 1, 1) := by decide +kernel
theorem dX2_isNamed_22 : decode cX2_isNamed 22 = .ok (.invokevirtual 106, 3) := by decide +kernel
theorem dX2_isNamed_25 : decode cX2_isNamed 25 = .ok (.if_icmp .ge 30, 3) := by decide +kernel
theorem dX2_isNamed_28 : decode cX2_isNamed 28 = .ok (.aload_n 0, 1) := by decide +kernel
theorem dX2_isNamed_29 : decode cX2_isNamed 29 = .ok (.getfield 9, 3) := by decide +kernel
theorem dX2_isNamed_32 : decode cX2_isNamed 32 = .ok (.aload_n 0, 1) := by decide +kernel
theorem dX2_isNamed_33 : decode cX2_isNamed 33 = .ok (.getfield 52, 3) := by decide +kernel
theorem dX2_isNamed_36 : decode cX2_isNamed 36 = .ok (.iload_n 2, 1) := by decide +kernel
theorem dX2_isNamed_37 : decode cX2_isNamed 37 = .ok (.iadd, 1) := by decide +kernel
theorem dX2_isNamed_38 : decode cX2_isNamed 38 = .ok (.baload, 1) := by decide +kernel
theorem dX2_isNamed_39 : decode cX2_isNamed 39 = .ok (.aload_n 1, 1) := by decide +kernel
theorem dX2_isNamed_40 : decode cX2_isNamed 40 = .ok (.iload_n 2, 1) := by decide +kernel
theorem dX2_isNamed_41 : decode cX2_isNamed 41 = .ok (.invokevirtual 110, 3) := by decide +kernel
theorem dX2_isNamed_44 : decode cX2_isNamed 44 = .ok (.if_icmp .eq 5, 3) := by decide +kernel
theorem dX2_isNamed_47 : decode cX2_isNamed 47 = .ok (.iconst 0, 1) := by decide +kernel
theorem dX2_isNamed_48 : decode cX2_isNamed 48 = .ok (.ireturn, 1) := by decide +kernel
theorem dX2_isNamed_49 : decode cX2_isNamed 49 = .ok (.iinc 2 1, 3) := by decide +kernel
theorem dX2_isNamed_52 : decode cX2_isNamed 52 = .ok (.goto (-32), 3) := by decide +kernel
theorem dX2_isNamed_55 : decode cX2_isNamed 55 = .ok (.iconst 1, 1) := by decide +kernel
theorem dX2_isNamed_56 : decode cX2_isNamed 56 = .ok (.ireturn, 1) := by decide +kernel
theorem dX2_takeLine_0 : decode cX2_takeLine 0 = .ok (.iload_n 1, 1) := by decide +kernel
theorem dX2_takeLine_1 : decode cX2_takeLine 1 = .ok (.lookupswitch 129 #[(-4, 43), (10, 49), (11, 69), (12, 109)], 43) := by decide +kernel
theorem dX2_takeLine_44 : decode cX2_takeLine 44 = .ok (.aload_n 0, 1) := by decide +kernel
theorem dX2_takeLine_45 : decode cX2_takeLine 45 = .ok (.iconst 2, 1) := by decide +kernel
theorem dX2_takeLine_46 : decode cX2_takeLine 46 = .ok (.invokevirtual 74, 3) := by decide +kernel
theorem dX2_takeLine_49 : decode cX2_takeLine 49 = .ok (.ireturn, 1) := by decide +kernel
theorem dX2_takeLine_50 : decode cX2_takeLine 50 = .ok (.aload_n 0, 1) := by decide +kernel
theorem dX2_takeLine_51 : decode cX2_takeLine 51 = .ok (.invokevirtual 114, 3) := by decide +kernel
theorem dX2_takeLine_54 : decode cX2_takeLine 54 = .ok (.ifCond .eq 14, 3) := by decide +kernel
theorem dX2_takeLine_57 : decode cX2_takeLine 57 = .ok (.aload_n 0, 1) := by decide +kernel
theorem dX2_takeLine_58 : decode cX2_takeLine 58 = .ok (.invokevirtual 117, 3) := by decide +kernel
theorem dX2_takeLine_61 : decode cX2_takeLine 61 = .ok (.ifCond .eq 7, 3) := by decide +kernel
theorem dX2_takeLine_64 : decode cX2_takeLine 64 = .ok (.iconst 1, 1) := by decide +kernel
theorem dX2_takeLine_65 : decode cX2_takeLine 65 = .ok (.goto 4, 3) := by decide +kernel
theorem dX2_takeLine_68 : decode cX2_takeLine 68 = .ok (.iconst 0, 1) := by decide +kernel
theorem dX2_takeLine_69 : decode cX2_takeLine 69 = .ok (.ireturn, 1) := by decide +kernel
theorem dX2_takeLine_70 : decode cX2_takeLine 70 = .ok (.aload_n 0, 1) := by decide +kernel
theorem dX2_takeLine_71 : decode cX2_takeLine 71 = .ok (.getfield 22, 3) := by decide +kernel
theorem dX2_takeLine_74 : decode cX2_takeLine 74 = .ok (.getfield 120, 3) := by decide +kernel
theorem dX2_takeLine_77 : decode cX2_takeLine 77 = .ok (.bipush 6, 2) := by decide +kernel
theorem dX2_takeLine_79 : decode cX2_takeLine 79 = .ok (.if_icmp .ge 25, 3) := by decide +kernel
theorem dX2_takeLine_82 : decode cX2_takeLine 82 = .ok (.aload_n 0, 1) := by decide +kernel
theorem dX2_takeLine_83 : decode cX2_takeLine 83 = .ok (.invokevirtual 114, 3) := by decide +kernel
theorem dX2_takeLine_86 : decode cX2_takeLine 86 = .ok (.ifCond .eq 14, 3) := by decide +kernel
theorem dX2_takeLine_89 : decode cX2_takeLine 89 = .ok (.aload_n 0, 1) := by decide +kernel
theorem dX2_takeLine_90 : decode cX2_takeLine 90 = .ok (.invokevirtual 123, 3) := by decide +kernel
theorem dX2_takeLine_93 : decode cX2_takeLine 93 = .ok (.ifCond .eq 7, 3) := by decide +kernel
theorem dX2_takeLine_96 : decode cX2_takeLine 96 = .ok (.iconst 1, 1) := by decide +kernel
theorem dX2_takeLine_97 : decode cX2_takeLine 97 = .ok (.goto 12, 3) := by decide +kernel
theorem dX2_takeLine_100 : decode cX2_takeLine 100 = .ok (.iconst 0, 1) := by decide +kernel
theorem dX2_takeLine_101 : decode cX2_takeLine 101 = .ok (.goto 8, 3) := by decide +kernel
theorem dX2_takeLine_104 : decode cX2_takeLine 104 = .ok (.aload_n 0, 1) := by decide +kernel
theorem dX2_takeLine_105 : decode cX2_takeLine 105 = .ok (.iconst 5, 1) := by decide +kernel
theorem dX2_takeLine_106 : decode cX2_takeLine 106 = .ok (.invokevirtual 74, 3) := by decide +kernel
theorem dX2_takeLine_109 : decode cX2_takeLine 109 = .ok (.ireturn, 1) := by decide +kernel
theorem dX2_takeLine_110 : decode cX2_takeLine 110 = .ok (.aload_n 0, 1) := by decide +kernel
theorem dX2_takeLine_111 : decode cX2_takeLine 111 = .ok (.getfield 39, 3) := by decide +kernel
theorem dX2_takeLine_114 : decode cX2_takeLine 114 = .ok (.ifCond .eq 11, 3) := by decide +kernel
theorem dX2_takeLine_117 : decode cX2_takeLine 117 = .ok (.aload_n 0, 1) := by decide +kernel
theorem dX2_takeLine_118 : decode cX2_takeLine 118 = .ok (.iconst 4, 1) := by decide +kernel
theorem dX2_takeLine_119 : decode cX2_takeLine 119 = .ok (.invokevirtual 74, 3) := by decide +kernel
theorem dX2_takeLine_122 : decode cX2_takeLine 122 = .ok (.goto 7, 3) := by decide +kernel
theorem dX2_takeLine_125 : decode cX2_takeLine 125 = .ok (.aload_n 0, 1) := by decide +kernel
theorem dX2_takeLine_126 : decode cX2_takeLine 126 = .ok (.invokevirtual 126, 3) := by decide +kernel
theorem dX2_takeLine_129 : decode cX2_takeLine 129 = .ok (.ireturn, 1) := by decide +kernel
theorem dX2_takeLine_130 : decode cX2_takeLine 130 = .ok (.aload_n 0, 1) := by decide +kernel
theorem dX2_takeLine_131 : decode cX2_takeLine 131 = .ok (.getfield 22, 3) := by decide +kernel
theorem dX2_takeLine_134 : decode cX2_takeLine 134 = .ok (.getfield 71, 3) := by decide +kernel
theorem dX2_takeLine_137 : decode cX2_takeLine 137 = .ok (.iconst 5, 1) := by decide +kernel
theorem dX2_takeLine_138 : decode cX2_takeLine 138 = .ok (.if_icmp .ge 11, 3) := by decide +kernel
theorem dX2_takeLine_141 : decode cX2_takeLine 141 = .ok (.aload_n 0, 1) := by decide +kernel
theorem dX2_takeLine_142 : decode cX2_takeLine 142 = .ok (.iload_n 1, 1) := by decide +kernel
theorem dX2_takeLine_143 : decode cX2_takeLine 143 = .ok (.invokevirtual 129, 3) := by decide +kernel
theorem dX2_takeLine_146 : decode cX2_takeLine 146 = .ok (.goto 8, 3) := by decide +kernel
theorem dX2_takeLine_149 : decode cX2_takeLine 149 = .ok (.aload_n 0, 1) := by decide +kernel
theorem dX2_takeLine_150 : decode cX2_takeLine 150 = .ok (.iconst 5, 1) := by decide +kernel
theorem dX2_takeLine_151 : decode cX2_takeLine 151 = .ok (.invokevirtual 74, 3) := by decide +kernel
theorem dX2_takeLine_154 : decode cX2_takeLine 154 = .ok (.ireturn, 1) := by decide +kernel
theorem dX2_takeIsle_0 : decode cX2_takeIsle 0 = .ok (.aload_n 0, 1) := by decide +kernel
theorem dX2_takeIsle_1 : decode cX2_takeIsle 1 = .ok (.iconst 0, 1) := by decide +kernel
theorem dX2_takeIsle_2 : decode cX2_takeIsle 2 = .ok (.bipush 99, 2) := by decide +kernel
theorem dX2_takeIsle_4 : decode cX2_takeIsle 4 = .ok (.invokevirtual 132, 3) := by decide +kernel
theorem dX2_takeIsle_7 : decode cX2_takeIsle 7 = .ok (.ifCond .ne 5, 3) := by decide +kernel
theorem dX2_takeIsle_10 : decode cX2_takeIsle 10 = .ok (.iconst 0, 1) := by decide +kernel
theorem dX2_takeIsle_11 : decode cX2_takeIsle 11 = .ok (.ireturn, 1) := by decide +kernel
theorem dX2_takeIsle_12 : decode cX2_takeIsle 12 = .ok (.aload_n 0, 1) := by decide +kernel
theorem dX2_takeIsle_13 : decode cX2_takeIsle 13 = .ok (.getfield 22, 3) := by decide +kernel
theorem dX2_takeIsle_16 : decode cX2_takeIsle 16 = .ok (.aload_n 0, 1) := by decide +kernel
theorem dX2_takeIsle_17 : decode cX2_takeIsle 17 = .ok (.getfield 55, 3) := by decide +kernel
theorem dX2_takeIsle_20 : decode cX2_takeIsle 20 = .ok (.bipush (-4), 2) := by decide +kernel
theorem dX2_takeIsle_22 : decode cX2_takeIsle 22 = .ok (.invokevirtual 136, 3) := by decide +kernel
theorem dX2_takeIsle_25 : decode cX2_takeIsle 25 = .ok (.ifCond .eq 9, 3) := by decide +kernel
theorem dX2_takeIsle_28 : decode cX2_takeIsle 28 = .ok (.aload_n 0, 1) := by decide +kernel
theorem dX2_takeIsle_29 : decode cX2_takeIsle 29 = .ok (.iconst 4, 1) := by decide +kernel
theorem dX2_takeIsle_30 : decode cX2_takeIsle 30 = .ok (.invokevirtual 74, 3) := by decide +kernel
theorem dX2_takeIsle_33 : decode cX2_takeIsle 33 = .ok (.ireturn, 1) := by decide +kernel
theorem dX2_takeIsle_34 : decode cX2_takeIsle 34 = .ok (.aload_n 0, 1) := by decide +kernel
theorem dX2_takeIsle_35 : decode cX2_takeIsle 35 = .ok (.getfield 22, 3) := by decide +kernel
theorem dX2_takeIsle_38 : decode cX2_takeIsle 38 = .ok (.iload_n 1, 1) := by decide +kernel
theorem dX2_takeIsle_39 : decode cX2_takeIsle 39 = .ok (.aload_n 0, 1) := by decide +kernel
theorem dX2_takeIsle_40 : decode cX2_takeIsle 40 = .ok (.getfield 55, 3) := by decide +kernel
theorem dX2_takeIsle_43 : decode cX2_takeIsle 43 = .ok (.invokevirtual 139, 3) := by decide +kernel
theorem dX2_takeIsle_46 : decode cX2_takeIsle 46 = .ok (.aload_n 0, 1) := by decide +kernel
theorem dX2_takeIsle_47 : decode cX2_takeIsle 47 = .ok (.invokevirtual 143, 3) := by decide +kernel
theorem dX2_takeIsle_50 : decode cX2_takeIsle 50 = .ok (.ireturn, 1) := by decide +kernel
theorem dX2_takePair_0 : decode cX2_takePair 0 = .ok (.aload_n 0, 1) := by decide +kernel
theorem dX2_takePair_1 : decode cX2_takePair 1 = .ok (.iconst 0, 1) := by decide +kernel
theorem dX2_takePair_2 : decode cX2_takePair 2 = .ok (.iconst 4, 1) := by decide +kernel
theorem dX2_takePair_3 : decode cX2_takePair 3 = .ok (.invokevirtual 132, 3) := by decide +kernel
theorem dX2_takePair_6 : decode cX2_takePair 6 = .ok (.ifCond .ne 5, 3) := by decide +kernel
theorem dX2_takePair_9 : decode cX2_takePair 9 = .ok (.iconst 0, 1) := by decide +kernel
theorem dX2_takePair_10 : decode cX2_takePair 10 = .ok (.ireturn, 1) := by decide +kernel
theorem dX2_takePair_11 : decode cX2_takePair 11 = .ok (.aload_n 0, 1) := by decide +kernel
theorem dX2_takePair_12 : decode cX2_takePair 12 = .ok (.aload_n 0, 1) := by decide +kernel
theorem dX2_takePair_13 : decode cX2_takePair 13 = .ok (.getfield 55, 3) := by decide +kernel
theorem dX2_takePair_16 : decode cX2_takePair 16 = .ok (.putfield 58, 3) := by decide +kernel
theorem dX2_takePair_19 : decode cX2_takePair 19 = .ok (.aload_n 0, 1) := by decide +kernel
theorem dX2_takePair_20 : decode cX2_takePair 20 = .ok (.iconst 0, 1) := by decide +kernel
theorem dX2_takePair_21 : decode cX2_takePair 21 = .ok (.iconst 4, 1) := by decide +kernel
theorem dX2_takePair_22 : decode cX2_takePair 22 = .ok (.invokevirtual 132, 3) := by decide +kernel
theorem dX2_takePair_25 : decode cX2_takePair 25 = .ok (.ifCond .ne 5, 3) := by decide +kernel
theorem dX2_takePair_28 : decode cX2_takePair 28 = .ok (.iconst 0, 1) := by decide +kernel
theorem dX2_takePair_29 : decode cX2_takePair 29 = .ok (.ireturn, 1) := by decide +kernel
theorem dX2_takePair_30 : decode cX2_takePair 30 = .ok (.aload_n 0, 1) := by decide +kernel
theorem dX2_takePair_31 : decode cX2_takePair 31 = .ok (.aload_n 0, 1) := by decide +kernel
theorem dX2_takePair_32 : decode cX2_takePair 32 = .ok (.getfield 55, 3) := by decide +kernel
theorem dX2_takePair_35 : decode cX2_takePair 35 = .ok (.putfield 61, 3) := by decide +kernel
theorem dX2_takePair_38 : decode cX2_takePair 38 = .ok (.aload_n 0, 1) := by decide +kernel
theorem dX2_takePair_39 : decode cX2_takePair 39 = .ok (.aload_n 0, 1) := by decide +kernel
theorem dX2_takePair_40 : decode cX2_takePair 40 = .ok (.getfield 43, 3) := by decide +kernel
theorem dX2_takePair_43 : decode cX2_takePair 43 = .ok (.aload_n 0, 1) := by decide +kernel
theorem dX2_takePair_44 : decode cX2_takePair 44 = .ok (.getfield 58, 3) := by decide +kernel
theorem dX2_takePair_47 : decode cX2_takePair 47 = .ok (.aload_n 0, 1) := by decide +kernel
theorem dX2_takePair_48 : decode cX2_takePair 48 = .ok (.getfield 61, 3) := by decide +kernel
theorem dX2_takePair_51 : decode cX2_takePair 51 = .ok (.invokestatic 146, 3) := by decide +kernel
theorem dX2_takePair_54 : decode cX2_takePair 54 = .ok (.invokestatic 146, 3) := by decide +kernel
theorem dX2_takePair_57 : decode cX2_takePair 57 = .ok (.putfield 43, 3) := by decide +kernel
theorem dX2_takePair_60 : decode cX2_takePair 60 = .ok (.aload_n 0, 1) := by decide +kernel
theorem dX2_takePair_61 : decode cX2_takePair 61 = .ok (.getfield 58, 3) := by decide +kernel
theorem dX2_takePair_64 : decode cX2_takePair 64 = .ok (.aload_n 0, 1) := by decide +kernel
theorem dX2_takePair_65 : decode cX2_takePair 65 = .ok (.getfield 61, 3) := by decide +kernel
theorem dX2_takePair_68 : decode cX2_takePair 68 = .ok (.if_icmp .ne 11, 3) := by decide +kernel
theorem dX2_takePair_71 : decode cX2_takePair 71 = .ok (.aload_n 0, 1) := by decide +kernel
theorem dX2_takePair_72 : decode cX2_takePair 72 = .ok (.iconst 3, 1) := by decide +kernel
theorem dX2_takePair_73 : decode cX2_takePair 73 = .ok (.invokevirtual 74, 3) := by decide +kernel
theorem dX2_takePair_76 : decode cX2_takePair 76 = .ok (.ifCond .eq 7, 3) := by decide +kernel
theorem dX2_takePair_79 : decode cX2_takePair 79 = .ok (.iconst 1, 1) := by decide +kernel
theorem dX2_takePair_80 : decode cX2_takePair 80 = .ok (.goto 4, 3) := by decide +kernel
theorem dX2_takePair_83 : decode cX2_takePair 83 = .ok (.iconst 0, 1) := by decide +kernel
theorem dX2_takePair_84 : decode cX2_takePair 84 = .ok (.ireturn, 1) := by decide +kernel
theorem dX2_takeGrudge_0 : decode cX2_takeGrudge 0 = .ok (.aload_n 0, 1) := by decide +kernel
theorem dX2_takeGrudge_1 : decode cX2_takeGrudge 1 = .ok (.getfield 35, 3) := by decide +kernel
theorem dX2_takeGrudge_4 : decode cX2_takeGrudge 4 = .ok (.aload_n 0, 1) := by decide +kernel
theorem dX2_takeGrudge_5 : decode cX2_takeGrudge 5 = .ok (.getfield 58, 3) := by decide +kernel
theorem dX2_takeGrudge_8 : decode cX2_takeGrudge 8 = .ok (.iconst 5, 1) := by decide +kernel
theorem dX2_takeGrudge_9 : decode cX2_takeGrudge 9 = .ok (.imul, 1) := by decide +kernel
theorem dX2_takeGrudge_10 : decode cX2_takeGrudge 10 = .ok (.aload_n 0, 1) := by decide +kernel
theorem dX2_takeGrudge_11 : decode cX2_takeGrudge 11 = .ok (.getfield 61, 3) := by decide +kernel
theorem dX2_takeGrudge_14 : decode cX2_takeGrudge 14 = .ok (.iadd, 1) := by decide +kernel
theorem dX2_takeGrudge_15 : decode cX2_takeGrudge 15 = .ok (.baload, 1) := by decide +kernel
theorem dX2_takeGrudge_16 : decode cX2_takeGrudge 16 = .ok (.ifCond .eq 9, 3) := by decide +kernel
theorem dX2_takeGrudge_19 : decode cX2_takeGrudge 19 = .ok (.aload_n 0, 1) := by decide +kernel
theorem dX2_takeGrudge_20 : decode cX2_takeGrudge 20 = .ok (.iconst 4, 1) := by decide +kernel
theorem dX2_takeGrudge_21 : decode cX2_takeGrudge 21 = .ok (.invokevirtual 74, 3) := by decide +kernel
theorem dX2_takeGrudge_24 : decode cX2_takeGrudge 24 = .ok (.ireturn, 1) := by decide +kernel
theorem dX2_takeGrudge_25 : decode cX2_takeGrudge 25 = .ok (.aload_n 0, 1) := by decide +kernel
theorem dX2_takeGrudge_26 : decode cX2_takeGrudge 26 = .ok (.iconst 0, 1) := by decide +kernel
theorem dX2_takeGrudge_27 : decode cX2_takeGrudge 27 = .ok (.iconst 3, 1) := by decide +kernel
theorem dX2_takeGrudge_28 : decode cX2_takeGrudge 28 = .ok (.invokevirtual 132, 3) := by decide +kernel
theorem dX2_takeGrudge_31 : decode cX2_takeGrudge 31 = .ok (.ifCond .ne 5, 3) := by decide +kernel
theorem dX2_takeGrudge_34 : decode cX2_takeGrudge 34 = .ok (.iconst 0, 1) := by decide +kernel
theorem dX2_takeGrudge_35 : decode cX2_takeGrudge 35 = .ok (.ireturn, 1) := by decide +kernel
theorem dX2_takeGrudge_36 : decode cX2_takeGrudge 36 = .ok (.aload_n 0, 1) := by decide +kernel
theorem dX2_takeGrudge_37 : decode cX2_takeGrudge 37 = .ok (.getfield 35, 3) := by decide +kernel
theorem dX2_takeGrudge_40 : decode cX2_takeGrudge 40 = .ok (.aload_n 0, 1) := by decide +kernel
theorem dX2_takeGrudge_41 : decode cX2_takeGrudge 41 = .ok (.getfield 58, 3) := by decide +kernel
theorem dX2_takeGrudge_44 : decode cX2_takeGrudge 44 = .ok (.iconst 5, 1) := by decide +kernel
theorem dX2_takeGrudge_45 : decode cX2_takeGrudge 45 = .ok (.imul, 1) := by decide +kernel
theorem dX2_takeGrudge_46 : decode cX2_takeGrudge 46 = .ok (.aload_n 0, 1) := by decide +kernel
theorem dX2_takeGrudge_47 : decode cX2_takeGrudge 47 = .ok (.getfield 61, 3) := by decide +kernel
theorem dX2_takeGrudge_50 : decode cX2_takeGrudge 50 = .ok (.iadd, 1) := by decide +kernel
theorem dX2_takeGrudge_51 : decode cX2_takeGrudge 51 = .ok (.iconst 1, 1) := by decide +kernel
theorem dX2_takeGrudge_52 : decode cX2_takeGrudge 52 = .ok (.bastore, 1) := by decide +kernel
theorem dX2_takeGrudge_53 : decode cX2_takeGrudge 53 = .ok (.aload_n 0, 1) := by decide +kernel
theorem dX2_takeGrudge_54 : decode cX2_takeGrudge 54 = .ok (.getfield 22, 3) := by decide +kernel
theorem dX2_takeGrudge_57 : decode cX2_takeGrudge 57 = .ok (.aload_n 0, 1) := by decide +kernel
theorem dX2_takeGrudge_58 : decode cX2_takeGrudge 58 = .ok (.getfield 58, 3) := by decide +kernel
theorem dX2_takeGrudge_61 : decode cX2_takeGrudge 61 = .ok (.aload_n 0, 1) := by decide +kernel
theorem dX2_takeGrudge_62 : decode cX2_takeGrudge 62 = .ok (.getfield 61, 3) := by decide +kernel
theorem dX2_takeGrudge_65 : decode cX2_takeGrudge 65 = .ok (.aload_n 0, 1) := by decide +kernel
theorem dX2_takeGrudge_66 : decode cX2_takeGrudge 66 = .ok (.getfield 55, 3) := by decide +kernel
theorem dX2_takeGrudge_69 : decode cX2_takeGrudge 69 = .ok (.invokevirtual 152, 3) := by decide +kernel
theorem dX2_takeGrudge_72 : decode cX2_takeGrudge 72 = .ok (.aload_n 0, 1) := by decide +kernel
theorem dX2_takeGrudge_73 : decode cX2_takeGrudge 73 = .ok (.invokevirtual 143, 3) := by decide +kernel
theorem dX2_takeGrudge_76 : decode cX2_takeGrudge 76 = .ok (.ireturn, 1) := by decide +kernel
theorem dX2_takeRope_0 : decode cX2_takeRope 0 = .ok (.aload_n 0, 1) := by decide +kernel
theorem dX2_takeRope_1 : decode cX2_takeRope 1 = .ok (.iconst 1, 1) := by decide +kernel
theorem dX2_takeRope_2 : decode cX2_takeRope 2 = .ok (.bipush 30, 2) := by decide +kernel
theorem dX2_takeRope_4 : decode cX2_takeRope 4 = .ok (.invokevirtual 132, 3) := by decide +kernel
theorem dX2_takeRope_7 : decode cX2_takeRope 7 = .ok (.ifCond .ne 5, 3) := by decide +kernel
theorem dX2_takeRope_10 : decode cX2_takeRope 10 = .ok (.iconst 0, 1) := by decide +kernel
theorem dX2_takeRope_11 : decode cX2_takeRope 11 = .ok (.ireturn, 1) := by decide +kernel
theorem dX2_takeRope_12 : decode cX2_takeRope 12 = .ok (.aload_n 0, 1) := by decide +kernel
theorem dX2_takeRope_13 : decode cX2_takeRope 13 = .ok (.getfield 22, 3) := by decide +kernel
theorem dX2_takeRope_16 : decode cX2_takeRope 16 = .ok (.aload_n 0, 1) := by decide +kernel
theorem dX2_takeRope_17 : decode cX2_takeRope 17 = .ok (.getfield 58, 3) := by decide +kernel
theorem dX2_takeRope_20 : decode cX2_takeRope 20 = .ok (.aload_n 0, 1) := by decide +kernel
theorem dX2_takeRope_21 : decode cX2_takeRope 21 = .ok (.getfield 61, 3) := by decide +kernel
theorem dX2_takeRope_24 : decode cX2_takeRope 24 = .ok (.aload_n 0, 1) := by decide +kernel
theorem dX2_takeRope_25 : decode cX2_takeRope 25 = .ok (.getfield 55, 3) := by decide +kernel
theorem dX2_takeRope_28 : decode cX2_takeRope 28 = .ok (.invokevirtual 156, 3) := by decide +kernel
theorem dX2_takeRope_31 : decode cX2_takeRope 31 = .ok (.aload_n 0, 1) := by decide +kernel
theorem dX2_takeRope_32 : decode cX2_takeRope 32 = .ok (.invokevirtual 143, 3) := by decide +kernel
theorem dX2_takeRope_35 : decode cX2_takeRope 35 = .ok (.ireturn, 1) := by decide +kernel
theorem dX2_takeFeast_0 : decode cX2_takeFeast 0 = .ok (.aload_n 0, 1) := by decide +kernel
theorem dX2_takeFeast_1 : decode cX2_takeFeast 1 = .ok (.iconst 0, 1) := by decide +kernel
theorem dX2_takeFeast_2 : decode cX2_takeFeast 2 = .ok (.bipush 6, 2) := by decide +kernel
theorem dX2_takeFeast_4 : decode cX2_takeFeast 4 = .ok (.invokevirtual 132, 3) := by decide +kernel
theorem dX2_takeFeast_7 : decode cX2_takeFeast 7 = .ok (.ifCond .ne 5, 3) := by decide +kernel
theorem dX2_takeFeast_10 : decode cX2_takeFeast 10 = .ok (.iconst 0, 1) := by decide +kernel
theorem dX2_takeFeast_11 : decode cX2_takeFeast 11 = .ok (.ireturn, 1) := by decide +kernel
theorem dX2_takeFeast_12 : decode cX2_takeFeast 12 = .ok (.aload_n 0, 1) := by decide +kernel
theorem dX2_takeFeast_13 : decode cX2_takeFeast 13 = .ok (.iconst 1, 1) := by decide +kernel
theorem dX2_takeFeast_14 : decode cX2_takeFeast 14 = .ok (.putfield 39, 3) := by decide +kernel
theorem dX2_takeFeast_17 : decode cX2_takeFeast 17 = .ok (.aload_n 0, 1) := by decide +kernel
theorem dX2_takeFeast_18 : decode cX2_takeFeast 18 = .ok (.getfield 22, 3) := by decide +kernel
theorem dX2_takeFeast_21 : decode cX2_takeFeast 21 = .ok (.aload_n 0, 1) := by decide +kernel
theorem dX2_takeFeast_22 : decode cX2_takeFeast 22 = .ok (.getfield 55, 3) := by decide +kernel
theorem dX2_takeFeast_25 : decode cX2_takeFeast 25 = .ok (.putfield 159, 3) := by decide +kernel
theorem dX2_takeFeast_28 : decode cX2_takeFeast 28 = .ok (.aload_n 0, 1) := by decide +kernel
theorem dX2_takeFeast_29 : decode cX2_takeFeast 29 = .ok (.invokevirtual 143, 3) := by decide +kernel
theorem dX2_takeFeast_32 : decode cX2_takeFeast 32 = .ok (.ireturn, 1) := by decide +kernel
theorem dX2_takeNumber_0 : decode cX2_takeNumber 0 = .ok (.aload_n 0, 1) := by decide +kernel
theorem dX2_takeNumber_1 : decode cX2_takeNumber 1 = .ok (.invokevirtual 67, 3) := by decide +kernel
theorem dX2_takeNumber_4 : decode cX2_takeNumber 4 = .ok (.ifCond .ne 5, 3) := by decide +kernel
theorem dX2_takeNumber_7 : decode cX2_takeNumber 7 = .ok (.iconst 0, 1) := by decide +kernel
theorem dX2_takeNumber_8 : decode cX2_takeNumber 8 = .ok (.ireturn, 1) := by decide +kernel
theorem dX2_takeNumber_9 : decode cX2_takeNumber 9 = .ok (.aload_n 0, 1) := by decide +kernel
theorem dX2_takeNumber_10 : decode cX2_takeNumber 10 = .ok (.getfield 49, 3) := by decide +kernel
theorem dX2_takeNumber_13 : decode cX2_takeNumber 13 = .ok (.iconst 2, 1) := by decide +kernel
theorem dX2_takeNumber_14 : decode cX2_takeNumber 14 = .ok (.if_icmp .eq 9, 3) := by decide +kernel
theorem dX2_takeNumber_17 : decode cX2_takeNumber 17 = .ok (.aload_n 0, 1) := by decide +kernel
theorem dX2_takeNumber_18 : decode cX2_takeNumber 18 = .ok (.iconst 2, 1) := by decide +kernel
theorem dX2_takeNumber_19 : decode cX2_takeNumber 19 = .ok (.invokevirtual 74, 3) := by decide +kernel
theorem dX2_takeNumber_22 : decode cX2_takeNumber 22 = .ok (.ireturn, 1) := by decide +kernel
theorem dX2_takeNumber_23 : decode cX2_takeNumber 23 = .ok (.aload_n 0, 1) := by decide +kernel
theorem dX2_takeNumber_24 : decode cX2_takeNumber 24 = .ok (.getfield 55, 3) := by decide +kernel
theorem dX2_takeNumber_27 : decode cX2_takeNumber 27 = .ok (.iload_n 1, 1) := by decide +kernel
theorem dX2_takeNumber_28 : decode cX2_takeNumber 28 = .ok (.iload_n 2, 1) := by decide +kernel
theorem dX2_takeNumber_29 : decode cX2_takeNumber 29 = .ok (.invokestatic 162, 3) := by decide +kernel
theorem dX2_takeNumber_32 : decode cX2_takeNumber 32 = .ok (.ifCond .ne 11, 3) := by decide +kernel
theorem dX2_takeNumber_35 : decode cX2_takeNumber 35 = .ok (.aload_n 0, 1) := by decide +kernel
theorem dX2_takeNumber_36 : decode cX2_takeNumber 36 = .ok (.iconst 3, 1) := by decide +kernel
theorem dX2_takeNumber_37 : decode cX2_takeNumber 37 = .ok (.invokevirtual 74, 3) := by decide +kernel
theorem dX2_takeNumber_40 : decode cX2_takeNumber 40 = .ok (.ifCond .eq 7, 3) := by decide +kernel
theorem dX2_takeNumber_43 : decode cX2_takeNumber 43 = .ok (.iconst 1, 1) := by decide +kernel
theorem dX2_takeNumber_44 : decode cX2_takeNumber 44 = .ok (.goto 4, 3) := by decide +kernel
theorem dX2_takeNumber_47 : decode cX2_takeNumber 47 = .ok (.iconst 0, 1) := by decide +kernel
theorem dX2_takeNumber_48 : decode cX2_takeNumber 48 = .ok (.ireturn, 1) := by decide +kernel
theorem dX2_takeStop_0 : decode cX2_takeStop 0 = .ok (.aload_n 0, 1) := by decide +kernel
theorem dX2_takeStop_1 : decode cX2_takeStop 1 = .ok (.invokevirtual 67, 3) := by decide +kernel
theorem dX2_takeStop_4 : decode cX2_takeStop 4 = .ok (.ifCond .eq 23, 3) := by decide +kernel
theorem dX2_takeStop_7 : decode cX2_takeStop 7 = .ok (.aload_n 0, 1) := by decide +kernel
theorem dX2_takeStop_8 : decode cX2_takeStop 8 = .ok (.getfield 49, 3) := by decide +kernel
theorem dX2_takeStop_11 : decode cX2_takeStop 11 = .ok (.iconst 3, 1) := by decide +kernel
theorem dX2_takeStop_12 : decode cX2_takeStop 12 = .ok (.if_icmp .eq 11, 3) := by decide +kernel
theorem dX2_takeStop_15 : decode cX2_takeStop 15 = .ok (.aload_n 0, 1) := by decide +kernel
theorem dX2_takeStop_16 : decode cX2_takeStop 16 = .ok (.iconst 2, 1) := by decide +kernel
theorem dX2_takeStop_17 : decode cX2_takeStop 17 = .ok (.invokevirtual 74, 3) := by decide +kernel
theorem dX2_takeStop_20 : decode cX2_takeStop 20 = .ok (.ifCond .eq 7, 3) := by decide +kernel
theorem dX2_takeStop_23 : decode cX2_takeStop 23 = .ok (.iconst 1, 1) := by decide +kernel
theorem dX2_takeStop_24 : decode cX2_takeStop 24 = .ok (.goto 4, 3) := by decide +kernel
theorem dX2_takeStop_27 : decode cX2_takeStop 27 = .ok (.iconst 0, 1) := by decide +kernel
theorem dX2_takeStop_28 : decode cX2_takeStop 28 = .ok (.ireturn, 1) := by decide +kernel
theorem dX2_takeToken_0 : decode cX2_takeToken 0 = .ok (.aload_n 0, 1) := by decide +kernel
theorem dX2_takeToken_1 : decode cX2_takeToken 1 = .ok (.bipush 32, 2) := by decide +kernel
theorem dX2_takeToken_3 : decode cX2_takeToken 3 = .ok (.bipush 32, 2) := by decide +kernel
theorem dX2_takeToken_5 : decode cX2_takeToken 5 = .ok (.invokevirtual 166, 3) := by decide +kernel
theorem dX2_takeToken_8 : decode cX2_takeToken 8 = .ok (.pop, 1) := by decide +kernel
theorem dX2_takeToken_9 : decode cX2_takeToken 9 = .ok (.aload_n 0, 1) := by decide +kernel
theorem dX2_takeToken_10 : decode cX2_takeToken 10 = .ok (.aload_n 0, 1) := by decide +kernel
theorem dX2_takeToken_11 : decode cX2_takeToken 11 = .ok (.getfield 46, 3) := by decide +kernel
theorem dX2_takeToken_14 : decode cX2_takeToken 14 = .ok (.putfield 52, 3) := by decide +kernel
theorem dX2_takeToken_17 : decode cX2_takeToken 17 = .ok (.aload_n 0, 1) := by decide +kernel
theorem dX2_takeToken_18 : decode cX2_takeToken 18 = .ok (.getfield 46, 3) := by decide +kernel
theorem dX2_takeToken_21 : decode cX2_takeToken 21 = .ok (.aload_n 0, 1) := by decide +kernel
theorem dX2_takeToken_22 : decode cX2_takeToken 22 = .ok (.getfield 15, 3) := by decide +kernel
theorem dX2_takeToken_25 : decode cX2_takeToken 25 = .ok (.if_icmp .lt 10, 3) := by decide +kernel
theorem dX2_takeToken_28 : decode cX2_takeToken 28 = .ok (.aload_n 0, 1) := by decide +kernel
theorem dX2_takeToken_29 : decode cX2_takeToken 29 = .ok (.iconst 0, 1) := by decide +kernel
theorem dX2_takeToken_30 : decode cX2_takeToken 30 = .ok (.putfield 49, 3) := by decide +kernel
theorem dX2_takeToken_33 : decode cX2_takeToken 33 = .ok (.iconst 1, 1) := by decide +kernel
theorem dX2_takeToken_34 : decode cX2_takeToken 34 = .ok (.ireturn, 1) := by decide +kernel
theorem dX2_takeToken_35 : decode cX2_takeToken 35 = .ok (.aload_n 0, 1) := by decide +kernel
theorem dX2_takeToken_36 : decode cX2_takeToken 36 = .ok (.getfield 9, 3) := by decide +kernel
theorem dX2_takeToken_39 : decode cX2_takeToken 39 = .ok (.aload_n 0, 1) := by decide +kernel
theorem dX2_takeToken_40 : decode cX2_takeToken 40 = .ok (.getfield 46, 3) := by decide +kernel
theorem dX2_takeToken_43 : decode cX2_takeToken 43 = .ok (.baload, 1) := by decide +kernel
theorem dX2_takeToken_44 : decode cX2_takeToken 44 = .ok (.bipush 59, 2) := by decide +kernel
theorem dX2_takeToken_46 : decode cX2_takeToken 46 = .ok (.if_icmp .ne 20, 3) := by decide +kernel
theorem dX2_takeToken_49 : decode cX2_takeToken 49 = .ok (.aload_n 0, 1) := by decide +kernel
theorem dX2_takeToken_50 : decode cX2_takeToken 50 = .ok (.dup, 1) := by decide +kernel
theorem dX2_takeToken_51 : decode cX2_takeToken 51 = .ok (.getfield 46, 3) := by decide +kernel
theorem dX2_takeToken_54 : decode cX2_takeToken 54 = .ok (.iconst 1, 1) := by decide +kernel
theorem dX2_takeToken_55 : decode cX2_takeToken 55 = .ok (.iadd, 1) := by decide +kernel
theorem dX2_takeToken_56 : decode cX2_takeToken 56 = .ok (.putfield 46, 3) := by decide +kernel
theorem dX2_takeToken_59 : decode cX2_takeToken 59 = .ok (.aload_n 0, 1) := by decide +kernel
theorem dX2_takeToken_60 : decode cX2_takeToken 60 = .ok (.iconst 3, 1) := by decide +kernel
theorem dX2_takeToken_61 : decode cX2_takeToken 61 = .ok (.putfield 49, 3) := by decide +kernel
theorem dX2_takeToken_64 : decode cX2_takeToken 64 = .ok (.iconst 1, 1) := by decide +kernel
theorem dX2_takeToken_65 : decode cX2_takeToken 65 = .ok (.ireturn, 1) := by decide +kernel
theorem dX2_takeToken_66 : decode cX2_takeToken 66 = .ok (.aload_n 0, 1) := by decide +kernel
theorem dX2_takeToken_67 : decode cX2_takeToken 67 = .ok (.bipush 97, 2) := by decide +kernel
theorem dX2_takeToken_69 : decode cX2_takeToken 69 = .ok (.bipush 122, 2) := by decide +kernel
theorem dX2_takeToken_71 : decode cX2_takeToken 71 = .ok (.invokevirtual 166, 3) := by decide +kernel
theorem dX2_takeToken_74 : decode cX2_takeToken 74 = .ok (.ifCond .le 10, 3) := by decide +kernel
theorem dX2_takeToken_77 : decode cX2_takeToken 77 = .ok (.aload_n 0, 1) := by decide +kernel
theorem dX2_takeToken_78 : decode cX2_takeToken 78 = .ok (.iconst 1, 1) := by decide +kernel
theorem dX2_takeToken_79 : decode cX2_takeToken 79 = .ok (.putfield 49, 3) := by decide +kernel
theorem dX2_takeToken_82 : decode cX2_takeToken 82 = .ok (.iconst 1, 1) := by decide +kernel
theorem dX2_takeToken_83 : decode cX2_takeToken 83 = .ok (.ireturn, 1) := by decide +kernel
theorem dX2_takeToken_84 : decode cX2_takeToken 84 = .ok (.aload_n 0, 1) := by decide +kernel
theorem dX2_takeToken_85 : decode cX2_takeToken 85 = .ok (.bipush 48, 2) := by decide +kernel
theorem dX2_takeToken_87 : decode cX2_takeToken 87 = .ok (.bipush 57, 2) := by decide +kernel
theorem dX2_takeToken_89 : decode cX2_takeToken 89 = .ok (.invokevirtual 166, 3) := by decide +kernel
theorem dX2_takeToken_92 : decode cX2_takeToken 92 = .ok (.istore_n 1, 1) := by decide +kernel
theorem dX2_takeToken_93 : decode cX2_takeToken 93 = .ok (.iload_n 1, 1) := by decide +kernel
theorem dX2_takeToken_94 : decode cX2_takeToken 94 = .ok (.iconst 1, 1) := by decide +kernel
theorem dX2_takeToken_95 : decode cX2_takeToken 95 = .ok (.if_icmp .lt 8, 3) := by decide +kernel
theorem dX2_takeToken_98 : decode cX2_takeToken 98 = .ok (.iload_n 1, 1) := by decide +kernel
theorem dX2_takeToken_99 : decode cX2_takeToken 99 = .ok (.iconst 2, 1) := by decide +kernel
theorem dX2_takeToken_100 : decode cX2_takeToken 100 = .ok (.if_icmp .le 9, 3) := by decide +kernel
theorem dX2_takeToken_103 : decode cX2_takeToken 103 = .ok (.aload_n 0, 1) := by decide +kernel
theorem dX2_takeToken_104 : decode cX2_takeToken 104 = .ok (.iconst 1, 1) := by decide +kernel
theorem dX2_takeToken_105 : decode cX2_takeToken 105 = .ok (.invokevirtual 74, 3) := by decide +kernel
theorem dX2_takeToken_108 : decode cX2_takeToken 108 = .ok (.ireturn, 1) := by decide +kernel
theorem dX2_takeToken_109 : decode cX2_takeToken 109 = .ok (.aload_n 0, 1) := by decide +kernel
theorem dX2_takeToken_110 : decode cX2_takeToken 110 = .ok (.iconst 2, 1) := by decide +kernel
theorem dX2_takeToken_111 : decode cX2_takeToken 111 = .ok (.putfield 49, 3) := by decide +kernel
theorem dX2_takeToken_114 : decode cX2_takeToken 114 = .ok (.aload_n 0, 1) := by decide +kernel
theorem dX2_takeToken_115 : decode cX2_takeToken 115 = .ok (.aload_n 0, 1) := by decide +kernel
theorem dX2_takeToken_116 : decode cX2_takeToken 116 = .ok (.getfield 9, 3) := by decide +kernel
theorem dX2_takeToken_119 : decode cX2_takeToken 119 = .ok (.aload_n 0, 1) := by decide +kernel
theorem dX2_takeToken_120 : decode cX2_takeToken 120 = .ok (.getfield 46, 3) := by decide +kernel
theorem dX2_takeToken_123 : decode cX2_takeToken 123 = .ok (.iconst 1, 1) := by decide +kernel
theorem dX2_takeToken_124 : decode cX2_takeToken 124 = .ok (.isub, 1) := by decide +kernel
theorem dX2_takeToken_125 : decode cX2_takeToken 125 = .ok (.baload, 1) := by decide +kernel
theorem dX2_takeToken_126 : decode cX2_takeToken 126 = .ok (.bipush 48, 2) := by decide +kernel
theorem dX2_takeToken_128 : decode cX2_takeToken 128 = .ok (.isub, 1) := by decide +kernel
theorem dX2_takeToken_129 : decode cX2_takeToken 129 = .ok (.iload_n 1, 1) := by decide +kernel
theorem dX2_takeToken_130 : decode cX2_takeToken 130 = .ok (.iconst 2, 1) := by decide +kernel
theorem dX2_takeToken_131 : decode cX2_takeToken 131 = .ok (.if_icmp .ne 21, 3) := by decide +kernel
theorem dX2_takeToken_134 : decode cX2_takeToken 134 = .ok (.bipush 10, 2) := by decide +kernel
theorem dX2_takeToken_136 : decode cX2_takeToken 136 = .ok (.aload_n 0, 1) := by decide +kernel
theorem dX2_takeToken_137 : decode cX2_takeToken 137 = .ok (.getfield 9, 3) := by decide +kernel
theorem dX2_takeToken_140 : decode cX2_takeToken 140 = .ok (.aload_n 0, 1) := by decide +kernel
theorem dX2_takeToken_141 : decode cX2_takeToken 141 = .ok (.getfield 52, 3) := by decide +kernel
theorem dX2_takeToken_144 : decode cX2_takeToken 144 = .ok (.baload, 1) := by decide +kernel
theorem dX2_takeToken_145 : decode cX2_takeToken 145 = .ok (.bipush 48, 2) := by decide +kernel
theorem dX2_takeToken_147 : decode cX2_takeToken 147 = .ok (.isub, 1) := by decide +kernel
theorem dX2_takeToken_148 : decode cX2_takeToken 148 = .ok (.imul, 1) := by decide +kernel
theorem dX2_takeToken_149 : decode cX2_takeToken 149 = .ok (.goto 4, 3) := by decide +kernel
theorem dX2_takeToken_152 : decode cX2_takeToken 152 = .ok (.iconst 0, 1) := by decide +kernel
theorem dX2_takeToken_153 : decode cX2_takeToken 153 = .ok (.iadd, 1) := by decide +kernel
theorem dX2_takeToken_154 : decode cX2_takeToken 154 = .ok (.putfield 55, 3) := by decide +kernel
theorem dX2_takeToken_157 : decode cX2_takeToken 157 = .ok (.iconst 1, 1) := by decide +kernel
theorem dX2_takeToken_158 : decode cX2_takeToken 158 = .ok (.ireturn, 1) := by decide +kernel
theorem dX2_pass_0 : decode cX2_pass 0 = .ok (.aload_n 0, 1) := by decide +kernel
theorem dX2_pass_1 : decode cX2_pass 1 = .ok (.getfield 46, 3) := by decide +kernel
theorem dX2_pass_4 : decode cX2_pass 4 = .ok (.istore_n 3, 1) := by decide +kernel
theorem dX2_pass_5 : decode cX2_pass 5 = .ok (.aload_n 0, 1) := by decide +kernel
theorem dX2_pass_6 : decode cX2_pass 6 = .ok (.getfield 46, 3) := by decide +kernel
theorem dX2_pass_9 : decode cX2_pass 9 = .ok (.aload_n 0, 1) := by decide +kernel
theorem dX2_pass_10 : decode cX2_pass 10 = .ok (.getfield 15, 3) := by decide +kernel
theorem dX2_pass_13 : decode cX2_pass 13 = .ok (.if_icmp .ge 42, 3) := by decide +kernel
theorem dX2_pass_16 : decode cX2_pass 16 = .ok (.aload_n 0, 1) := by decide +kernel
theorem dX2_pass_17 : decode cX2_pass 17 = .ok (.getfield 9, 3) := by decide +kernel
theorem dX2_pass_20 : decode cX2_pass 20 = .ok (.aload_n 0, 1) := by decide +kernel
theorem dX2_pass_21 : decode cX2_pass 21 = .ok (.getfield 46, 3) := by decide +kernel
theorem dX2_pass_24 : decode cX2_pass 24 = .ok (.baload, 1) := by decide +kernel
theorem dX2_pass_25 : decode cX2_pass 25 = .ok (.iload_n 1, 1) := by decide +kernel
theorem dX2_pass_26 : decode cX2_pass 26 = .ok (.if_icmp .lt 29, 3) := by decide +kernel
theorem dX2_pass_29 : decode cX2_pass 29 = .ok (.aload_n 0, 1) := by decide +kernel
theorem dX2_pass_30 : decode cX2_pass 30 = .ok (.getfield 9, 3) := by decide +kernel
theorem dX2_pass_33 : decode cX2_pass 33 = .ok (.aload_n 0, 1) := by decide +kernel
theorem dX2_pass_34 : decode cX2_pass 34 = .ok (.getfield 46, 3) := by decide +kernel
theorem dX2_pass_37 : decode cX2_pass 37 = .ok (.baload, 1) := by decide +kernel
theorem dX2_pass_38 : decode cX2_pass 38 = .ok (.iload_n 2, 1) := by decide +kernel
theorem dX2_pass_39 : decode cX2_pass 39 = .ok (.if_icmp .gt 16, 3) := by decide +kernel
theorem dX2_pass_42 : decode cX2_pass 42 = .ok (.aload_n 0, 1) := by decide +kernel
theorem dX2_pass_43 : decode cX2_pass 43 = .ok (.dup, 1) := by decide +kernel
theorem dX2_pass_44 : decode cX2_pass 44 = .ok (.getfield 46, 3) := by decide +kernel
theorem dX2_pass_47 : decode cX2_pass 47 = .ok (.iconst 1, 1) := by decide +kernel
theorem dX2_pass_48 : decode cX2_pass 48 = .ok (.iadd, 1) := by decide +kernel
theorem dX2_pass_49 : decode cX2_pass 49 = .ok (.putfield 46, 3) := by decide +kernel
theorem dX2_pass_52 : decode cX2_pass 52 = .ok (.goto (-47), 3) := by decide +kernel
theorem dX2_pass_55 : decode cX2_pass 55 = .ok (.aload_n 0, 1) := by decide +kernel
theorem dX2_pass_56 : decode cX2_pass 56 = .ok (.getfield 46, 3) := by decide +kernel
theorem dX2_pass_59 : decode cX2_pass 59 = .ok (.iload_n 3, 1) := by decide +kernel
theorem dX2_pass_60 : decode cX2_pass 60 = .ok (.isub, 1) := by decide +kernel
theorem dX2_pass_61 : decode cX2_pass 61 = .ok (.ireturn, 1) := by decide +kernel
theorem dX3_init_0 : decode cX3_init 0 = .ok (.aload_n 0, 1) := by decide +kernel
theorem dX3_init_1 : decode cX3_init 1 = .ok (.invokespecial 3, 3) := by decide +kernel
theorem dX3_init_4 : decode cX3_init 4 = .ok (.aload_n 0, 1) := by decide +kernel
theorem dX3_init_5 : decode cX3_init 5 = .ok (.bipush (-4), 2) := by decide +kernel
theorem dX3_init_7 : decode cX3_init 7 = .ok (.putfield 9, 3) := by decide +kernel
theorem dX3_init_10 : decode cX3_init 10 = .ok (.aload_n 0, 1) := by decide +kernel
theorem dX3_init_11 : decode cX3_init 11 = .ok (.iconst 0, 1) := by decide +kernel
theorem dX3_init_12 : decode cX3_init 12 = .ok (.putfield 15, 3) := by decide +kernel
theorem dX3_init_15 : decode cX3_init 15 = .ok (.aload_n 0, 1) := by decide +kernel
theorem dX3_init_16 : decode cX3_init 16 = .ok (.bipush 40, 2) := by decide +kernel
theorem dX3_init_18 : decode cX3_init 18 = .ok (.newarray .int, 2) := by decide +kernel
theorem dX3_init_20 : decode cX3_init 20 = .ok (.putfield 18, 3) := by decide +kernel
theorem dX3_init_23 : decode cX3_init 23 = .ok (.return_, 1) := by decide +kernel
theorem dX3_renew_0 : decode cX3_renew 0 = .ok (.aload_n 0, 1) := by decide +kernel
theorem dX3_renew_1 : decode cX3_renew 1 = .ok (.iload_n 1, 1) := by decide +kernel
theorem dX3_renew_2 : decode cX3_renew 2 = .ok (.putfield 9, 3) := by decide +kernel
theorem dX3_renew_5 : decode cX3_renew 5 = .ok (.aload_n 0, 1) := by decide +kernel
theorem dX3_renew_6 : decode cX3_renew 6 = .ok (.iload_n 2, 1) := by decide +kernel
theorem dX3_renew_7 : decode cX3_renew 7 = .ok (.putfield 15, 3) := by decide +kernel
theorem dX3_renew_10 : decode cX3_renew 10 = .ok (.aload_n 0, 1) := by decide +kernel
theorem dX3_renew_11 : decode cX3_renew 11 = .ok (.getfield 18, 3) := by decide +kernel
theorem dX3_renew_14 : decode cX3_renew 14 = .ok (.iconst 0, 1) := by decide +kernel
theorem dX3_renew_15 : decode cX3_renew 15 = .ok (.invokestatic 22, 3) := by decide +kernel
theorem dX3_renew_18 : decode cX3_renew 18 = .ok (.return_, 1) := by decide +kernel
theorem dX3_faultAt_0 : decode cX3_faultAt 0 = .ok (.aload_n 0, 1) := by decide +kernel
theorem dX3_faultAt_1 : decode cX3_faultAt 1 = .ok (.getfield 9, 3) := by decide +kernel
theorem dX3_faultAt_4 : decode cX3_faultAt 4 = .ok (.bipush (-4), 2) := by decide +kernel
theorem dX3_faultAt_6 : decode cX3_faultAt 6 = .ok (.if_icmp .ne 5, 3) := by decide +kernel
theorem dX3_faultAt_9 : decode cX3_faultAt 9 = .ok (.iconst 1, 1) := by decide +kernel
theorem dX3_faultAt_10 : decode cX3_faultAt 10 = .ok (.ireturn, 1) := by decide +kernel
theorem dX3_faultAt_11 : decode cX3_faultAt 11 = .ok (.aload_n 0, 1) := by decide +kernel
theorem dX3_faultAt_12 : decode cX3_faultAt 12 = .ok (.getfield 9, 3) := by decide +kernel
theorem dX3_faultAt_15 : decode cX3_faultAt 15 = .ok (.iload_n 1, 1) := by decide +kernel
theorem dX3_faultAt_16 : decode cX3_faultAt 16 = .ok (.if_icmp .eq 5, 3) := by decide +kernel
theorem dX3_faultAt_19 : decode cX3_faultAt 19 = .ok (.iconst 3, 1) := by decide +kernel
theorem dX3_faultAt_20 : decode cX3_faultAt 20 = .ok (.ireturn, 1) := by decide +kernel
theorem dX3_faultAt_21 : decode cX3_faultAt 21 = .ok (.iload_n 2, 1) := by decide +kernel
theorem dX3_faultAt_22 : decode cX3_faultAt 22 = .ok (.ifCond .lt 11, 3) := by decide +kernel
theorem dX3_faultAt_25 : decode cX3_faultAt 25 = .ok (.iload_n 2, 1) := by decide +kernel
theorem dX3_faultAt_26 : decode cX3_faultAt 26 = .ok (.aload_n 0, 1) := by decide +kernel
theorem dX3_faultAt_27 : decode cX3_faultAt 27 = .ok (.getfield 15, 3) := by decide +kernel
theorem dX3_faultAt_30 : decode cX3_faultAt 30 = .ok (.if_icmp .lt 7, 3) := by decide +kernel
theorem dX3_faultAt_33 : decode cX3_faultAt 33 = .ok (.iconst 2, 1) := by decide +kernel
theorem dX3_faultAt_34 : decode cX3_faultAt 34 = .ok (.goto 4, 3) := by decide +kernel
theorem dX3_faultAt_37 : decode cX3_faultAt 37 = .ok (.iconst 0, 1) := by decide +kernel
theorem dX3_faultAt_38 : decode cX3_faultAt 38 = .ok (.ireturn, 1) := by decide +kernel
theorem dX3_faultInThree_0 : decode cX3_faultInThree 0 = .ok (.iconst 0, 1) := by decide +kernel
theorem dX3_faultInThree_1 : decode cX3_faultInThree 1 = .ok (.istore_n 3, 1) := by decide +kernel
theorem dX3_faultInThree_2 : decode cX3_faultInThree 2 = .ok (.iconst 0, 1) := by decide +kernel
theorem dX3_faultInThree_3 : decode cX3_faultInThree 3 = .ok (.istore 4, 2) := by decide +kernel
theorem dX3_faultInThree_5 : decode cX3_faultInThree 5 = .ok (.iload 4, 2) := by decide +kernel
theorem dX3_faultInThree_7 : decode cX3_faultInThree 7 = .ok (.iconst 3, 1) := by decide +kernel
theorem dX3_faultInThree_8 : decode cX3_faultInThree 8 = .ok (.if_icmp .ge 23, 3) := by decide +kernel
theorem dX3_faultInThree_11 : decode cX3_faultInThree 11 = .ok (.iload_n 3, 1) := by decide +kernel
theorem dX3_faultInThree_12 : decode cX3_faultInThree 12 = .ok (.ifCond .ne 19, 3) := by decide +kernel
theorem dX3_faultInThree_15 : decode cX3_faultInThree 15 = .ok (.aload_n 0, 1) := by decide +kernel
theorem dX3_faultInThree_16 : decode cX3_faultInThree 16 = .ok (.iload_n 1, 1) := by decide +kernel
theorem dX3_faultInThree_17 : decode cX3_faultInThree 17 = .ok (.iload_n 2, 1) := by decide +kernel
theorem dX3_faultInThree_18 : decode cX3_faultInThree 18 = .ok (.iload 4, 2) := by decide +kernel
theorem dX3_faultInThree_20 : decode cX3_faultInThree 20 = .ok (.iadd, 1) := by decide +kernel
theorem dX3_faultInThree_21 : decode cX3_faultInThree 21 = .ok (.invokevirtual 28, 3) := by decide +kernel
theorem dX3_faultInThree_24 : decode cX3_faultInThree 24 = .ok (.istore_n 3, 1) := by decide +kernel
theorem dX3_faultInThree_25 : decode cX3_faultInThree 25 = .ok (.iinc 4 1, 3) := by decide +kernel
theorem dX3_faultInThree_28 : decode cX3_faultInThree 28 = .ok (.goto (-23), 3) := by decide +kernel
theorem dX3_faultInThree_31 : decode cX3_faultInThree 31 = .ok (.iload_n 3, 1) := by decide +kernel
theorem dX3_faultInThree_32 : decode cX3_faultInThree 32 = .ok (.ireturn, 1) := by decide +kernel
theorem dX3_put_0 : decode cX3_put 0 = .ok (.aload_n 0, 1) := by decide +kernel
theorem dX3_put_1 : decode cX3_put 1 = .ok (.getfield 9, 3) := by decide +kernel
theorem dX3_put_4 : decode cX3_put 4 = .ok (.ifCond .ne 14, 3) := by decide +kernel
theorem dX3_put_7 : decode cX3_put 7 = .ok (.aload_n 0, 1) := by decide +kernel
theorem dX3_put_8 : decode cX3_put 8 = .ok (.getfield 18, 3) := by decide +kernel
theorem dX3_put_11 : decode cX3_put 11 = .ok (.iload_n 1, 1) := by decide +kernel
theorem dX3_put_12 : decode cX3_put 12 = .ok (.iload_n 2, 1) := by decide +kernel
theorem dX3_put_13 : decode cX3_put 13 = .ok (.i2b, 1) := by decide +kernel
theorem dX3_put_14 : decode cX3_put 14 = .ok (.iastore, 1) := by decide +kernel
theorem dX3_put_15 : decode cX3_put 15 = .ok (.goto 29, 3) := by decide +kernel
theorem dX3_put_18 : decode cX3_put 18 = .ok (.aload_n 0, 1) := by decide +kernel
theorem dX3_put_19 : decode cX3_put 19 = .ok (.getfield 9, 3) := by decide +kernel
theorem dX3_put_22 : decode cX3_put 22 = .ok (.iconst 1, 1) := by decide +kernel
theorem dX3_put_23 : decode cX3_put 23 = .ok (.if_icmp .ne 14, 3) := by decide +kernel
theorem dX3_put_26 : decode cX3_put 26 = .ok (.aload_n 0, 1) := by decide +kernel
theorem dX3_put_27 : decode cX3_put 27 = .ok (.getfield 18, 3) := by decide +kernel
theorem dX3_put_30 : decode cX3_put 30 = .ok (.iload_n 1, 1) := by decide +kernel
theorem dX3_put_31 : decode cX3_put 31 = .ok (.iload_n 2, 1) := by decide +kernel
theorem dX3_put_32 : decode cX3_put 32 = .ok (.i2s, 1) := by decide +kernel
theorem dX3_put_33 : decode cX3_put 33 = .ok (.iastore, 1) := by decide +kernel
theorem dX3_put_34 : decode cX3_put 34 = .ok (.goto 10, 3) := by decide +kernel
theorem dX3_put_37 : decode cX3_put 37 = .ok (.aload_n 0, 1) := by decide +kernel
theorem dX3_put_38 : decode cX3_put 38 = .ok (.getfield 18, 3) := by decide +kernel
theorem dX3_put_41 : decode cX3_put 41 = .ok (.iload_n 1, 1) := by decide +kernel
theorem dX3_put_42 : decode cX3_put 42 = .ok (.iload_n 2, 1) := by decide +kernel
theorem dX3_put_43 : decode cX3_put 43 = .ok (.iastore, 1) := by decide +kernel
theorem dX3_put_44 : decode cX3_put 44 = .ok (.return_, 1) := by decide +kernel
theorem dX4_init_0 : decode cX4_init 0 = .ok (.aload_n 0, 1) := by decide +kernel
theorem dX4_init_1 : decode cX4_init 1 = .ok (.invokespecial 3, 3) := by decide +kernel
theorem dX4_init_4 : decode cX4_init 4 = .ok (.aload_n 0, 1) := by decide +kernel
theorem dX4_init_5 : decode cX4_init 5 = .ok (.iconst 0, 1) := by decide +kernel
theorem dX4_init_6 : decode cX4_init 6 = .ok (.putfield 9, 3) := by decide +kernel
theorem dX4_init_9 : decode cX4_init 9 = .ok (.aload_n 0, 1) := by decide +kernel
theorem dX4_init_10 : decode cX4_init 10 = .ok (.bipush 6, 2) := by decide +kernel
theorem dX4_init_12 : decode cX4_init 12 = .ok (.newarray .int, 2) := by decide +kernel
theorem dX4_init_14 : decode cX4_init 14 = .ok (.putfield 15, 3) := by decide +kernel
theorem dX4_init_17 : decode cX4_init 17 = .ok (.aload_n 0, 1) := by decide +kernel
theorem dX4_init_18 : decode cX4_init 18 = .ok (.bipush 6, 2) := by decide +kernel
theorem dX4_init_20 : decode cX4_init 20 = .ok (.newarray .int, 2) := by decide +kernel
theorem dX4_init_22 : decode cX4_init 22 = .ok (.putfield 19, 3) := by decide +kernel
theorem dX4_init_25 : decode cX4_init 25 = .ok (.aload_n 0, 1) := by decide +kernel
theorem dX4_init_26 : decode cX4_init 26 = .ok (.bipush 6, 2) := by decide +kernel
theorem dX4_init_28 : decode cX4_init 28 = .ok (.newarray .int, 2) := by decide +kernel
theorem dX4_init_30 : decode cX4_init 30 = .ok (.putfield 22, 3) := by decide +kernel
theorem dX4_init_33 : decode cX4_init 33 = .ok (.return_, 1) := by decide +kernel
theorem dX4_become_0 : decode cX4_become 0 = .ok (.aload_n 0, 1) := by decide +kernel
theorem dX4_become_1 : decode cX4_become 1 = .ok (.aload_n 1, 1) := by decide +kernel
theorem dX4_become_2 : decode cX4_become 2 = .ok (.getfield 9, 3) := by decide +kernel
theorem dX4_become_5 : decode cX4_become 5 = .ok (.putfield 9, 3) := by decide +kernel
theorem dX4_become_8 : decode cX4_become 8 = .ok (.aload_n 1, 1) := by decide +kernel
theorem dX4_become_9 : decode cX4_become 9 = .ok (.getfield 15, 3) := by decide +kernel
theorem dX4_become_12 : decode cX4_become 12 = .ok (.iconst 0, 1) := by decide +kernel
theorem dX4_become_13 : decode cX4_become 13 = .ok (.aload_n 0, 1) := by decide +kernel
theorem dX4_become_14 : decode cX4_become 14 = .ok (.getfield 15, 3) := by decide +kernel
theorem dX4_become_17 : decode cX4_become 17 = .ok (.iconst 0, 1) := by decide +kernel
theorem dX4_become_18 : decode cX4_become 18 = .ok (.bipush 6, 2) := by decide +kernel
theorem dX4_become_20 : decode cX4_become 20 = .ok (.invokestatic 25, 3) := by decide +kernel
theorem dX4_become_23 : decode cX4_become 23 = .ok (.aload_n 1, 1) := by decide +kernel
theorem dX4_become_24 : decode cX4_become 24 = .ok (.getfield 19, 3) := by decide +kernel
theorem dX4_become_27 : decode cX4_become 27 = .ok (.iconst 0, 1) := by decide +kernel
theorem dX4_become_28 : decode cX4_become 28 = .ok (.aload_n 0, 1) := by decide +kernel
theorem dX4_become_29 : decode cX4_become 29 = .ok (.getfield 19, 3) := by decide +kernel
theorem dX4_become_32 : decode cX4_become 32 = .ok (.iconst 0, 1) := by decide +kernel
theorem dX4_become_33 : decode cX4_become 33 = .ok (.bipush 6, 2) := by decide +kernel
theorem dX4_become_35 : decode cX4_become 35 = .ok (.invokestatic 25, 3) := by decide +kernel
theorem dX4_become_38 : decode cX4_become 38 = .ok (.aload_n 1, 1) := by decide +kernel
theorem dX4_become_39 : decode cX4_become 39 = .ok (.getfield 22, 3) := by decide +kernel
theorem dX4_become_42 : decode cX4_become 42 = .ok (.iconst 0, 1) := by decide +kernel
theorem dX4_become_43 : decode cX4_become 43 = .ok (.aload_n 0, 1) := by decide +kernel
theorem dX4_become_44 : decode cX4_become 44 = .ok (.getfield 22, 3) := by decide +kernel
theorem dX4_become_47 : decode cX4_become 47 = .ok (.iconst 0, 1) := by decide +kernel
theorem dX4_become_48 : decode cX4_become 48 = .ok (.bipush 6, 2) := by decide +kernel
theorem dX4_become_50 : decode cX4_become 50 = .ok (.invokestatic 25, 3) := by decide +kernel
theorem dX4_become_53 : decode cX4_become 53 = .ok (.return_, 1) := by decide +kernel
theorem dX4_add_0 : decode cX4_add 0 = .ok (.aload_n 0, 1) := by decide +kernel
theorem dX4_add_1 : decode cX4_add 1 = .ok (.getfield 9, 3) := by decide +kernel
theorem dX4_add_4 : decode cX4_add 4 = .ok (.bipush 6, 2) := by decide +kernel
theorem dX4_add_6 : decode cX4_add 6 = .ok (.if_icmp .ge 43, 3) := by decide +kernel
theorem dX4_add_9 : decode cX4_add 9 = .ok (.aload_n 0, 1) := by decide +kernel
theorem dX4_add_10 : decode cX4_add 10 = .ok (.getfield 15, 3) := by decide +kernel
theorem dX4_add_13 : decode cX4_add 13 = .ok (.aload_n 0, 1) := by decide +kernel
theorem dX4_add_14 : decode cX4_add 14 = .ok (.getfield 9, 3) := by decide +kernel
theorem dX4_add_17 : decode cX4_add 17 = .ok (.iload_n 1, 1) := by decide +kernel
theorem dX4_add_18 : decode cX4_add 18 = .ok (.iastore, 1) := by decide +kernel
theorem dX4_add_19 : decode cX4_add 19 = .ok (.aload_n 0, 1) := by decide +kernel
theorem dX4_add_20 : decode cX4_add 20 = .ok (.getfield 19, 3) := by decide +kernel
theorem dX4_add_23 : decode cX4_add 23 = .ok (.aload_n 0, 1) := by decide +kernel
theorem dX4_add_24 : decode cX4_add 24 = .ok (.getfield 9, 3) := by decide +kernel
theorem dX4_add_27 : decode cX4_add 27 = .ok (.iload_n 2, 1) := by decide +kernel
theorem dX4_add_28 : decode cX4_add 28 = .ok (.iastore, 1) := by decide +kernel
theorem dX4_add_29 : decode cX4_add 29 = .ok (.aload_n 0, 1) := by decide +kernel
theorem dX4_add_30 : decode cX4_add 30 = .ok (.getfield 22, 3) := by decide +kernel
theorem dX4_add_33 : decode cX4_add 33 = .ok (.aload_n 0, 1) := by decide +kernel
theorem dX4_add_34 : decode cX4_add 34 = .ok (.getfield 9, 3) := by decide +kernel
theorem dX4_add_37 : decode cX4_add 37 = .ok (.iload_n 3, 1) := by decide +kernel
theorem dX4_add_38 : decode cX4_add 38 = .ok (.iastore, 1) := by decide +kernel
theorem dX4_add_39 : decode cX4_add 39 = .ok (.aload_n 0, 1) := by decide +kernel
theorem dX4_add_40 : decode cX4_add 40 = .ok (.dup, 1) := by decide +kernel
theorem dX4_add_41 : decode cX4_add 41 = .ok (.getfield 9, 3) := by decide +kernel
theorem dX4_add_44 : decode cX4_add 44 = .ok (.iconst 1, 1) := by decide +kernel
theorem dX4_add_45 : decode cX4_add 45 = .ok (.iadd, 1) := by decide +kernel
theorem dX4_add_46 : decode cX4_add 46 = .ok (.putfield 9, 3) := by decide +kernel
theorem dX4_add_49 : decode cX4_add 49 = .ok (.return_, 1) := by decide +kernel
theorem dX4_agreeWith_0 : decode cX4_agreeWith 0 = .ok (.iconst 0, 1) := by decide +kernel
theorem dX4_agreeWith_1 : decode cX4_agreeWith 1 = .ok (.istore_n 2, 1) := by decide +kernel
theorem dX4_agreeWith_2 : decode cX4_agreeWith 2 = .ok (.iconst 0, 1) := by decide +kernel
theorem dX4_agreeWith_3 : decode cX4_agreeWith 3 = .ok (.istore_n 3, 1) := by decide +kernel
theorem dX4_agreeWith_4 : decode cX4_agreeWith 4 = .ok (.iload_n 3, 1) := by decide +kernel
theorem dX4_agreeWith_5 : decode cX4_agreeWith 5 = .ok (.aload_n 0, 1) := by decide +kernel
theorem dX4_agreeWith_6 : decode cX4_agreeWith 6 = .ok (.getfield 9, 3) := by decide +kernel
theorem dX4_agreeWith_9 : decode cX4_agreeWith 9 = .ok (.if_icmp .ge 20, 3) := by decide +kernel
theorem dX4_agreeWith_12 : decode cX4_agreeWith 12 = .ok (.iload_n 2, 1) := by decide +kernel
theorem dX4_agreeWith_13 : decode cX4_agreeWith 13 = .ok (.aload_n 0, 1) := by decide +kernel
theorem dX4_agreeWith_14 : decode cX4_agreeWith 14 = .ok (.getfield 15, 3) := by decide +kernel
theorem dX4_agreeWith_17 : decode cX4_agreeWith 17 = .ok (.iload_n 3, 1) := by decide +kernel
theorem dX4_agreeWith_18 : decode cX4_agreeWith 18 = .ok (.iaload, 1) := by decide +kernel
theorem dX4_agreeWith_19 : decode cX4_agreeWith 19 = .ok (.invokestatic 31, 3) := by decide +kernel
theorem dX4_agreeWith_22 : decode cX4_agreeWith 22 = .ok (.istore_n 2, 1) := by decide +kernel
theorem dX4_agreeWith_23 : decode cX4_agreeWith 23 = .ok (.iinc 3 1, 3) := by decide +kernel
theorem dX4_agreeWith_26 : decode cX4_agreeWith 26 = .ok (.goto (-22), 3) := by decide +kernel
theorem dX4_agreeWith_29 : decode cX4_agreeWith 29 = .ok (.iconst 0, 1) := by decide +kernel
theorem dX4_agreeWith_30 : decode cX4_agreeWith 30 = .ok (.istore_n 3, 1) := by decide +kernel
theorem dX4_agreeWith_31 : decode cX4_agreeWith 31 = .ok (.iload_n 3, 1) := by decide +kernel
theorem dX4_agreeWith_32 : decode cX4_agreeWith 32 = .ok (.iload_n 2, 1) := by decide +kernel
theorem dX4_agreeWith_33 : decode cX4_agreeWith 33 = .ok (.if_icmp .gt 28, 3) := by decide +kernel
theorem dX4_agreeWith_36 : decode cX4_agreeWith 36 = .ok (.iload_n 3, 1) := by decide +kernel
theorem dX4_agreeWith_37 : decode cX4_agreeWith 37 = .ok (.ifCond .le 7, 3) := by decide +kernel
theorem dX4_agreeWith_40 : decode cX4_agreeWith 40 = .ok (.aload_n 1, 1) := by decide +kernel
theorem dX4_agreeWith_41 : decode cX4_agreeWith 41 = .ok (.invokevirtual 37, 3) := by decide +kernel
theorem dX4_agreeWith_44 : decode cX4_agreeWith 44 = .ok (.aload_n 0, 1) := by decide +kernel
theorem dX4_agreeWith_45 : decode cX4_agreeWith 45 = .ok (.iload_n 3, 1) := by decide +kernel
theorem dX4_agreeWith_46 : decode cX4_agreeWith 46 = .ok (.aload_n 1, 1) := by decide +kernel
theorem dX4_agreeWith_47 : decode cX4_agreeWith 47 = .ok (.invokevirtual 42, 3) := by decide +kernel
theorem dX4_agreeWith_50 : decode cX4_agreeWith 50 = .ok (.ifCond .ne 5, 3) := by decide +kernel
theorem dX4_agreeWith_53 : decode cX4_agreeWith 53 = .ok (.iconst 0, 1) := by decide +kernel
theorem dX4_agreeWith_54 : decode cX4_agreeWith 54 = .ok (.ireturn, 1) := by decide +kernel
theorem dX4_agreeWith_55 : decode cX4_agreeWith 55 = .ok (.iinc 3 1, 3) := by decide +kernel
theorem dX4_agreeWith_58 : decode cX4_agreeWith 58 = .ok (.goto (-27), 3) := by decide +kernel
theorem dX4_agreeWith_61 : decode cX4_agreeWith 61 = .ok (.iconst 1, 1) := by decide +kernel
theorem dX4_agreeWith_62 : decode cX4_agreeWith 62 = .ok (.ireturn, 1) := by decide +kernel
theorem dX4_agreeBehind_0 : decode cX4_agreeBehind 0 = .ok (.iconst 0, 1) := by decide +kernel
theorem dX4_agreeBehind_1 : decode cX4_agreeBehind 1 = .ok (.istore_n 3, 1) := by decide +kernel
theorem dX4_agreeBehind_2 : decode cX4_agreeBehind 2 = .ok (.iload_n 3, 1) := by decide +kernel
theorem dX4_agreeBehind_3 : decode cX4_agreeBehind 3 = .ok (.aload_n 0, 1) := by decide +kernel
theorem dX4_agreeBehind_4 : decode cX4_agreeBehind 4 = .ok (.getfield 9, 3) := by decide +kernel
theorem dX4_agreeBehind_7 : decode cX4_agreeBehind 7 = .ok (.if_icmp .ge 41, 3) := by decide +kernel
theorem dX4_agreeBehind_10 : decode cX4_agreeBehind 10 = .ok (.aload_n 0, 1) := by decide +kernel
theorem dX4_agreeBehind_11 : decode cX4_agreeBehind 11 = .ok (.getfield 15, 3) := by decide +kernel
theorem dX4_agreeBehind_14 : decode cX4_agreeBehind 14 = .ok (.iload_n 3, 1) := by decide +kernel
theorem dX4_agreeBehind_15 : decode cX4_agreeBehind 15 = .ok (.iaload, 1) := by decide +kernel
theorem dX4_agreeBehind_16 : decode cX4_agreeBehind 16 = .ok (.iload_n 1, 1) := by decide +kernel
theorem dX4_agreeBehind_17 : decode cX4_agreeBehind 17 = .ok (.if_icmp .ne 25, 3) := by decide +kernel
theorem dX4_agreeBehind_20 : decode cX4_agreeBehind 20 = .ok (.aload_n 2, 1) := by decide +kernel
theorem dX4_agreeBehind_21 : decode cX4_agreeBehind 21 = .ok (.getfield 46, 3) := by decide +kernel
theorem dX4_agreeBehind_24 : decode cX4_agreeBehind 24 = .ok (.aload_n 0, 1) := by decide +kernel
theorem dX4_agreeBehind_25 : decode cX4_agreeBehind 25 = .ok (.getfield 19, 3) := by decide +kernel
theorem dX4_agreeBehind_28 : decode cX4_agreeBehind 28 = .ok (.iload_n 3, 1) := by decide +kernel
theorem dX4_agreeBehind_29 : decode cX4_agreeBehind 29 = .ok (.iaload, 1) := by decide +kernel
theorem dX4_agreeBehind_30 : decode cX4_agreeBehind 30 = .ok (.iaload, 1) := by decide +kernel
theorem dX4_agreeBehind_31 : decode cX4_agreeBehind 31 = .ok (.aload_n 0, 1) := by decide +kernel
theorem dX4_agreeBehind_32 : decode cX4_agreeBehind 32 = .ok (.getfield 22, 3) := by decide +kernel
theorem dX4_agreeBehind_35 : decode cX4_agreeBehind 35 = .ok (.iload_n 3, 1) := by decide +kernel
theorem dX4_agreeBehind_36 : decode cX4_agreeBehind 36 = .ok (.iaload, 1) := by decide +kernel
theorem dX4_agreeBehind_37 : decode cX4_agreeBehind 37 = .ok (.if_icmp .eq 5, 3) := by decide +kernel
theorem dX4_agreeBehind_40 : decode cX4_agreeBehind 40 = .ok (.iconst 0, 1) := by decide +kernel
theorem dX4_agreeBehind_41 : decode cX4_agreeBehind 41 = .ok (.ireturn, 1) := by decide +kernel
theorem dX4_agreeBehind_42 : decode cX4_agreeBehind 42 = .ok (.iinc 3 1, 3) := by decide +kernel
theorem dX4_agreeBehind_45 : decode cX4_agreeBehind 45 = .ok (.goto (-43), 3) := by decide +kernel
theorem dX4_agreeBehind_48 : decode cX4_agreeBehind 48 = .ok (.iconst 1, 1) := by decide +kernel
theorem dX4_agreeBehind_49 : decode cX4_agreeBehind 49 = .ok (.ireturn, 1) := by decide +kernel
theorem dJ0_length_8abf5_0 : decode cJ0_length_8abf5 0 = .ok (.aload_n 0, 1) := by decide +kernel
theorem dJ0_length_8abf5_1 : decode cJ0_length_8abf5 1 = .ok (.getfield 9, 3) := by decide +kernel
theorem dJ0_length_8abf5_4 : decode cJ0_length_8abf5 4 = .ok (.arraylength, 1) := by decide +kernel
theorem dJ0_length_8abf5_5 : decode cJ0_length_8abf5 5 = .ok (.aload_n 0, 1) := by decide +kernel
theorem dJ0_length_8abf5_6 : decode cJ0_length_8abf5 6 = .ok (.invokevirtual 335, 3) := by decide +kernel
theorem dJ0_length_8abf5_9 : decode cJ0_length_8abf5 9 = .ok (.ishr, 1) := by decide +kernel
theorem dJ0_length_8abf5_10 : decode cJ0_length_8abf5 10 = .ok (.ireturn, 1) := by decide +kernel
theorem dJ0_charAt_5068e_0 : decode cJ0_charAt_5068e 0 = .ok (.aload_n 0, 1) := by decide +kernel
theorem dJ0_charAt_5068e_1 : decode cJ0_charAt_5068e 1 = .ok (.invokevirtual 492, 3) := by decide +kernel
theorem dJ0_charAt_5068e_4 : decode cJ0_charAt_5068e 4 = .ok (.ifCond .eq 12, 3) := by decide +kernel
theorem dJ0_charAt_5068e_7 : decode cJ0_charAt_5068e 7 = .ok (.aload_n 0, 1) := by decide +kernel
theorem dJ0_charAt_5068e_8 : decode cJ0_charAt_5068e 8 = .ok (.getfield 9, 3) := by decide +kernel
theorem dJ0_charAt_5068e_11 : decode cJ0_charAt_5068e 11 = .ok (.iload_n 1, 1) := by decide +kernel
theorem dJ0_charAt_5068e_12 : decode cJ0_charAt_5068e 12 = .ok (.invokestatic 495, 3) := by decide +kernel
theorem dJ0_charAt_5068e_15 : decode cJ0_charAt_5068e 15 = .ok (.ireturn, 1) := by decide +kernel
theorem dJ0_charAt_5068e_16 : decode cJ0_charAt_5068e 16 = .ok (.aload_n 0, 1) := by decide +kernel
theorem dJ0_charAt_5068e_17 : decode cJ0_charAt_5068e 17 = .ok (.getfield 9, 3) := by decide +kernel
theorem dJ0_charAt_5068e_20 : decode cJ0_charAt_5068e 20 = .ok (.iload_n 1, 1) := by decide +kernel
theorem dJ0_charAt_5068e_21 : decode cJ0_charAt_5068e 21 = .ok (.invokestatic 498, 3) := by decide +kernel
theorem dJ0_charAt_5068e_24 : decode cJ0_charAt_5068e 24 = .ok (.ireturn, 1) := by decide +kernel
theorem dJ0_coder_7d493_0 : decode cJ0_coder_7d493 0 = .ok (.getstatic 38, 3) := by decide +kernel
theorem dJ0_coder_7d493_3 : decode cJ0_coder_7d493 3 = .ok (.ifCond .eq 10, 3) := by decide +kernel
theorem dJ0_coder_7d493_6 : decode cJ0_coder_7d493 6 = .ok (.aload_n 0, 1) := by decide +kernel
theorem dJ0_coder_7d493_7 : decode cJ0_coder_7d493 7 = .ok (.getfield 15, 3) := by decide +kernel
theorem dJ0_coder_7d493_10 : decode cJ0_coder_7d493 10 = .ok (.goto 4, 3) := by decide +kernel
theorem dJ0_coder_7d493_13 : decode cJ0_coder_7d493 13 = .ok (.iconst 1, 1) := by decide +kernel
theorem dJ0_coder_7d493_14 : decode cJ0_coder_7d493 14 = .ok (.ireturn, 1) := by decide +kernel
theorem dJ0_isLatin1_aae02_0 : decode cJ0_isLatin1_aae02 0 = .ok (.getstatic 38, 3) := by decide +kernel
theorem dJ0_isLatin1_aae02_3 : decode cJ0_isLatin1_aae02 3 = .ok (.ifCond .eq 14, 3) := by decide +kernel
theorem dJ0_isLatin1_aae02_6 : decode cJ0_isLatin1_aae02 6 = .ok (.aload_n 0, 1) := by decide +kernel
theorem dJ0_isLatin1_aae02_7 : decode cJ0_isLatin1_aae02 7 = .ok (.getfield 15, 3) := by decide +kernel
theorem dJ0_isLatin1_aae02_10 : decode cJ0_isLatin1_aae02 10 = .ok (.ifCond .ne 7, 3) := by decide +kernel
theorem dJ0_isLatin1_aae02_13 : decode cJ0_isLatin1_aae02 13 = .ok (.iconst 1, 1) := by decide +kernel
theorem dJ0_isLatin1_aae02_14 : decode cJ0_isLatin1_aae02 14 = .ok (.goto 4, 3) := by decide +kernel
theorem dJ0_isLatin1_aae02_17 : decode cJ0_isLatin1_aae02 17 = .ok (.iconst 0, 1) := by decide +kernel
theorem dJ0_isLatin1_aae02_18 : decode cJ0_isLatin1_aae02 18 = .ok (.ireturn, 1) := by decide +kernel
theorem dJ0_checkIndex_df160_0 : decode cJ0_checkIndex_df160 0 = .ok (.iload_n 0, 1) := by decide +kernel
theorem dJ0_checkIndex_df160_1 : decode cJ0_checkIndex_df160 1 = .ok (.iload_n 1, 1) := by decide +kernel
theorem dJ0_checkIndex_df160_2 : decode cJ0_checkIndex_df160 2 = .ok (.getstatic 1053, 3) := by decide +kernel
theorem dJ0_checkIndex_df160_5 : decode cJ0_checkIndex_df160 5 = .ok (.invokestatic 1059, 3) := by decide +kernel
theorem dJ0_checkIndex_df160_8 : decode cJ0_checkIndex_df160 8 = .ok (.pop, 1) := by decide +kernel
theorem dJ0_checkIndex_df160_9 : decode cJ0_checkIndex_df160 9 = .ok (.return_, 1) := by decide +kernel
theorem dJ1_charAt_3b067_0 : decode cJ1_charAt_3b067 0 = .ok (.iload_n 1, 1) := by decide +kernel
theorem dJ1_charAt_3b067_1 : decode cJ1_charAt_3b067 1 = .ok (.aload_n 0, 1) := by decide +kernel
theorem dJ1_charAt_3b067_2 : decode cJ1_charAt_3b067 2 = .ok (.arraylength, 1) := by decide +kernel
theorem dJ1_charAt_3b067_3 : decode cJ1_charAt_3b067 3 = .ok (.invokestatic 9, 3) := by decide +kernel
theorem dJ1_charAt_3b067_6 : decode cJ1_charAt_3b067 6 = .ok (.aload_n 0, 1) := by decide +kernel
theorem dJ1_charAt_3b067_7 : decode cJ1_charAt_3b067 7 = .ok (.iload_n 1, 1) := by decide +kernel
theorem dJ1_charAt_3b067_8 : decode cJ1_charAt_3b067 8 = .ok (.baload, 1) := by decide +kernel
theorem dJ1_charAt_3b067_9 : decode cJ1_charAt_3b067 9 = .ok (.sipush 255, 3) := by decide +kernel
theorem dJ1_charAt_3b067_12 : decode cJ1_charAt_3b067 12 = .ok (.iand, 1) := by decide +kernel
theorem dJ1_charAt_3b067_13 : decode cJ1_charAt_3b067 13 = .ok (.i2c, 1) := by decide +kernel
theorem dJ1_charAt_3b067_14 : decode cJ1_charAt_3b067 14 = .ok (.ireturn, 1) := by decide +kernel
theorem dJ2_getChar_3b067_0 : decode cJ2_getChar_3b067 0 = .ok (.getstatic 44, 3) := by decide +kernel
theorem dJ2_getChar_3b067_3 : decode cJ2_getChar_3b067 3 = .ok (.ifCond .ne 25, 3) := by decide +kernel
theorem dJ2_getChar_3b067_6 : decode cJ2_getChar_3b067 6 = .ok (.iload_n 1, 1) := by decide +kernel
theorem dJ2_getChar_3b067_7 : decode cJ2_getChar_3b067 7 = .ok (.ifCond .lt 11, 3) := by decide +kernel
theorem dJ2_getChar_3b067_10 : decode cJ2_getChar_3b067 10 = .ok (.iload_n 1, 1) := by decide +kernel
theorem dJ2_getChar_3b067_11 : decode cJ2_getChar_3b067 11 = .ok (.aload_n 0, 1) := by decide +kernel
theorem dJ2_getChar_3b067_12 : decode cJ2_getChar_3b067 12 = .ok (.invokestatic 48, 3) := by decide +kernel
theorem dJ2_getChar_3b067_15 : decode cJ2_getChar_3b067 15 = .ok (.if_icmp .lt 13, 3) := by decide +kernel
theorem dJ2_getChar_3b067_18 : decode cJ2_getChar_3b067 18 = .ok (.new 52, 3) := by decide +kernel
theorem dJ2_getChar_3b067_21 : decode cJ2_getChar_3b067 21 = .ok (.dup, 1) := by decide +kernel
theorem dJ2_getChar_3b067_22 : decode cJ2_getChar_3b067 22 = .ok (.ldc 54, 2) := by decide +kernel
theorem dJ2_getChar_3b067_24 : decode cJ2_getChar_3b067 24 = .ok (.invokespecial 56, 3) := by decide +kernel
theorem dJ2_getChar_3b067_27 : decode cJ2_getChar_3b067 27 = .ok (.athrow, 1) := by decide +kernel
theorem dJ2_getChar_3b067_28 : decode cJ2_getChar_3b067 28 = .ok (.iload_n 1, 1) := by decide +kernel
theorem dJ2_getChar_3b067_29 : decode cJ2_getChar_3b067 29 = .ok (.iconst 1, 1) := by decide +kernel
theorem dJ2_getChar_3b067_30 : decode cJ2_getChar_3b067 30 = .ok (.ishl, 1) := by decide +kernel
theorem dJ2_getChar_3b067_31 : decode cJ2_getChar_3b067 31 = .ok (.istore_n 1, 1) := by decide +kernel
theorem dJ2_getChar_3b067_32 : decode cJ2_getChar_3b067 32 = .ok (.aload_n 0, 1) := by decide +kernel
theorem dJ2_getChar_3b067_33 : decode cJ2_getChar_3b067 33 = .ok (.iload_n 1, 1) := by decide +kernel
theorem dJ2_getChar_3b067_34 : decode cJ2_getChar_3b067 34 = .ok (.iinc 1 1, 3) := by decide +kernel
theorem dJ2_getChar_3b067_37 : decode cJ2_getChar_3b067 37 = .ok (.baload, 1) := by decide +kernel
theorem dJ2_getChar_3b067_38 : decode cJ2_getChar_3b067 38 = .ok (.sipush 255, 3) := by decide +kernel
theorem dJ2_getChar_3b067_41 : decode cJ2_getChar_3b067 41 = .ok (.iand, 1) := by decide +kernel
theorem dJ2_getChar_3b067_42 : decode cJ2_getChar_3b067 42 = .ok (.getstatic 59, 3) := by decide +kernel
theorem dJ2_getChar_3b067_45 : decode cJ2_getChar_3b067 45 = .ok (.ishl, 1) := by decide +kernel
theorem dJ2_getChar_3b067_46 : decode cJ2_getChar_3b067 46 = .ok (.aload_n 0, 1) := by decide +kernel
theorem dJ2_getChar_3b067_47 : decode cJ2_getChar_3b067 47 = .ok (.iload_n 1, 1) := by decide +kernel
theorem dJ2_getChar_3b067_48 : decode cJ2_getChar_3b067 48 = .ok (.baload, 1) := by decide +kernel
theorem dJ2_getChar_3b067_49 : decode cJ2_getChar_3b067 49 = .ok (.sipush 255, 3) := by decide +kernel
theorem dJ2_getChar_3b067_52 : decode cJ2_getChar_3b067 52 = .ok (.iand, 1) := by decide +kernel
theorem dJ2_getChar_3b067_53 : decode cJ2_getChar_3b067 53 = .ok (.getstatic 63, 3) := by decide +kernel
theorem dJ2_getChar_3b067_56 : decode cJ2_getChar_3b067 56 = .ok (.ishl, 1) := by decide +kernel
theorem dJ2_getChar_3b067_57 : decode cJ2_getChar_3b067 57 = .ok (.ior, 1) := by decide +kernel
theorem dJ2_getChar_3b067_58 : decode cJ2_getChar_3b067 58 = .ok (.i2c, 1) := by decide +kernel
theorem dJ2_getChar_3b067_59 : decode cJ2_getChar_3b067 59 = .ok (.ireturn, 1) := by decide +kernel
theorem dJ2_length_9d52b_0 : decode cJ2_length_9d52b 0 = .ok (.aload_n 0, 1) := by decide +kernel
theorem dJ2_length_9d52b_1 : decode cJ2_length_9d52b 1 = .ok (.arraylength, 1) := by decide +kernel
theorem dJ2_length_9d52b_2 : decode cJ2_length_9d52b 2 = .ok (.iconst 1, 1) := by decide +kernel
theorem dJ2_length_9d52b_3 : decode cJ2_length_9d52b 3 = .ok (.ishr, 1) := by decide +kernel
theorem dJ2_length_9d52b_4 : decode cJ2_length_9d52b 4 = .ok (.ireturn, 1) := by decide +kernel
theorem dJ2_charAt_3b067_0 : decode cJ2_charAt_3b067 0 = .ok (.iload_n 1, 1) := by decide +kernel
theorem dJ2_charAt_3b067_1 : decode cJ2_charAt_3b067 1 = .ok (.aload_n 0, 1) := by decide +kernel
theorem dJ2_charAt_3b067_2 : decode cJ2_charAt_3b067 2 = .ok (.invokestatic 67, 3) := by decide +kernel
theorem dJ2_charAt_3b067_5 : decode cJ2_charAt_3b067 5 = .ok (.aload_n 0, 1) := by decide +kernel
theorem dJ2_charAt_3b067_6 : decode cJ2_charAt_3b067 6 = .ok (.iload_n 1, 1) := by decide +kernel
theorem dJ2_charAt_3b067_7 : decode cJ2_charAt_3b067 7 = .ok (.invokestatic 71, 3) := by decide +kernel
theorem dJ2_charAt_3b067_10 : decode cJ2_charAt_3b067 10 = .ok (.ireturn, 1) := by decide +kernel
theorem dJ2_checkIndex_2214a_0 : decode cJ2_checkIndex_2214a 0 = .ok (.iload_n 0, 1) := by decide +kernel
theorem dJ2_checkIndex_2214a_1 : decode cJ2_checkIndex_2214a 1 = .ok (.aload_n 1, 1) := by decide +kernel
theorem dJ2_checkIndex_2214a_2 : decode cJ2_checkIndex_2214a 2 = .ok (.invokestatic 48, 3) := by decide +kernel
theorem dJ2_checkIndex_2214a_5 : decode cJ2_checkIndex_2214a 5 = .ok (.invokestatic 414, 3) := by decide +kernel
theorem dJ2_checkIndex_2214a_8 : decode cJ2_checkIndex_2214a 8 = .ok (.return_, 1) := by decide +kernel
theorem dJ3_checkIndex_8e157_0 : decode cJ3_checkIndex_8e157 0 = .ok (.iload_n 0, 1) := by decide +kernel
theorem dJ3_checkIndex_8e157_1 : decode cJ3_checkIndex_8e157 1 = .ok (.ifCond .lt 8, 3) := by decide +kernel
theorem dJ3_checkIndex_8e157_4 : decode cJ3_checkIndex_8e157 4 = .ok (.iload_n 0, 1) := by decide +kernel
theorem dJ3_checkIndex_8e157_5 : decode cJ3_checkIndex_8e157 5 = .ok (.iload_n 1, 1) := by decide +kernel
theorem dJ3_checkIndex_8e157_6 : decode cJ3_checkIndex_8e157 6 = .ok (.if_icmp .lt 10, 3) := by decide +kernel
theorem dJ3_checkIndex_8e157_9 : decode cJ3_checkIndex_8e157 9 = .ok (.aload_n 2, 1) := by decide +kernel
theorem dJ3_checkIndex_8e157_10 : decode cJ3_checkIndex_8e157 10 = .ok (.iload_n 0, 1) := by decide +kernel
theorem dJ3_checkIndex_8e157_11 : decode cJ3_checkIndex_8e157 11 = .ok (.iload_n 1, 1) := by decide +kernel
theorem dJ3_checkIndex_8e157_12 : decode cJ3_checkIndex_8e157 12 = .ok (.invokestatic 95, 3) := by decide +kernel
theorem dJ3_checkIndex_8e157_15 : decode cJ3_checkIndex_8e157 15 = .ok (.athrow, 1) := by decide +kernel
theorem dJ3_checkIndex_8e157_16 : decode cJ3_checkIndex_8e157 16 = .ok (.iload_n 0, 1) := by decide +kernel
theorem dJ3_checkIndex_8e157_17 : decode cJ3_checkIndex_8e157 17 = .ok (.ireturn, 1) := by decide +kernel
theorem dJ6_signum_0f7a4_0 : decode cJ6_signum_0f7a4 0 = .ok (.iload_n 0, 1) := by decide +kernel
theorem dJ6_signum_0f7a4_1 : decode cJ6_signum_0f7a4 1 = .ok (.bipush 31, 2) := by decide +kernel
theorem dJ6_signum_0f7a4_3 : decode cJ6_signum_0f7a4 3 = .ok (.ishr, 1) := by decide +kernel
theorem dJ6_signum_0f7a4_4 : decode cJ6_signum_0f7a4 4 = .ok (.iload_n 0, 1) := by decide +kernel
theorem dJ6_signum_0f7a4_5 : decode cJ6_signum_0f7a4 5 = .ok (.ineg, 1) := by decide +kernel
theorem dJ6_signum_0f7a4_6 : decode cJ6_signum_0f7a4 6 = .ok (.bipush 31, 2) := by decide +kernel
theorem dJ6_signum_0f7a4_8 : decode cJ6_signum_0f7a4 8 = .ok (.iushr, 1) := by decide +kernel
theorem dJ6_signum_0f7a4_9 : decode cJ6_signum_0f7a4 9 = .ok (.ior, 1) := by decide +kernel
theorem dJ6_signum_0f7a4_10 : decode cJ6_signum_0f7a4 10 = .ok (.ireturn, 1) := by decide +kernel
theorem dJ7_fill_53178_0 : decode cJ7_fill_53178 0 = .ok (.iconst 0, 1) := by decide +kernel
theorem dJ7_fill_53178_1 : decode cJ7_fill_53178 1 = .ok (.istore_n 2, 1) := by decide +kernel
theorem dJ7_fill_53178_2 : decode cJ7_fill_53178 2 = .ok (.aload_n 0, 1) := by decide +kernel
theorem dJ7_fill_53178_3 : decode cJ7_fill_53178 3 = .ok (.arraylength, 1) := by decide +kernel
theorem dJ7_fill_53178_4 : decode cJ7_fill_53178 4 = .ok (.istore_n 3, 1) := by decide +kernel
theorem dJ7_fill_53178_5 : decode cJ7_fill_53178 5 = .ok (.iload_n 2, 1) := by decide +kernel
theorem dJ7_fill_53178_6 : decode cJ7_fill_53178 6 = .ok (.iload_n 3, 1) := by decide +kernel
theorem dJ7_fill_53178_7 : decode cJ7_fill_53178 7 = .ok (.if_icmp .ge 13, 3) := by decide +kernel
theorem dJ7_fill_53178_10 : decode cJ7_fill_53178 10 = .ok (.aload_n 0, 1) := by decide +kernel
theorem dJ7_fill_53178_11 : decode cJ7_fill_53178 11 = .ok (.iload_n 2, 1) := by decide +kernel
theorem dJ7_fill_53178_12 : decode cJ7_fill_53178 12 = .ok (.iload_n 1, 1) := by decide +kernel
theorem dJ7_fill_53178_13 : decode cJ7_fill_53178 13 = .ok (.iastore, 1) := by decide +kernel
theorem dJ7_fill_53178_14 : decode cJ7_fill_53178 14 = .ok (.iinc 2 1, 3) := by decide +kernel
theorem dJ7_fill_53178_17 : decode cJ7_fill_53178 17 = .ok (.goto (-12), 3) := by decide +kernel
theorem dJ7_fill_53178_20 : decode cJ7_fill_53178 20 = .ok (.return_, 1) := by decide +kernel
theorem dJ9_abs_0f7a4_0 : decode cJ9_abs_0f7a4 0 = .ok (.iload_n 0, 1) := by decide +kernel
theorem dJ9_abs_0f7a4_1 : decode cJ9_abs_0f7a4 1 = .ok (.ifCond .ge 8, 3) := by decide +kernel
theorem dJ9_abs_0f7a4_4 : decode cJ9_abs_0f7a4 4 = .ok (.iload_n 0, 1) := by decide +kernel
theorem dJ9_abs_0f7a4_5 : decode cJ9_abs_0f7a4 5 = .ok (.ineg, 1) := by decide +kernel
theorem dJ9_abs_0f7a4_6 : decode cJ9_abs_0f7a4 6 = .ok (.goto 4, 3) := by decide +kernel
theorem dJ9_abs_0f7a4_9 : decode cJ9_abs_0f7a4 9 = .ok (.iload_n 0, 1) := by decide +kernel
theorem dJ9_abs_0f7a4_10 : decode cJ9_abs_0f7a4 10 = .ok (.ireturn, 1) := by decide +kernel
theorem dJ9_max_7cf53_0 : decode cJ9_max_7cf53 0 = .ok (.iload_n 0, 1) := by decide +kernel
theorem dJ9_max_7cf53_1 : decode cJ9_max_7cf53 1 = .ok (.iload_n 1, 1) := by decide +kernel
theorem dJ9_max_7cf53_2 : decode cJ9_max_7cf53 2 = .ok (.if_icmp .lt 7, 3) := by decide +kernel
theorem dJ9_max_7cf53_5 : decode cJ9_max_7cf53 5 = .ok (.iload_n 0, 1) := by decide +kernel
theorem dJ9_max_7cf53_6 : decode cJ9_max_7cf53 6 = .ok (.goto 4, 3) := by decide +kernel
theorem dJ9_max_7cf53_9 : decode cJ9_max_7cf53 9 = .ok (.iload_n 1, 1) := by decide +kernel
theorem dJ9_max_7cf53_10 : decode cJ9_max_7cf53 10 = .ok (.ireturn, 1) := by decide +kernel
theorem dJ9_max_f86c9_0 : decode cJ9_max_f86c9 0 = .ok (.lload_n 0, 1) := by decide +kernel
theorem dJ9_max_f86c9_1 : decode cJ9_max_f86c9 1 = .ok (.lload_n 2, 1) := by decide +kernel
theorem dJ9_max_f86c9_2 : decode cJ9_max_f86c9 2 = .ok (.lcmp, 1) := by decide +kernel
theorem dJ9_max_f86c9_3 : decode cJ9_max_f86c9 3 = .ok (.ifCond .lt 7, 3) := by decide +kernel
theorem dJ9_max_f86c9_6 : decode cJ9_max_f86c9 6 = .ok (.lload_n 0, 1) := by decide +kernel
theorem dJ9_max_f86c9_7 : decode cJ9_max_f86c9 7 = .ok (.goto 4, 3) := by decide +kernel
theorem dJ9_max_f86c9_10 : decode cJ9_max_f86c9 10 = .ok (.lload_n 2, 1) := by decide +kernel
theorem dJ9_max_f86c9_11 : decode cJ9_max_f86c9 11 = .ok (.lreturn, 1) := by decide +kernel
theorem dJ9_min_7cf53_0 : decode cJ9_min_7cf53 0 = .ok (.iload_n 0, 1) := by decide +kernel
theorem dJ9_min_7cf53_1 : decode cJ9_min_7cf53 1 = .ok (.iload_n 1, 1) := by decide +kernel
theorem dJ9_min_7cf53_2 : decode cJ9_min_7cf53 2 = .ok (.if_icmp .gt 7, 3) := by decide +kernel
theorem dJ9_min_7cf53_5 : decode cJ9_min_7cf53 5 = .ok (.iload_n 0, 1) := by decide +kernel
theorem dJ9_min_7cf53_6 : decode cJ9_min_7cf53 6 = .ok (.goto 4, 3) := by decide +kernel
theorem dJ9_min_7cf53_9 : decode cJ9_min_7cf53 9 = .ok (.iload_n 1, 1) := by decide +kernel
theorem dJ9_min_7cf53_10 : decode cJ9_min_7cf53 10 = .ok (.ireturn, 1) := by decide +kernel
end
section
theorem dX5_init_0 : decode cX5_init 0 = .ok (.aload_n 0, 1) := by decide +kernel
theorem dX5_init_1 : decode cX5_init 1 = .ok (.invokespecial 1, 3) := by decide +kernel
theorem dX5_init_4 : decode cX5_init 4 = .ok (.aload_n 0, 1) := by decide +kernel
theorem dX5_init_5 : decode cX5_init 5 = .ok (.new 7, 3) := by decide +kernel
theorem dX5_init_8 : decode cX5_init 8 = .ok (.dup, 1) := by decide +kernel
theorem dX5_init_9 : decode cX5_init 9 = .ok (.invokespecial 9, 3) := by decide +kernel
theorem dX5_init_12 : decode cX5_init 12 = .ok (.putfield 10, 3) := by decide +kernel
theorem dX5_init_15 : decode cX5_init 15 = .ok (.aload_n 0, 1) := by decide +kernel
theorem dX5_init_16 : decode cX5_init 16 = .ok (.new 7, 3) := by decide +kernel
theorem dX5_init_19 : decode cX5_init 19 = .ok (.dup, 1) := by decide +kernel
theorem dX5_init_20 : decode cX5_init 20 = .ok (.invokespecial 9, 3) := by decide +kernel
theorem dX5_init_23 : decode cX5_init 23 = .ok (.putfield 16, 3) := by decide +kernel
theorem dX5_init_26 : decode cX5_init 26 = .ok (.aload_n 0, 1) := by decide +kernel
theorem dX5_init_27 : decode cX5_init 27 = .ok (.new 19, 3) := by decide +kernel
theorem dX5_init_30 : decode cX5_init 30 = .ok (.dup, 1) := by decide +kernel
theorem dX5_init_31 : decode cX5_init 31 = .ok (.invokespecial 21, 3) := by decide +kernel
theorem dX5_init_34 : decode cX5_init 34 = .ok (.putfield 22, 3) := by decide +kernel
theorem dX5_init_37 : decode cX5_init 37 = .ok (.aload_n 0, 1) := by decide +kernel
theorem dX5_init_38 : decode cX5_init 38 = .ok (.iconst 2, 1) := by decide +kernel
theorem dX5_init_39 : decode cX5_init 39 = .ok (.anewarray 26, 3) := by decide +kernel
theorem dX5_init_42 : decode cX5_init 42 = .ok (.dup, 1) := by decide +kernel
theorem dX5_init_43 : decode cX5_init 43 = .ok (.iconst 0, 1) := by decide +kernel
theorem dX5_init_44 : decode cX5_init 44 = .ok (.new 26, 3) := by decide +kernel
theorem dX5_init_47 : decode cX5_init 47 = .ok (.dup, 1) := by decide +kernel
theorem dX5_init_48 : decode cX5_init 48 = .ok (.invokespecial 28, 3) := by decide +kernel
theorem dX5_init_51 : decode cX5_init 51 = .ok (.aastore, 1) := by decide +kernel
theorem dX5_init_52 : decode cX5_init 52 = .ok (.dup, 1) := by decide +kernel
theorem dX5_init_53 : decode cX5_init 53 = .ok (.iconst 1, 1) := by decide +kernel
theorem dX5_init_54 : decode cX5_init 54 = .ok (.new 26, 3) := by decide +kernel
theorem dX5_init_57 : decode cX5_init 57 = .ok (.dup, 1) := by decide +kernel
theorem dX5_init_58 : decode cX5_init 58 = .ok (.invokespecial 28, 3) := by decide +kernel
theorem dX5_init_61 : decode cX5_init 61 = .ok (.aastore, 1) := by decide +kernel
theorem dX5_init_62 : decode cX5_init 62 = .ok (.putfield 29, 3) := by decide +kernel
theorem dX5_init_65 : decode cX5_init 65 = .ok (.aload_n 0, 1) := by decide +kernel
theorem dX5_init_66 : decode cX5_init 66 = .ok (.iconst 4, 1) := by decide +kernel
theorem dX5_init_67 : decode cX5_init 67 = .ok (.anewarray 33, 3) := by decide +kernel
theorem dX5_init_70 : decode cX5_init 70 = .ok (.dup, 1) := by decide +kernel
theorem dX5_init_71 : decode cX5_init 71 = .ok (.iconst 0, 1) := by decide +kernel
theorem dX5_init_72 : decode cX5_init 72 = .ok (.new 33, 3) := by decide +kernel
theorem dX5_init_75 : decode cX5_init 75 = .ok (.dup, 1) := by decide +kernel
theorem dX5_init_76 : decode cX5_init 76 = .ok (.invokespecial 35, 3) := by decide +kernel
theorem dX5_init_79 : decode cX5_init 79 = .ok (.aastore, 1) := by decide +kernel
theorem dX5_init_80 : decode cX5_init 80 = .ok (.dup, 1) := by decide +kernel
theorem dX5_init_81 : decode cX5_init 81 = .ok (.iconst 1, 1) := by decide +kernel
theorem dX5_init_82 : decode cX5_init 82 = .ok (.new 33, 3) := by decide +kernel
theorem dX5_init_85 : decode cX5_init 85 = .ok (.dup, 1) := by decide +kernel
theorem dX5_init_86 : decode cX5_init 86 = .ok (.invokespecial 35, 3) := by decide +kernel
theorem dX5_init_89 : decode cX5_init 89 = .ok (.aastore, 1) := by decide +kernel
theorem dX5_init_90 : decode cX5_init 90 = .ok (.dup, 1) := by decide +kernel
theorem dX5_init_91 : decode cX5_init 91 = .ok (.iconst 2, 1) := by decide +kernel
theorem dX5_init_92 : decode cX5_init 92 = .ok (.new 33, 3) := by decide +kernel
theorem dX5_init_95 : decode cX5_init 95 = .ok (.dup, 1) := by decide +kernel
theorem dX5_init_96 : decode cX5_init 96 = .ok (.invokespecial 35, 3) := by decide +kernel
theorem dX5_init_99 : decode cX5_init 99 = .ok (.aastore, 1) := by decide +kernel
theorem dX5_init_100 : decode cX5_init 100 = .ok (.dup, 1) := by decide +kernel
theorem dX5_init_101 : decode cX5_init 101 = .ok (.iconst 3, 1) := by decide +kernel
theorem dX5_init_102 : decode cX5_init 102 = .ok (.new 33, 3) := by decide +kernel
theorem dX5_init_105 : decode cX5_init 105 = .ok (.dup, 1) := by decide +kernel
theorem dX5_init_106 : decode cX5_init 106 = .ok (.invokespecial 35, 3) := by decide +kernel
theorem dX5_init_109 : decode cX5_init 109 = .ok (.aastore, 1) := by decide +kernel
theorem dX5_init_110 : decode cX5_init 110 = .ok (.putfield 36, 3) := by decide +kernel
theorem dX5_init_113 : decode cX5_init 113 = .ok (.aload_n 0, 1) := by decide +kernel
theorem dX5_init_114 : decode cX5_init 114 = .ok (.new 40, 3) := by decide +kernel
theorem dX5_init_117 : decode cX5_init 117 = .ok (.dup, 1) := by decide +kernel
theorem dX5_init_118 : decode cX5_init 118 = .ok (.invokespecial 42, 3) := by decide +kernel
theorem dX5_init_121 : decode cX5_init 121 = .ok (.putfield 43, 3) := by decide +kernel
theorem dX5_init_124 : decode cX5_init 124 = .ok (.aload_n 0, 1) := by decide +kernel
theorem dX5_init_125 : decode cX5_init 125 = .ok (.sipush 420, 3) := by decide +kernel
theorem dX5_init_128 : decode cX5_init 128 = .ok (.newarray .int, 2) := by decide +kernel
theorem dX5_init_130 : decode cX5_init 130 = .ok (.putfield 47, 3) := by decide +kernel
theorem dX5_init_133 : decode cX5_init 133 = .ok (.aload_n 0, 1) := by decide +kernel
theorem dX5_init_134 : decode cX5_init 134 = .ok (.bipush 40, 2) := by decide +kernel
theorem dX5_init_136 : decode cX5_init 136 = .ok (.newarray .int, 2) := by decide +kernel
theorem dX5_init_138 : decode cX5_init 138 = .ok (.putfield 51, 3) := by decide +kernel
theorem dX5_init_141 : decode cX5_init 141 = .ok (.aload_n 0, 1) := by decide +kernel
theorem dX5_init_142 : decode cX5_init 142 = .ok (.iconst 0, 1) := by decide +kernel
theorem dX5_init_143 : decode cX5_init 143 = .ok (.putfield 54, 3) := by decide +kernel
theorem dX5_init_146 : decode cX5_init 146 = .ok (.return_, 1) := by decide +kernel
theorem dX5_feed_0 : decode cX5_feed 0 = .ok (.iload_n 1, 1) := by decide +kernel
theorem dX5_feed_1 : decode cX5_feed 1 = .ok (.ifCond .lt 9, 3) := by decide +kernel
theorem dX5_feed_4 : decode cX5_feed 4 = .ok (.iload_n 1, 1) := by decide +kernel
theorem dX5_feed_5 : decode cX5_feed 5 = .ok (.bipush 127, 2) := by decide +kernel
theorem dX5_feed_7 : decode cX5_feed 7 = .ok (.if_icmp .le 5, 3) := by decide +kernel
theorem dX5_feed_10 : decode cX5_feed 10 = .ok (.iconst (-1), 1) := by decide +kernel
theorem dX5_feed_11 : decode cX5_feed 11 = .ok (.ireturn, 1) := by decide +kernel
theorem dX5_feed_12 : decode cX5_feed 12 = .ok (.aload_n 0, 1) := by decide +kernel
theorem dX5_feed_13 : decode cX5_feed 13 = .ok (.getfield 43, 3) := by decide +kernel
theorem dX5_feed_16 : decode cX5_feed 16 = .ok (.getfield 58, 3) := by decide +kernel
theorem dX5_feed_19 : decode cX5_feed 19 = .ok (.sipush 160, 3) := by decide +kernel
theorem dX5_feed_22 : decode cX5_feed 22 = .ok (.if_icmp .lt 6, 3) := by decide +kernel
theorem dX5_feed_25 : decode cX5_feed 25 = .ok (.bipush (-3), 2) := by decide +kernel
theorem dX5_feed_27 : decode cX5_feed 27 = .ok (.ireturn, 1) := by decide +kernel
theorem dX5_feed_28 : decode cX5_feed 28 = .ok (.aload_n 0, 1) := by decide +kernel
theorem dX5_feed_29 : decode cX5_feed 29 = .ok (.getfield 43, 3) := by decide +kernel
theorem dX5_feed_32 : decode cX5_feed 32 = .ok (.getfield 61, 3) := by decide +kernel
theorem dX5_feed_35 : decode cX5_feed 35 = .ok (.aload_n 0, 1) := by decide +kernel
theorem dX5_feed_36 : decode cX5_feed 36 = .ok (.getfield 43, 3) := by decide +kernel
theorem dX5_feed_39 : decode cX5_feed 39 = .ok (.getfield 58, 3) := by decide +kernel
theorem dX5_feed_42 : decode cX5_feed 42 = .ok (.iload_n 1, 1) := by decide +kernel
theorem dX5_feed_43 : decode cX5_feed 43 = .ok (.i2b, 1) := by decide +kernel
theorem dX5_feed_44 : decode cX5_feed 44 = .ok (.bastore, 1) := by decide +kernel
theorem dX5_feed_45 : decode cX5_feed 45 = .ok (.aload_n 0, 1) := by decide +kernel
theorem dX5_feed_46 : decode cX5_feed 46 = .ok (.getfield 43, 3) := by decide +kernel
theorem dX5_feed_49 : decode cX5_feed 49 = .ok (.dup, 1) := by decide +kernel
theorem dX5_feed_50 : decode cX5_feed 50 = .ok (.getfield 58, 3) := by decide +kernel
theorem dX5_feed_53 : decode cX5_feed 53 = .ok (.iconst 1, 1) := by decide +kernel
theorem dX5_feed_54 : decode cX5_feed 54 = .ok (.iadd, 1) := by decide +kernel
theorem dX5_feed_55 : decode cX5_feed 55 = .ok (.putfield 58, 3) := by decide +kernel
theorem dX5_feed_58 : decode cX5_feed 58 = .ok (.aload_n 0, 1) := by decide +kernel
theorem dX5_feed_59 : decode cX5_feed 59 = .ok (.getfield 43, 3) := by decide +kernel
theorem dX5_feed_62 : decode cX5_feed 62 = .ok (.getfield 58, 3) := by decide +kernel
theorem dX5_feed_65 : decode cX5_feed 65 = .ok (.ireturn, 1) := by decide +kernel
theorem dX5_end_0 : decode cX5_end 0 = .ok (.iload_n 1, 1) := by decide +kernel
theorem dX5_end_1 : decode cX5_end 1 = .ok (.ifCond .lt 14, 3) := by decide +kernel
theorem dX5_end_4 : decode cX5_end 4 = .ok (.iload_n 1, 1) := by decide +kernel
theorem dX5_end_5 : decode cX5_end 5 = .ok (.aload_n 0, 1) := by decide +kernel
theorem dX5_end_6 : decode cX5_end 6 = .ok (.getfield 43, 3) := by decide +kernel
theorem dX5_end_9 : decode cX5_end 9 = .ok (.getfield 58, 3) := by decide +kernel
theorem dX5_end_12 : decode cX5_end 12 = .ok (.if_icmp .le 5, 3) := by decide +kernel
theorem dX5_end_15 : decode cX5_end 15 = .ok (.iconst (-1), 1) := by decide +kernel
theorem dX5_end_16 : decode cX5_end 16 = .ok (.ireturn, 1) := by decide +kernel
theorem dX5_end_17 : decode cX5_end 17 = .ok (.aload_n 0, 1) := by decide +kernel
theorem dX5_end_18 : decode cX5_end 18 = .ok (.getfield 43, 3) := by decide +kernel
theorem dX5_end_21 : decode cX5_end 21 = .ok (.getfield 58, 3) := by decide +kernel
theorem dX5_end_24 : decode cX5_end 24 = .ok (.istore_n 2, 1) := by decide +kernel
theorem dX5_end_25 : decode cX5_end 25 = .ok (.aload_n 0, 1) := by decide +kernel
theorem dX5_end_26 : decode cX5_end 26 = .ok (.getfield 43, 3) := by decide +kernel
theorem dX5_end_29 : decode cX5_end 29 = .ok (.iload_n 1, 1) := by decide +kernel
theorem dX5_end_30 : decode cX5_end 30 = .ok (.putfield 58, 3) := by decide +kernel
theorem dX5_end_33 : decode cX5_end 33 = .ok (.iload_n 2, 1) := by decide +kernel
theorem dX5_end_34 : decode cX5_end 34 = .ok (.ireturn, 1) := by decide +kernel
theorem dX5_text_0 : decode cX5_text 0 = .ok (.aload_n 0, 1) := by decide +kernel
theorem dX5_text_1 : decode cX5_text 1 = .ok (.getfield 43, 3) := by decide +kernel
theorem dX5_text_4 : decode cX5_text 4 = .ok (.invokevirtual 65, 3) := by decide +kernel
theorem dX5_text_7 : decode cX5_text 7 = .ok (.istore_n 1, 1) := by decide +kernel
theorem dX5_text_8 : decode cX5_text 8 = .ok (.aload_n 0, 1) := by decide +kernel
theorem dX5_text_9 : decode cX5_text 9 = .ok (.getfield 43, 3) := by decide +kernel
theorem dX5_text_12 : decode cX5_text 12 = .ok (.iconst 0, 1) := by decide +kernel
theorem dX5_text_13 : decode cX5_text 13 = .ok (.putfield 58, 3) := by decide +kernel
theorem dX5_text_16 : decode cX5_text 16 = .ok (.iload_n 1, 1) := by decide +kernel
theorem dX5_text_17 : decode cX5_text 17 = .ok (.ifCond .ne 14, 3) := by decide +kernel
theorem dX5_text_20 : decode cX5_text 20 = .ok (.bipush (-10), 2) := by decide +kernel
theorem dX5_text_22 : decode cX5_text 22 = .ok (.aload_n 0, 1) := by decide +kernel
theorem dX5_text_23 : decode cX5_text 23 = .ok (.getfield 43, 3) := by decide +kernel
theorem dX5_text_26 : decode cX5_text 26 = .ok (.getfield 69, 3) := by decide +kernel
theorem dX5_text_29 : decode cX5_text 29 = .ok (.isub, 1) := by decide +kernel
theorem dX5_text_30 : decode cX5_text 30 = .ok (.ireturn, 1) := by decide +kernel
theorem dX5_text_31 : decode cX5_text 31 = .ok (.aload_n 0, 1) := by decide +kernel
theorem dX5_text_32 : decode cX5_text 32 = .ok (.getfield 10, 3) := by decide +kernel
theorem dX5_text_35 : decode cX5_text 35 = .ok (.aload_n 0, 1) := by decide +kernel
theorem dX5_text_36 : decode cX5_text 36 = .ok (.getfield 43, 3) := by decide +kernel
theorem dX5_text_39 : decode cX5_text 39 = .ok (.getfield 72, 3) := by decide +kernel
theorem dX5_text_42 : decode cX5_text 42 = .ok (.invokevirtual 75, 3) := by decide +kernel
theorem dX5_text_45 : decode cX5_text 45 = .ok (.aload_n 0, 1) := by decide +kernel
theorem dX5_text_46 : decode cX5_text 46 = .ok (.getfield 22, 3) := by decide +kernel
theorem dX5_text_49 : decode cX5_text 49 = .ok (.iconst 0, 1) := by decide +kernel
theorem dX5_text_50 : decode cX5_text 50 = .ok (.putfield 79, 3) := by decide +kernel
theorem dX5_text_53 : decode cX5_text 53 = .ok (.iconst 0, 1) := by decide +kernel
theorem dX5_text_54 : decode cX5_text 54 = .ok (.istore_n 2, 1) := by decide +kernel
theorem dX5_text_55 : decode cX5_text 55 = .ok (.iload_n 2, 1) := by decide +kernel
theorem dX5_text_56 : decode cX5_text 56 = .ok (.aload_n 0, 1) := by decide +kernel
theorem dX5_text_57 : decode cX5_text 57 = .ok (.getfield 29, 3) := by decide +kernel
theorem dX5_text_60 : decode cX5_text 60 = .ok (.arraylength, 1) := by decide +kernel
theorem dX5_text_61 : decode cX5_text 61 = .ok (.if_icmp .ge 19, 3) := by decide +kernel
theorem dX5_text_64 : decode cX5_text 64 = .ok (.aload_n 0, 1) := by decide +kernel
theorem dX5_text_65 : decode cX5_text 65 = .ok (.getfield 29, 3) := by decide +kernel
theorem dX5_text_68 : decode cX5_text 68 = .ok (.iload_n 2, 1) := by decide +kernel
theorem dX5_text_69 : decode cX5_text 69 = .ok (.aaload, 1) := by decide +kernel
theorem dX5_text_70 : decode cX5_text 70 = .ok (.iconst 0, 1) := by decide +kernel
theorem dX5_text_71 : decode cX5_text 71 = .ok (.putfield 82, 3) := by decide +kernel
theorem dX5_text_74 : decode cX5_text 74 = .ok (.iinc 2 1, 3) := by decide +kernel
theorem dX5_text_77 : decode cX5_text 77 = .ok (.goto (-22), 3) := by decide +kernel
theorem dX5_text_80 : decode cX5_text 80 = .ok (.aload_n 0, 1) := by decide +kernel
theorem dX5_text_81 : decode cX5_text 81 = .ok (.getfield 43, 3) := by decide +kernel
theorem dX5_text_84 : decode cX5_text 84 = .ok (.getfield 86, 3) := by decide +kernel
theorem dX5_text_87 : decode cX5_text 87 = .ok (.ireturn, 1) := by decide +kernel
theorem dX5_fault_0 : decode cX5_fault 0 = .ok (.aload_n 0, 1) := by decide +kernel
theorem dX5_fault_1 : decode cX5_fault 1 = .ok (.getfield 43, 3) := by decide +kernel
theorem dX5_fault_4 : decode cX5_fault 4 = .ok (.getfield 89, 3) := by decide +kernel
theorem dX5_fault_7 : decode cX5_fault 7 = .ok (.ireturn, 1) := by decide +kernel
theorem dX5_rule_0 : decode cX5_rule 0 = .ok (.iload_n 1, 1) := by decide +kernel
theorem dX5_rule_1 : decode cX5_rule 1 = .ok (.tableswitch 87 0 5 #[39, 47, 55, 63, 71, 79], 39) := by decide +kernel
theorem dX5_rule_40 : decode cX5_rule 40 = .ok (.aload_n 0, 1) := by decide +kernel
theorem dX5_rule_41 : decode cX5_rule 41 = .ok (.getfield 10, 3) := by decide +kernel
theorem dX5_rule_44 : decode cX5_rule 44 = .ok (.getfield 92, 3) := by decide +kernel
theorem dX5_rule_47 : decode cX5_rule 47 = .ok (.ireturn, 1) := by decide +kernel
theorem dX5_rule_48 : decode cX5_rule 48 = .ok (.aload_n 0, 1) := by decide +kernel
theorem dX5_rule_49 : decode cX5_rule 49 = .ok (.getfield 10, 3) := by decide +kernel
theorem dX5_rule_52 : decode cX5_rule 52 = .ok (.getfield 95, 3) := by decide +kernel
theorem dX5_rule_55 : decode cX5_rule 55 = .ok (.ireturn, 1) := by decide +kernel
theorem dX5_rule_56 : decode cX5_rule 56 = .ok (.aload_n 0, 1) := by decide +kernel
theorem dX5_rule_57 : decode cX5_rule 57 = .ok (.getfield 10, 3) := by decide +kernel
theorem dX5_rule_60 : decode cX5_rule 60 = .ok (.getfield 98, 3) := by decide +kernel
theorem dX5_rule_63 : decode cX5_rule 63 = .ok (.ireturn, 1) := by decide +kernel
theorem dX5_rule_64 : decode cX5_rule 64 = .ok (.aload_n 0, 1) := by decide +kernel
theorem dX5_rule_65 : decode cX5_rule 65 = .ok (.getfield 10, 3) := by decide +kernel
theorem dX5_rule_68 : decode cX5_rule 68 = .ok (.getfield 101, 3) := by decide +kernel
theorem dX5_rule_71 : decode cX5_rule 71 = .ok (.ireturn, 1) := by decide +kernel
theorem dX5_rule_72 : decode cX5_rule 72 = .ok (.aload_n 0, 1) := by decide +kernel
theorem dX5_rule_73 : decode cX5_rule 73 = .ok (.getfield 10, 3) := by decide +kernel
theorem dX5_rule_76 : decode cX5_rule 76 = .ok (.getfield 104, 3) := by decide +kernel
theorem dX5_rule_79 : decode cX5_rule 79 = .ok (.ireturn, 1) := by decide +kernel
theorem dX5_rule_80 : decode cX5_rule 80 = .ok (.aload_n 0, 1) := by decide +kernel
theorem dX5_rule_81 : decode cX5_rule 81 = .ok (.getfield 10, 3) := by decide +kernel
theorem dX5_rule_84 : decode cX5_rule 84 = .ok (.invokevirtual 107, 3) := by decide +kernel
theorem dX5_rule_87 : decode cX5_rule 87 = .ok (.ireturn, 1) := by decide +kernel
theorem dX5_rule_88 : decode cX5_rule 88 = .ok (.iconst (-1), 1) := by decide +kernel
theorem dX5_rule_89 : decode cX5_rule 89 = .ok (.ireturn, 1) := by decide +kernel
theorem dX5_isle_0 : decode cX5_isle 0 = .ok (.aload_n 0, 1) := by decide +kernel
theorem dX5_isle_1 : decode cX5_isle 1 = .ok (.iload_n 1, 1) := by decide +kernel
theorem dX5_isle_2 : decode cX5_isle 2 = .ok (.invokevirtual 111, 3) := by decide +kernel
theorem dX5_isle_5 : decode cX5_isle 5 = .ok (.ifCond .ne 5, 3) := by decide +kernel
theorem dX5_isle_8 : decode cX5_isle 8 = .ok (.iconst (-1), 1) := by decide +kernel
theorem dX5_isle_9 : decode cX5_isle 9 = .ok (.ireturn, 1) := by decide +kernel
theorem dX5_isle_10 : decode cX5_isle 10 = .ok (.iload_n 2, 1) := by decide +kernel
theorem dX5_isle_11 : decode cX5_isle 11 = .ok (.tableswitch 104 0 5 #[37, 47, 57, 66, 78, 95], 37) := by decide +kernel
theorem dX5_isle_48 : decode cX5_isle 48 = .ok (.aload_n 0, 1) := by decide +kernel
theorem dX5_isle_49 : decode cX5_isle 49 = .ok (.getfield 10, 3) := by decide +kernel
theorem dX5_isle_52 : decode cX5_isle 52 = .ok (.getfield 115, 3) := by decide +kernel
theorem dX5_isle_55 : decode cX5_isle 55 = .ok (.iload_n 1, 1) := by decide +kernel
theorem dX5_isle_56 : decode cX5_isle 56 = .ok (.iaload, 1) := by decide +kernel
theorem dX5_isle_57 : decode cX5_isle 57 = .ok (.ireturn, 1) := by decide +kernel
theorem dX5_isle_58 : decode cX5_isle 58 = .ok (.aload_n 0, 1) := by decide +kernel
theorem dX5_isle_59 : decode cX5_isle 59 = .ok (.getfield 10, 3) := by decide +kernel
theorem dX5_isle_62 : decode cX5_isle 62 = .ok (.getfield 118, 3) := by decide +kernel
theorem dX5_isle_65 : decode cX5_isle 65 = .ok (.iload_n 1, 1) := by decide +kernel
theorem dX5_isle_66 : decode cX5_isle 66 = .ok (.iaload, 1) := by decide +kernel
theorem dX5_isle_67 : decode cX5_isle 67 = .ok (.ireturn, 1) := by decide +kernel
theorem dX5_isle_68 : decode cX5_isle 68 = .ok (.aload_n 0, 1) := by decide +kernel
theorem dX5_isle_69 : decode cX5_isle 69 = .ok (.getfield 10, 3) := by decide +kernel
theorem dX5_isle_72 : decode cX5_isle 72 = .ok (.iload_n 1, 1) := by decide +kernel
theorem dX5_isle_73 : decode cX5_isle 73 = .ok (.invokevirtual 121, 3) := by decide +kernel
theorem dX5_isle_76 : decode cX5_isle 76 = .ok (.ireturn, 1) := by decide +kernel
theorem dX5_isle_77 : decode cX5_isle 77 = .ok (.aload_n 0, 1) := by decide +kernel
theorem dX5_isle_78 : decode cX5_isle 78 = .ok (.getfield 10, 3) := by decide +kernel
theorem dX5_isle_81 : decode cX5_isle 81 = .ok (.iload_n 1, 1) := by decide +kernel
theorem dX5_isle_82 : decode cX5_isle 82 = .ok (.invokevirtual 125, 3) := by decide +kernel
theorem dX5_isle_85 : decode cX5_isle 85 = .ok (.invokestatic 128, 3) := by decide +kernel
theorem dX5_isle_88 : decode cX5_isle 88 = .ok (.ireturn, 1) := by decide +kernel
theorem dX5_isle_89 : decode cX5_isle 89 = .ok (.aload_n 0, 1) := by decide +kernel
theorem dX5_isle_90 : decode cX5_isle 90 = .ok (.getfield 10, 3) := by decide +kernel
theorem dX5_isle_93 : decode cX5_isle 93 = .ok (.iload_n 1, 1) := by decide +kernel
theorem dX5_isle_94 : decode cX5_isle 94 = .ok (.invokevirtual 125, 3) := by decide +kernel
theorem dX5_isle_97 : decode cX5_isle 97 = .ok (.ifCond .le 7, 3) := by decide +kernel
theorem dX5_isle_100 : decode cX5_isle 100 = .ok (.iconst 1, 1) := by decide +kernel
theorem dX5_isle_101 : decode cX5_isle 101 = .ok (.goto 4, 3) := by decide +kernel
theorem dX5_isle_104 : decode cX5_isle 104 = .ok (.iconst 0, 1) := by decide +kernel
theorem dX5_isle_105 : decode cX5_isle 105 = .ok (.ireturn, 1) := by decide +kernel
theorem dX5_isle_106 : decode cX5_isle 106 = .ok (.aload_n 0, 1) := by decide +kernel
theorem dX5_isle_107 : decode cX5_isle 107 = .ok (.getfield 10, 3) := by decide +kernel
theorem dX5_isle_110 : decode cX5_isle 110 = .ok (.iload_n 1, 1) := by decide +kernel
theorem dX5_isle_111 : decode cX5_isle 111 = .ok (.invokevirtual 133, 3) := by decide +kernel
theorem dX5_isle_114 : decode cX5_isle 114 = .ok (.ireturn, 1) := by decide +kernel
theorem dX5_isle_115 : decode cX5_isle 115 = .ok (.iconst (-1), 1) := by decide +kernel
theorem dX5_isle_116 : decode cX5_isle 116 = .ok (.ireturn, 1) := by decide +kernel
theorem dX5_cross_0 : decode cX5_cross 0 = .ok (.aload_n 0, 1) := by decide +kernel
theorem dX5_cross_1 : decode cX5_cross 1 = .ok (.iload_n 1, 1) := by decide +kernel
theorem dX5_cross_2 : decode cX5_cross 2 = .ok (.iload_n 2, 1) := by decide +kernel
theorem dX5_cross_3 : decode cX5_cross 3 = .ok (.invokevirtual 136, 3) := by decide +kernel
theorem dX5_cross_6 : decode cX5_cross 6 = .ok (.ifCond .eq 15, 3) := by decide +kernel
theorem dX5_cross_9 : decode cX5_cross 9 = .ok (.aload_n 0, 1) := by decide +kernel
theorem dX5_cross_10 : decode cX5_cross 10 = .ok (.getfield 10, 3) := by decide +kernel
theorem dX5_cross_13 : decode cX5_cross 13 = .ok (.iload_n 1, 1) := by decide +kernel
theorem dX5_cross_14 : decode cX5_cross 14 = .ok (.iload_n 2, 1) := by decide +kernel
theorem dX5_cross_15 : decode cX5_cross 15 = .ok (.invokevirtual 140, 3) := by decide +kernel
theorem dX5_cross_18 : decode cX5_cross 18 = .ok (.goto 4, 3) := by decide +kernel
theorem dX5_cross_21 : decode cX5_cross 21 = .ok (.iconst (-1), 1) := by decide +kernel
theorem dX5_cross_22 : decode cX5_cross 22 = .ok (.ireturn, 1) := by decide +kernel
theorem dX5_rope_0 : decode cX5_rope 0 = .ok (.aload_n 0, 1) := by decide +kernel
theorem dX5_rope_1 : decode cX5_rope 1 = .ok (.iload_n 1, 1) := by decide +kernel
theorem dX5_rope_2 : decode cX5_rope 2 = .ok (.invokevirtual 144, 3) := by decide +kernel
theorem dX5_rope_5 : decode cX5_rope 5 = .ok (.ifCond .ne 5, 3) := by decide +kernel
theorem dX5_rope_8 : decode cX5_rope 8 = .ok (.iconst (-1), 1) := by decide +kernel
theorem dX5_rope_9 : decode cX5_rope 9 = .ok (.ireturn, 1) := by decide +kernel
theorem dX5_rope_10 : decode cX5_rope 10 = .ok (.iload_n 2, 1) := by decide +kernel
theorem dX5_rope_11 : decode cX5_rope 11 = .ok (.tableswitch 55 0 2 #[25, 35, 45], 25) := by decide +kernel
theorem dX5_rope_36 : decode cX5_rope 36 = .ok (.aload_n 0, 1) := by decide +kernel
theorem dX5_rope_37 : decode cX5_rope 37 = .ok (.getfield 10, 3) := by decide +kernel
theorem dX5_rope_40 : decode cX5_rope 40 = .ok (.getfield 147, 3) := by decide +kernel
theorem dX5_rope_43 : decode cX5_rope 43 = .ok (.iload_n 1, 1) := by decide +kernel
theorem dX5_rope_44 : decode cX5_rope 44 = .ok (.iaload, 1) := by decide +kernel
theorem dX5_rope_45 : decode cX5_rope 45 = .ok (.ireturn, 1) := by decide +kernel
theorem dX5_rope_46 : decode cX5_rope 46 = .ok (.aload_n 0, 1) := by decide +kernel
theorem dX5_rope_47 : decode cX5_rope 47 = .ok (.getfield 10, 3) := by decide +kernel
theorem dX5_rope_50 : decode cX5_rope 50 = .ok (.getfield 150, 3) := by decide +kernel
theorem dX5_rope_53 : decode cX5_rope 53 = .ok (.iload_n 1, 1) := by decide +kernel
theorem dX5_rope_54 : decode cX5_rope 54 = .ok (.iaload, 1) := by decide +kernel
theorem dX5_rope_55 : decode cX5_rope 55 = .ok (.ireturn, 1) := by decide +kernel
theorem dX5_rope_56 : decode cX5_rope 56 = .ok (.aload_n 0, 1) := by decide +kernel
theorem dX5_rope_57 : decode cX5_rope 57 = .ok (.getfield 10, 3) := by decide +kernel
theorem dX5_rope_60 : decode cX5_rope 60 = .ok (.getfield 153, 3) := by decide +kernel
theorem dX5_rope_63 : decode cX5_rope 63 = .ok (.iload_n 1, 1) := by decide +kernel
theorem dX5_rope_64 : decode cX5_rope 64 = .ok (.iaload, 1) := by decide +kernel
theorem dX5_rope_65 : decode cX5_rope 65 = .ok (.ireturn, 1) := by decide +kernel
theorem dX5_rope_66 : decode cX5_rope 66 = .ok (.iconst (-1), 1) := by decide +kernel
theorem dX5_rope_67 : decode cX5_rope 67 = .ok (.ireturn, 1) := by decide +kernel
theorem dX5_far_0 : decode cX5_far 0 = .ok (.aload_n 0, 1) := by decide +kernel
theorem dX5_far_1 : decode cX5_far 1 = .ok (.iload_n 1, 1) := by decide +kernel
theorem dX5_far_2 : decode cX5_far 2 = .ok (.iload_n 2, 1) := by decide +kernel
theorem dX5_far_3 : decode cX5_far 3 = .ok (.invokevirtual 136, 3) := by decide +kernel
theorem dX5_far_6 : decode cX5_far 6 = .ok (.ifCond .eq 28, 3) := by decide +kernel
theorem dX5_far_9 : decode cX5_far 9 = .ok (.aload_n 0, 1) := by decide +kernel
theorem dX5_far_10 : decode cX5_far 10 = .ok (.getfield 10, 3) := by decide +kernel
theorem dX5_far_13 : decode cX5_far 13 = .ok (.getfield 118, 3) := by decide +kernel
theorem dX5_far_16 : decode cX5_far 16 = .ok (.iload_n 1, 1) := by decide +kernel
theorem dX5_far_17 : decode cX5_far 17 = .ok (.iaload, 1) := by decide +kernel
theorem dX5_far_18 : decode cX5_far 18 = .ok (.aload_n 0, 1) := by decide +kernel
theorem dX5_far_19 : decode cX5_far 19 = .ok (.getfield 10, 3) := by decide +kernel
theorem dX5_far_22 : decode cX5_far 22 = .ok (.getfield 118, 3) := by decide +kernel
theorem dX5_far_25 : decode cX5_far 25 = .ok (.iload_n 2, 1) := by decide +kernel
theorem dX5_far_26 : decode cX5_far 26 = .ok (.iaload, 1) := by decide +kernel
theorem dX5_far_27 : decode cX5_far 27 = .ok (.isub, 1) := by decide +kernel
theorem dX5_far_28 : decode cX5_far 28 = .ok (.invokestatic 128, 3) := by decide +kernel
theorem dX5_far_31 : decode cX5_far 31 = .ok (.goto 4, 3) := by decide +kernel
theorem dX5_far_34 : decode cX5_far 34 = .ok (.iconst (-1), 1) := by decide +kernel
theorem dX5_far_35 : decode cX5_far 35 = .ok (.ireturn, 1) := by decide +kernel
theorem dX5_alter_0 : decode cX5_alter 0 = .ok (.aload_n 0, 1) := by decide +kernel
theorem dX5_alter_1 : decode cX5_alter 1 = .ok (.iload_n 1, 1) := by decide +kernel
theorem dX5_alter_2 : decode cX5_alter 2 = .ok (.invokevirtual 111, 3) := by decide +kernel
theorem dX5_alter_5 : decode cX5_alter 5 = .ok (.ifCond .ne 5, 3) := by decide +kernel
theorem dX5_alter_8 : decode cX5_alter 8 = .ok (.iconst (-1), 1) := by decide +kernel
theorem dX5_alter_9 : decode cX5_alter 9 = .ok (.ireturn, 1) := by decide +kernel
theorem dX5_alter_10 : decode cX5_alter 10 = .ok (.iload_n 2, 1) := by decide +kernel
theorem dX5_alter_11 : decode cX5_alter 11 = .ok (.ifCond .ne 36, 3) := by decide +kernel
theorem dX5_alter_14 : decode cX5_alter 14 = .ok (.iload_n 3, 1) := by decide +kernel
theorem dX5_alter_15 : decode cX5_alter 15 = .ok (.iconst 0, 1) := by decide +kernel
theorem dX5_alter_16 : decode cX5_alter 16 = .ok (.iconst 3, 1) := by decide +kernel
theorem dX5_alter_17 : decode cX5_alter 17 = .ok (.invokestatic 156, 3) := by decide +kernel
theorem dX5_alter_20 : decode cX5_alter 20 = .ok (.ifCond .eq 27, 3) := by decide +kernel
theorem dX5_alter_23 : decode cX5_alter 23 = .ok (.aload_n 0, 1) := by decide +kernel
theorem dX5_alter_24 : decode cX5_alter 24 = .ok (.getfield 10, 3) := by decide +kernel
theorem dX5_alter_27 : decode cX5_alter 27 = .ok (.getfield 115, 3) := by decide +kernel
theorem dX5_alter_30 : decode cX5_alter 30 = .ok (.iload_n 1, 1) := by decide +kernel
theorem dX5_alter_31 : decode cX5_alter 31 = .ok (.iaload, 1) := by decide +kernel
theorem dX5_alter_32 : decode cX5_alter 32 = .ok (.istore 4, 2) := by decide +kernel
theorem dX5_alter_34 : decode cX5_alter 34 = .ok (.aload_n 0, 1) := by decide +kernel
theorem dX5_alter_35 : decode cX5_alter 35 = .ok (.getfield 10, 3) := by decide +kernel
theorem dX5_alter_38 : decode cX5_alter 38 = .ok (.getfield 115, 3) := by decide +kernel
theorem dX5_alter_41 : decode cX5_alter 41 = .ok (.iload_n 1, 1) := by decide +kernel
theorem dX5_alter_42 : decode cX5_alter 42 = .ok (.iload_n 3, 1) := by decide +kernel
theorem dX5_alter_43 : decode cX5_alter 43 = .ok (.iastore, 1) := by decide +kernel
theorem dX5_alter_44 : decode cX5_alter 44 = .ok (.iload 4, 2) := by decide +kernel
theorem dX5_alter_46 : decode cX5_alter 46 = .ok (.ireturn, 1) := by decide +kernel
theorem dX5_alter_47 : decode cX5_alter 47 = .ok (.iload_n 2, 1) := by decide +kernel
theorem dX5_alter_48 : decode cX5_alter 48 = .ok (.iconst 1, 1) := by decide +kernel
theorem dX5_alter_49 : decode cX5_alter 49 = .ok (.if_icmp .ne 49, 3) := by decide +kernel
theorem dX5_alter_52 : decode cX5_alter 52 = .ok (.iload_n 3, 1) := by decide +kernel
theorem dX5_alter_53 : decode cX5_alter 53 = .ok (.iconst 0, 1) := by decide +kernel
theorem dX5_alter_54 : decode cX5_alter 54 = .ok (.bipush 99, 2) := by decide +kernel
theorem dX5_alter_56 : decode cX5_alter 56 = .ok (.invokestatic 156, 3) := by decide +kernel
theorem dX5_alter_59 : decode cX5_alter 59 = .ok (.ifCond .eq 39, 3) := by decide +kernel
theorem dX5_alter_62 : decode cX5_alter 62 = .ok (.aload_n 0, 1) := by decide +kernel
theorem dX5_alter_63 : decode cX5_alter 63 = .ok (.getfield 10, 3) := by decide +kernel
theorem dX5_alter_66 : decode cX5_alter 66 = .ok (.iload_n 3, 1) := by decide +kernel
theorem dX5_alter_67 : decode cX5_alter 67 = .ok (.iload_n 1, 1) := by decide +kernel
theorem dX5_alter_68 : decode cX5_alter 68 = .ok (.invokevirtual 160, 3) := by decide +kernel
theorem dX5_alter_71 : decode cX5_alter 71 = .ok (.ifCond .ne 27, 3) := by decide +kernel
theorem dX5_alter_74 : decode cX5_alter 74 = .ok (.aload_n 0, 1) := by decide +kernel
theorem dX5_alter_75 : decode cX5_alter 75 = .ok (.getfield 10, 3) := by decide +kernel
theorem dX5_alter_78 : decode cX5_alter 78 = .ok (.getfield 118, 3) := by decide +kernel
theorem dX5_alter_81 : decode cX5_alter 81 = .ok (.iload_n 1, 1) := by decide +kernel
theorem dX5_alter_82 : decode cX5_alter 82 = .ok (.iaload, 1) := by decide +kernel
theorem dX5_alter_83 : decode cX5_alter 83 = .ok (.istore 4, 2) := by decide +kernel
theorem dX5_alter_85 : decode cX5_alter 85 = .ok (.aload_n 0, 1) := by decide +kernel
theorem dX5_alter_86 : decode cX5_alter 86 = .ok (.getfield 10, 3) := by decide +kernel
theorem dX5_alter_89 : decode cX5_alter 89 = .ok (.getfield 118, 3) := by decide +kernel
theorem dX5_alter_92 : decode cX5_alter 92 = .ok (.iload_n 1, 1) := by decide +kernel
theorem dX5_alter_93 : decode cX5_alter 93 = .ok (.iload_n 3, 1) := by decide +kernel
theorem dX5_alter_94 : decode cX5_alter 94 = .ok (.iastore, 1) := by decide +kernel
theorem dX5_alter_95 : decode cX5_alter 95 = .ok (.iload 4, 2) := by decide +kernel
theorem dX5_alter_97 : decode cX5_alter 97 = .ok (.ireturn, 1) := by decide +kernel
theorem dX5_alter_98 : decode cX5_alter 98 = .ok (.iconst (-1), 1) := by decide +kernel
theorem dX5_alter_99 : decode cX5_alter 99 = .ok (.ireturn, 1) := by decide +kernel
theorem dX5_sulk_0 : decode cX5_sulk 0 = .ok (.aload_n 0, 1) := by decide +kernel
theorem dX5_sulk_1 : decode cX5_sulk 1 = .ok (.iload_n 1, 1) := by decide +kernel
theorem dX5_sulk_2 : decode cX5_sulk 2 = .ok (.iload_n 2, 1) := by decide +kernel
theorem dX5_sulk_3 : decode cX5_sulk 3 = .ok (.iload_n 3, 1) := by decide +kernel
theorem dX5_sulk_4 : decode cX5_sulk 4 = .ok (.invokevirtual 163, 3) := by decide +kernel
theorem dX5_sulk_7 : decode cX5_sulk 7 = .ok (.ifCond .ne 5, 3) := by decide +kernel
theorem dX5_sulk_10 : decode cX5_sulk 10 = .ok (.iconst (-1), 1) := by decide +kernel
theorem dX5_sulk_11 : decode cX5_sulk 11 = .ok (.ireturn, 1) := by decide +kernel
theorem dX5_sulk_12 : decode cX5_sulk 12 = .ok (.aload_n 0, 1) := by decide +kernel
theorem dX5_sulk_13 : decode cX5_sulk 13 = .ok (.getfield 10, 3) := by decide +kernel
theorem dX5_sulk_16 : decode cX5_sulk 16 = .ok (.iload_n 1, 1) := by decide +kernel
theorem dX5_sulk_17 : decode cX5_sulk 17 = .ok (.iload_n 2, 1) := by decide +kernel
theorem dX5_sulk_18 : decode cX5_sulk 18 = .ok (.invokevirtual 140, 3) := by decide +kernel
theorem dX5_sulk_21 : decode cX5_sulk 21 = .ok (.istore 4, 2) := by decide +kernel
theorem dX5_sulk_23 : decode cX5_sulk 23 = .ok (.aload_n 0, 1) := by decide +kernel
theorem dX5_sulk_24 : decode cX5_sulk 24 = .ok (.getfield 10, 3) := by decide +kernel
theorem dX5_sulk_27 : decode cX5_sulk 27 = .ok (.iload_n 1, 1) := by decide +kernel
theorem dX5_sulk_28 : decode cX5_sulk 28 = .ok (.iload_n 2, 1) := by decide +kernel
theorem dX5_sulk_29 : decode cX5_sulk 29 = .ok (.iload_n 3, 1) := by decide +kernel
theorem dX5_sulk_30 : decode cX5_sulk 30 = .ok (.invokevirtual 166, 3) := by decide +kernel
theorem dX5_sulk_33 : decode cX5_sulk 33 = .ok (.iload 4, 2) := by decide +kernel
theorem dX5_sulk_35 : decode cX5_sulk 35 = .ok (.ireturn, 1) := by decide +kernel
theorem dX5_haul_0 : decode cX5_haul 0 = .ok (.aload_n 0, 1) := by decide +kernel
theorem dX5_haul_1 : decode cX5_haul 1 = .ok (.iload_n 1, 1) := by decide +kernel
theorem dX5_haul_2 : decode cX5_haul 2 = .ok (.invokevirtual 144, 3) := by decide +kernel
theorem dX5_haul_5 : decode cX5_haul 5 = .ok (.ifCond .eq 13, 3) := by decide +kernel
theorem dX5_haul_8 : decode cX5_haul 8 = .ok (.iload_n 2, 1) := by decide +kernel
theorem dX5_haul_9 : decode cX5_haul 9 = .ok (.iconst 1, 1) := by decide +kernel
theorem dX5_haul_10 : decode cX5_haul 10 = .ok (.bipush 30, 2) := by decide +kernel
theorem dX5_haul_12 : decode cX5_haul 12 = .ok (.invokestatic 156, 3) := by decide +kernel
theorem dX5_haul_15 : decode cX5_haul 15 = .ok (.ifCond .ne 5, 3) := by decide +kernel
theorem dX5_haul_18 : decode cX5_haul 18 = .ok (.iconst (-1), 1) := by decide +kernel
theorem dX5_haul_19 : decode cX5_haul 19 = .ok (.ireturn, 1) := by decide +kernel
theorem dX5_haul_20 : decode cX5_haul 20 = .ok (.aload_n 0, 1) := by decide +kernel
theorem dX5_haul_21 : decode cX5_haul 21 = .ok (.getfield 10, 3) := by decide +kernel
theorem dX5_haul_24 : decode cX5_haul 24 = .ok (.getfield 153, 3) := by decide +kernel
theorem dX5_haul_27 : decode cX5_haul 27 = .ok (.iload_n 1, 1) := by decide +kernel
theorem dX5_haul_28 : decode cX5_haul 28 = .ok (.iaload, 1) := by decide +kernel
theorem dX5_haul_29 : decode cX5_haul 29 = .ok (.istore_n 3, 1) := by decide +kernel
theorem dX5_haul_30 : decode cX5_haul 30 = .ok (.aload_n 0, 1) := by decide +kernel
theorem dX5_haul_31 : decode cX5_haul 31 = .ok (.getfield 10, 3) := by decide +kernel
theorem dX5_haul_34 : decode cX5_haul 34 = .ok (.getfield 153, 3) := by decide +kernel
theorem dX5_haul_37 : decode cX5_haul 37 = .ok (.iload_n 1, 1) := by decide +kernel
theorem dX5_haul_38 : decode cX5_haul 38 = .ok (.iload_n 2, 1) := by decide +kernel
theorem dX5_haul_39 : decode cX5_haul 39 = .ok (.iastore, 1) := by decide +kernel
theorem dX5_haul_40 : decode cX5_haul 40 = .ok (.iload_n 3, 1) := by decide +kernel
theorem dX5_haul_41 : decode cX5_haul 41 = .ok (.ireturn, 1) := by decide +kernel
theorem dX5_wed_0 : decode cX5_wed 0 = .ok (.aload_n 0, 1) := by decide +kernel
theorem dX5_wed_1 : decode cX5_wed 1 = .ok (.iload_n 1, 1) := by decide +kernel
theorem dX5_wed_2 : decode cX5_wed 2 = .ok (.iload_n 2, 1) := by decide +kernel
theorem dX5_wed_3 : decode cX5_wed 3 = .ok (.invokevirtual 136, 3) := by decide +kernel
theorem dX5_wed_6 : decode cX5_wed 6 = .ok (.ifCond .eq 13, 3) := by decide +kernel
theorem dX5_wed_9 : decode cX5_wed 9 = .ok (.iload_n 3, 1) := by decide +kernel
theorem dX5_wed_10 : decode cX5_wed 10 = .ok (.iconst 1, 1) := by decide +kernel
theorem dX5_wed_11 : decode cX5_wed 11 = .ok (.bipush 30, 2) := by decide +kernel
theorem dX5_wed_13 : decode cX5_wed 13 = .ok (.invokestatic 156, 3) := by decide +kernel
theorem dX5_wed_16 : decode cX5_wed 16 = .ok (.ifCond .ne 5, 3) := by decide +kernel
theorem dX5_wed_19 : decode cX5_wed 19 = .ok (.iconst (-1), 1) := by decide +kernel
theorem dX5_wed_20 : decode cX5_wed 20 = .ok (.ireturn, 1) := by decide +kernel
theorem dX5_wed_21 : decode cX5_wed 21 = .ok (.aload_n 0, 1) := by decide +kernel
theorem dX5_wed_22 : decode cX5_wed 22 = .ok (.getfield 10, 3) := by decide +kernel
theorem dX5_wed_25 : decode cX5_wed 25 = .ok (.getfield 95, 3) := by decide +kernel
theorem dX5_wed_28 : decode cX5_wed 28 = .ok (.bipush 6, 2) := by decide +kernel
theorem dX5_wed_30 : decode cX5_wed 30 = .ok (.if_icmp .lt 6, 3) := by decide +kernel
theorem dX5_wed_33 : decode cX5_wed 33 = .ok (.bipush (-3), 2) := by decide +kernel
theorem dX5_wed_35 : decode cX5_wed 35 = .ok (.ireturn, 1) := by decide +kernel
theorem dX5_wed_36 : decode cX5_wed 36 = .ok (.aload_n 0, 1) := by decide +kernel
theorem dX5_wed_37 : decode cX5_wed 37 = .ok (.getfield 10, 3) := by decide +kernel
theorem dX5_wed_40 : decode cX5_wed 40 = .ok (.iload_n 1, 1) := by decide +kernel
theorem dX5_wed_41 : decode cX5_wed 41 = .ok (.iload_n 2, 1) := by decide +kernel
theorem dX5_wed_42 : decode cX5_wed 42 = .ok (.iload_n 3, 1) := by decide +kernel
theorem dX5_wed_43 : decode cX5_wed 43 = .ok (.invokevirtual 170, 3) := by decide +kernel
theorem dX5_wed_46 : decode cX5_wed 46 = .ok (.aload_n 0, 1) := by decide +kernel
theorem dX5_wed_47 : decode cX5_wed 47 = .ok (.getfield 10, 3) := by decide +kernel
theorem dX5_wed_50 : decode cX5_wed 50 = .ok (.getfield 95, 3) := by decide +kernel
theorem dX5_wed_53 : decode cX5_wed 53 = .ok (.ireturn, 1) := by decide +kernel
theorem dX5_loose_0 : decode cX5_loose 0 = .ok (.iload_n 1, 1) := by decide +kernel
theorem dX5_loose_1 : decode cX5_loose 1 = .ok (.ifCond .lt 14, 3) := by decide +kernel
theorem dX5_loose_4 : decode cX5_loose 4 = .ok (.iload_n 1, 1) := by decide +kernel
theorem dX5_loose_5 : decode cX5_loose 5 = .ok (.aload_n 0, 1) := by decide +kernel
theorem dX5_loose_6 : decode cX5_loose 6 = .ok (.getfield 10, 3) := by decide +kernel
theorem dX5_loose_9 : decode cX5_loose 9 = .ok (.getfield 95, 3) := by decide +kernel
theorem dX5_loose_12 : decode cX5_loose 12 = .ok (.if_icmp .le 5, 3) := by decide +kernel
theorem dX5_loose_15 : decode cX5_loose 15 = .ok (.iconst (-1), 1) := by decide +kernel
theorem dX5_loose_16 : decode cX5_loose 16 = .ok (.ireturn, 1) := by decide +kernel
theorem dX5_loose_17 : decode cX5_loose 17 = .ok (.aload_n 0, 1) := by decide +kernel
theorem dX5_loose_18 : decode cX5_loose 18 = .ok (.getfield 10, 3) := by decide +kernel
theorem dX5_loose_21 : decode cX5_loose 21 = .ok (.getfield 95, 3) := by decide +kernel
theorem dX5_loose_24 : decode cX5_loose 24 = .ok (.istore_n 2, 1) := by decide +kernel
theorem dX5_loose_25 : decode cX5_loose 25 = .ok (.aload_n 0, 1) := by decide +kernel
theorem dX5_loose_26 : decode cX5_loose 26 = .ok (.getfield 10, 3) := by decide +kernel
theorem dX5_loose_29 : decode cX5_loose 29 = .ok (.iload_n 1, 1) := by decide +kernel
theorem dX5_loose_30 : decode cX5_loose 30 = .ok (.putfield 95, 3) := by decide +kernel
theorem dX5_loose_33 : decode cX5_loose 33 = .ok (.iload_n 2, 1) := by decide +kernel
theorem dX5_loose_34 : decode cX5_loose 34 = .ok (.ireturn, 1) := by decide +kernel
theorem dX5_feast_0 : decode cX5_feast 0 = .ok (.iload_n 1, 1) := by decide +kernel
theorem dX5_feast_1 : decode cX5_feast 1 = .ok (.iconst 0, 1) := by decide +kernel
theorem dX5_feast_2 : decode cX5_feast 2 = .ok (.bipush 6, 2) := by decide +kernel
theorem dX5_feast_4 : decode cX5_feast 4 = .ok (.invokestatic 156, 3) := by decide +kernel
theorem dX5_feast_7 : decode cX5_feast 7 = .ok (.ifCond .ne 5, 3) := by decide +kernel
theorem dX5_feast_10 : decode cX5_feast 10 = .ok (.iconst (-1), 1) := by decide +kernel
theorem dX5_feast_11 : decode cX5_feast 11 = .ok (.ireturn, 1) := by decide +kernel
theorem dX5_feast_12 : decode cX5_feast 12 = .ok (.aload_n 0, 1) := by decide +kernel
theorem dX5_feast_13 : decode cX5_feast 13 = .ok (.getfield 10, 3) := by decide +kernel
theorem dX5_feast_16 : decode cX5_feast 16 = .ok (.getfield 101, 3) := by decide +kernel
theorem dX5_feast_19 : decode cX5_feast 19 = .ok (.istore_n 2, 1) := by decide +kernel
theorem dX5_feast_20 : decode cX5_feast 20 = .ok (.aload_n 0, 1) := by decide +kernel
theorem dX5_feast_21 : decode cX5_feast 21 = .ok (.getfield 10, 3) := by decide +kernel
theorem dX5_feast_24 : decode cX5_feast 24 = .ok (.iload_n 1, 1) := by decide +kernel
theorem dX5_feast_25 : decode cX5_feast 25 = .ok (.putfield 101, 3) := by decide +kernel
theorem dX5_feast_28 : decode cX5_feast 28 = .ok (.iload_n 2, 1) := by decide +kernel
theorem dX5_feast_29 : decode cX5_feast 29 = .ok (.ireturn, 1) := by decide +kernel
theorem dX5_days_0 : decode cX5_days 0 = .ok (.iload_n 1, 1) := by decide +kernel
theorem dX5_days_1 : decode cX5_days 1 = .ok (.iconst 0, 1) := by decide +kernel
theorem dX5_days_2 : decode cX5_days 2 = .ok (.bipush 30, 2) := by decide +kernel
theorem dX5_days_4 : decode cX5_days 4 = .ok (.invokestatic 156, 3) := by decide +kernel
theorem dX5_days_7 : decode cX5_days 7 = .ok (.ifCond .ne 5, 3) := by decide +kernel
theorem dX5_days_10 : decode cX5_days 10 = .ok (.iconst (-1), 1) := by decide +kernel
theorem dX5_days_11 : decode cX5_days 11 = .ok (.ireturn, 1) := by decide +kernel
theorem dX5_days_12 : decode cX5_days 12 = .ok (.aload_n 0, 1) := by decide +kernel
theorem dX5_days_13 : decode cX5_days 13 = .ok (.getfield 10, 3) := by decide +kernel
theorem dX5_days_16 : decode cX5_days 16 = .ok (.getfield 98, 3) := by decide +kernel
theorem dX5_days_19 : decode cX5_days 19 = .ok (.iload_n 1, 1) := by decide +kernel
theorem dX5_days_20 : decode cX5_days 20 = .ok (.iadd, 1) := by decide +kernel
theorem dX5_days_21 : decode cX5_days 21 = .ok (.sipush 1000, 3) := by decide +kernel
theorem dX5_days_24 : decode cX5_days 24 = .ok (.if_icmp .lt 6, 3) := by decide +kernel
theorem dX5_days_27 : decode cX5_days 27 = .ok (.bipush (-3), 2) := by decide +kernel
theorem dX5_days_29 : decode cX5_days 29 = .ok (.ireturn, 1) := by decide +kernel
theorem dX5_days_30 : decode cX5_days 30 = .ok (.aload_n 0, 1) := by decide +kernel
theorem dX5_days_31 : decode cX5_days 31 = .ok (.getfield 10, 3) := by decide +kernel
theorem dX5_days_34 : decode cX5_days 34 = .ok (.getfield 104, 3) := by decide +kernel
theorem dX5_days_37 : decode cX5_days 37 = .ok (.istore_n 2, 1) := by decide +kernel
theorem dX5_days_38 : decode cX5_days 38 = .ok (.aload_n 0, 1) := by decide +kernel
theorem dX5_days_39 : decode cX5_days 39 = .ok (.getfield 10, 3) := by decide +kernel
theorem dX5_days_42 : decode cX5_days 42 = .ok (.iload_n 1, 1) := by decide +kernel
theorem dX5_days_43 : decode cX5_days 43 = .ok (.invokevirtual 173, 3) := by decide +kernel
theorem dX5_days_46 : decode cX5_days 46 = .ok (.aload_n 0, 1) := by decide +kernel
theorem dX5_days_47 : decode cX5_days 47 = .ok (.getfield 10, 3) := by decide +kernel
theorem dX5_days_50 : decode cX5_days 50 = .ok (.getfield 104, 3) := by decide +kernel
theorem dX5_days_53 : decode cX5_days 53 = .ok (.iload_n 2, 1) := by decide +kernel
theorem dX5_days_54 : decode cX5_days 54 = .ok (.isub, 1) := by decide +kernel
theorem dX5_days_55 : decode cX5_days 55 = .ok (.ireturn, 1) := by decide +kernel
theorem dX5_runs_0 : decode cX5_runs 0 = .ok (.iload_n 1, 1) := by decide +kernel
theorem dX5_runs_1 : decode cX5_runs 1 = .ok (.iconst 0, 1) := by decide +kernel
theorem dX5_runs_2 : decode cX5_runs 2 = .ok (.bipush 60, 2) := by decide +kernel
theorem dX5_runs_4 : decode cX5_runs 4 = .ok (.invokestatic 156, 3) := by decide +kernel
theorem dX5_runs_7 : decode cX5_runs 7 = .ok (.ifCond .eq 12, 3) := by decide +kernel
theorem dX5_runs_10 : decode cX5_runs 10 = .ok (.iload_n 2, 1) := by decide +kernel
theorem dX5_runs_11 : decode cX5_runs 11 = .ok (.iconst 0, 1) := by decide +kernel
theorem dX5_runs_12 : decode cX5_runs 12 = .ok (.iconst 3, 1) := by decide +kernel
theorem dX5_runs_13 : decode cX5_runs 13 = .ok (.invokestatic 156, 3) := by decide +kernel
theorem dX5_runs_16 : decode cX5_runs 16 = .ok (.ifCond .ne 5, 3) := by decide +kernel
theorem dX5_runs_19 : decode cX5_runs 19 = .ok (.iconst (-1), 1) := by decide +kernel
theorem dX5_runs_20 : decode cX5_runs 20 = .ok (.ireturn, 1) := by decide +kernel
theorem dX5_runs_21 : decode cX5_runs 21 = .ok (.aload_n 0, 1) := by decide +kernel
theorem dX5_runs_22 : decode cX5_runs 22 = .ok (.invokevirtual 177, 3) := by decide +kernel
theorem dX5_runs_25 : decode cX5_runs 25 = .ok (.astore_n 3, 1) := by decide +kernel
theorem dX5_runs_26 : decode cX5_runs 26 = .ok (.aload_n 3, 1) := by decide +kernel
theorem dX5_runs_27 : decode cX5_runs 27 = .ok (.invokevirtual 107, 3) := by decide +kernel
theorem dX5_runs_30 : decode cX5_runs 30 = .ok (.istore 4, 2) := by decide +kernel
theorem dX5_runs_32 : decode cX5_runs 32 = .ok (.iconst 0, 1) := by decide +kernel
theorem dX5_runs_33 : decode cX5_runs 33 = .ok (.istore 5, 2) := by decide +kernel
theorem dX5_runs_35 : decode cX5_runs 35 = .ok (.iload 5, 2) := by decide +kernel
theorem dX5_runs_37 : decode cX5_runs 37 = .ok (.iload_n 1, 1) := by decide +kernel
theorem dX5_runs_38 : decode cX5_runs 38 = .ok (.if_icmp .ge 24, 3) := by decide +kernel
theorem dX5_runs_41 : decode cX5_runs 41 = .ok (.aload_n 3, 1) := by decide +kernel
theorem dX5_runs_42 : decode cX5_runs 42 = .ok (.invokevirtual 181, 3) := by decide +kernel
theorem dX5_runs_45 : decode cX5_runs 45 = .ok (.iload 4, 2) := by decide +kernel
theorem dX5_runs_47 : decode cX5_runs 47 = .ok (.aload_n 3, 1) := by decide +kernel
theorem dX5_runs_48 : decode cX5_runs 48 = .ok (.invokevirtual 107, 3) := by decide +kernel
theorem dX5_runs_51 : decode cX5_runs 51 = .ok (.invokestatic 184, 3) := by decide +kernel
theorem dX5_runs_54 : decode cX5_runs 54 = .ok (.istore 4, 2) := by decide +kernel
theorem dX5_runs_56 : decode cX5_runs 56 = .ok (.iinc 5 1, 3) := by decide +kernel
theorem dX5_runs_59 : decode cX5_runs 59 = .ok (.goto (-24), 3) := by decide +kernel
theorem dX5_runs_62 : decode cX5_runs 62 = .ok (.iload_n 2, 1) := by decide +kernel
theorem dX5_runs_63 : decode cX5_runs 63 = .ok (.tableswitch 46 0 2 #[25, 30, 43], 25) := by decide +kernel
theorem dX5_runs_88 : decode cX5_runs 88 = .ok (.aload_n 3, 1) := by decide +kernel
theorem dX5_runs_89 : decode cX5_runs 89 = .ok (.invokevirtual 107, 3) := by decide +kernel
theorem dX5_runs_92 : decode cX5_runs 92 = .ok (.ireturn, 1) := by decide +kernel
theorem dX5_runs_93 : decode cX5_runs 93 = .ok (.aload_n 3, 1) := by decide +kernel
theorem dX5_runs_94 : decode cX5_runs 94 = .ok (.getfield 104, 3) := by decide +kernel
theorem dX5_runs_97 : decode cX5_runs 97 = .ok (.aload_n 0, 1) := by decide +kernel
theorem dX5_runs_98 : decode cX5_runs 98 = .ok (.getfield 10, 3) := by decide +kernel
theorem dX5_runs_101 : decode cX5_runs 101 = .ok (.getfield 104, 3) := by decide +kernel
theorem dX5_runs_104 : decode cX5_runs 104 = .ok (.isub, 1) := by decide +kernel
theorem dX5_runs_105 : decode cX5_runs 105 = .ok (.ireturn, 1) := by decide +kernel
theorem dX5_runs_106 : decode cX5_runs 106 = .ok (.iload 4, 2) := by decide +kernel
theorem dX5_runs_108 : decode cX5_runs 108 = .ok (.ireturn, 1) := by decide +kernel
theorem dX5_runs_109 : decode cX5_runs 109 = .ok (.aload_n 3, 1) := by decide +kernel
theorem dX5_runs_110 : decode cX5_runs 110 = .ok (.aload_n 0, 1) := by decide +kernel
theorem dX5_runs_111 : decode cX5_runs 111 = .ok (.getfield 10, 3) := by decide +kernel
theorem dX5_runs_114 : decode cX5_runs 114 = .ok (.invokevirtual 187, 3) := by decide +kernel
theorem dX5_runs_117 : decode cX5_runs 117 = .ok (.ireturn, 1) := by decide +kernel
theorem dX5_ahead_0 : decode cX5_ahead 0 = .ok (.aload_n 0, 1) := by decide +kernel
theorem dX5_ahead_1 : decode cX5_ahead 1 = .ok (.iload_n 1, 1) := by decide +kernel
theorem dX5_ahead_2 : decode cX5_ahead 2 = .ok (.invokevirtual 111, 3) := by decide +kernel
theorem dX5_ahead_5 : decode cX5_ahead 5 = .ok (.ifCond .eq 13, 3) := by decide +kernel
theorem dX5_ahead_8 : decode cX5_ahead 8 = .ok (.iload_n 2, 1) := by decide +kernel
theorem dX5_ahead_9 : decode cX5_ahead 9 = .ok (.iconst 0, 1) := by decide +kernel
theorem dX5_ahead_10 : decode cX5_ahead 10 = .ok (.bipush 60, 2) := by decide +kernel
theorem dX5_ahead_12 : decode cX5_ahead 12 = .ok (.invokestatic 156, 3) := by decide +kernel
theorem dX5_ahead_15 : decode cX5_ahead 15 = .ok (.ifCond .ne 5, 3) := by decide +kernel
theorem dX5_ahead_18 : decode cX5_ahead 18 = .ok (.iconst (-1), 1) := by decide +kernel
theorem dX5_ahead_19 : decode cX5_ahead 19 = .ok (.ireturn, 1) := by decide +kernel
theorem dX5_ahead_20 : decode cX5_ahead 20 = .ok (.aload_n 0, 1) := by decide +kernel
theorem dX5_ahead_21 : decode cX5_ahead 21 = .ok (.invokevirtual 177, 3) := by decide +kernel
theorem dX5_ahead_24 : decode cX5_ahead 24 = .ok (.astore_n 3, 1) := by decide +kernel
theorem dX5_ahead_25 : decode cX5_ahead 25 = .ok (.aload_n 3, 1) := by decide +kernel
theorem dX5_ahead_26 : decode cX5_ahead 26 = .ok (.iload_n 2, 1) := by decide +kernel
theorem dX5_ahead_27 : decode cX5_ahead 27 = .ok (.invokevirtual 173, 3) := by decide +kernel
theorem dX5_ahead_30 : decode cX5_ahead 30 = .ok (.aload_n 3, 1) := by decide +kernel
theorem dX5_ahead_31 : decode cX5_ahead 31 = .ok (.getfield 118, 3) := by decide +kernel
theorem dX5_ahead_34 : decode cX5_ahead 34 = .ok (.iload_n 1, 1) := by decide +kernel
theorem dX5_ahead_35 : decode cX5_ahead 35 = .ok (.iaload, 1) := by decide +kernel
theorem dX5_ahead_36 : decode cX5_ahead 36 = .ok (.ireturn, 1) := by decide +kernel
theorem dX5_within_0 : decode cX5_within 0 = .ok (.iload_n 1, 1) := by decide +kernel
theorem dX5_within_1 : decode cX5_within 1 = .ok (.iconst 0, 1) := by decide +kernel
theorem dX5_within_2 : decode cX5_within 2 = .ok (.bipush 99, 2) := by decide +kernel
theorem dX5_within_4 : decode cX5_within 4 = .ok (.invokestatic 156, 3) := by decide +kernel
theorem dX5_within_7 : decode cX5_within 7 = .ok (.ifCond .ne 5, 3) := by decide +kernel
theorem dX5_within_10 : decode cX5_within 10 = .ok (.iconst (-1), 1) := by decide +kernel
theorem dX5_within_11 : decode cX5_within 11 = .ok (.ireturn, 1) := by decide +kernel
theorem dX5_within_12 : decode cX5_within 12 = .ok (.aload_n 0, 1) := by decide +kernel
theorem dX5_within_13 : decode cX5_within 13 = .ok (.invokevirtual 177, 3) := by decide +kernel
theorem dX5_within_16 : decode cX5_within 16 = .ok (.astore_n 2, 1) := by decide +kernel
theorem dX5_within_17 : decode cX5_within 17 = .ok (.iconst 0, 1) := by decide +kernel
theorem dX5_within_18 : decode cX5_within 18 = .ok (.istore_n 3, 1) := by decide +kernel
theorem dX5_within_19 : decode cX5_within 19 = .ok (.iload_n 3, 1) := by decide +kernel
theorem dX5_within_20 : decode cX5_within 20 = .ok (.bipush 60, 2) := by decide +kernel
theorem dX5_within_22 : decode cX5_within 22 = .ok (.if_icmp .gt 23, 3) := by decide +kernel
theorem dX5_within_25 : decode cX5_within 25 = .ok (.aload_n 2, 1) := by decide +kernel
theorem dX5_within_26 : decode cX5_within 26 = .ok (.invokevirtual 107, 3) := by decide +kernel
theorem dX5_within_29 : decode cX5_within 29 = .ok (.iload_n 1, 1) := by decide +kernel
theorem dX5_within_30 : decode cX5_within 30 = .ok (.if_icmp .gt 5, 3) := by decide +kernel
theorem dX5_within_33 : decode cX5_within 33 = .ok (.iload_n 3, 1) := by decide +kernel
theorem dX5_within_34 : decode cX5_within 34 = .ok (.ireturn, 1) := by decide +kernel
theorem dX5_within_35 : decode cX5_within 35 = .ok (.aload_n 2, 1) := by decide +kernel
theorem dX5_within_36 : decode cX5_within 36 = .ok (.invokevirtual 181, 3) := by decide +kernel
theorem dX5_within_39 : decode cX5_within 39 = .ok (.iinc 3 1, 3) := by decide +kernel
theorem dX5_within_42 : decode cX5_within 42 = .ok (.goto (-23), 3) := by decide +kernel
theorem dX5_within_45 : decode cX5_within 45 = .ok (.bipush (-4), 2) := by decide +kernel
theorem dX5_within_47 : decode cX5_within 47 = .ok (.ireturn, 1) := by decide +kernel
theorem dX5_match_0 : decode cX5_match 0 = .ok (.iload_n 1, 1) := by decide +kernel
theorem dX5_match_1 : decode cX5_match 1 = .ok (.iconst 1, 1) := by decide +kernel
theorem dX5_match_2 : decode cX5_match 2 = .ok (.bipush 30, 2) := by decide +kernel
theorem dX5_match_4 : decode cX5_match 4 = .ok (.invokestatic 156, 3) := by decide +kernel
theorem dX5_match_7 : decode cX5_match 7 = .ok (.ifCond .eq 12, 3) := by decide +kernel
theorem dX5_match_10 : decode cX5_match 10 = .ok (.iload_n 2, 1) := by decide +kernel
theorem dX5_match_11 : decode cX5_match 11 = .ok (.iconst 0, 1) := by decide +kernel
theorem dX5_match_12 : decode cX5_match 12 = .ok (.iconst 1, 1) := by decide +kernel
theorem dX5_match_13 : decode cX5_match 13 = .ok (.invokestatic 156, 3) := by decide +kernel
theorem dX5_match_16 : decode cX5_match 16 = .ok (.ifCond .ne 5, 3) := by decide +kernel
theorem dX5_match_19 : decode cX5_match 19 = .ok (.iconst (-1), 1) := by decide +kernel
theorem dX5_match_20 : decode cX5_match 20 = .ok (.ireturn, 1) := by decide +kernel
theorem dX5_match_21 : decode cX5_match 21 = .ok (.aload_n 0, 1) := by decide +kernel
theorem dX5_match_22 : decode cX5_match 22 = .ok (.getfield 10, 3) := by decide +kernel
theorem dX5_match_25 : decode cX5_match 25 = .ok (.getfield 95, 3) := by decide +kernel
theorem dX5_match_28 : decode cX5_match 28 = .ok (.bipush 6, 2) := by decide +kernel
theorem dX5_match_30 : decode cX5_match 30 = .ok (.if_icmp .lt 6, 3) := by decide +kernel
theorem dX5_match_33 : decode cX5_match 33 = .ok (.bipush (-3), 2) := by decide +kernel
theorem dX5_match_35 : decode cX5_match 35 = .ok (.ireturn, 1) := by decide +kernel
theorem dX5_match_36 : decode cX5_match 36 = .ok (.aload_n 0, 1) := by decide +kernel
theorem dX5_match_37 : decode cX5_match 37 = .ok (.invokevirtual 177, 3) := by decide +kernel
theorem dX5_match_40 : decode cX5_match 40 = .ok (.bipush 30, 2) := by decide +kernel
theorem dX5_match_42 : decode cX5_match 42 = .ok (.invokevirtual 191, 3) := by decide +kernel
theorem dX5_match_45 : decode cX5_match 45 = .ok (.istore_n 3, 1) := by decide +kernel
theorem dX5_match_46 : decode cX5_match 46 = .ok (.bipush (-4), 2) := by decide +kernel
theorem dX5_match_48 : decode cX5_match 48 = .ok (.istore 4, 2) := by decide +kernel
theorem dX5_match_50 : decode cX5_match 50 = .ok (.iconst 0, 1) := by decide +kernel
theorem dX5_match_51 : decode cX5_match 51 = .ok (.istore 5, 2) := by decide +kernel
theorem dX5_match_53 : decode cX5_match 53 = .ok (.iload 5, 2) := by decide +kernel
theorem dX5_match_55 : decode cX5_match 55 = .ok (.aload_n 0, 1) := by decide +kernel
theorem dX5_match_56 : decode cX5_match 56 = .ok (.getfield 10, 3) := by decide +kernel
theorem dX5_match_59 : decode cX5_match 59 = .ok (.getfield 92, 3) := by decide +kernel
theorem dX5_match_62 : decode cX5_match 62 = .ok (.if_icmp .ge 77, 3) := by decide +kernel
theorem dX5_match_65 : decode cX5_match 65 = .ok (.iload 5, 2) := by decide +kernel
theorem dX5_match_67 : decode cX5_match 67 = .ok (.iconst 1, 1) := by decide +kernel
theorem dX5_match_68 : decode cX5_match 68 = .ok (.iadd, 1) := by decide +kernel
theorem dX5_match_69 : decode cX5_match 69 = .ok (.istore 6, 2) := by decide +kernel
theorem dX5_match_71 : decode cX5_match 71 = .ok (.iload 6, 2) := by decide +kernel
theorem dX5_match_73 : decode cX5_match 73 = .ok (.aload_n 0, 1) := by decide +kernel
theorem dX5_match_74 : decode cX5_match 74 = .ok (.getfield 10, 3) := by decide +kernel
theorem dX5_match_77 : decode cX5_match 77 = .ok (.getfield 92, 3) := by decide +kernel
theorem dX5_match_80 : decode cX5_match 80 = .ok (.if_icmp .ge 53, 3) := by decide +kernel
theorem dX5_match_83 : decode cX5_match 83 = .ok (.aload_n 0, 1) := by decide +kernel
theorem dX5_match_84 : decode cX5_match 84 = .ok (.invokevirtual 177, 3) := by decide +kernel
theorem dX5_match_87 : decode cX5_match 87 = .ok (.astore 7, 2) := by decide +kernel
theorem dX5_match_89 : decode cX5_match 89 = .ok (.aload 7, 2) := by decide +kernel
theorem dX5_match_91 : decode cX5_match 91 = .ok (.iload 5, 2) := by decide +kernel
theorem dX5_match_93 : decode cX5_match 93 = .ok (.iload 6, 2) := by decide +kernel
theorem dX5_match_95 : decode cX5_match 95 = .ok (.iload_n 1, 1) := by decide +kernel
theorem dX5_match_96 : decode cX5_match 96 = .ok (.invokevirtual 170, 3) := by decide +kernel
theorem dX5_match_99 : decode cX5_match 99 = .ok (.aload 7, 2) := by decide +kernel
theorem dX5_match_101 : decode cX5_match 101 = .ok (.bipush 30, 2) := by decide +kernel
theorem dX5_match_103 : decode cX5_match 103 = .ok (.invokevirtual 191, 3) := by decide +kernel
theorem dX5_match_106 : decode cX5_match 106 = .ok (.istore 8, 2) := by decide +kernel
theorem dX5_match_108 : decode cX5_match 108 = .ok (.iload 8, 2) := by decide +kernel
theorem dX5_match_110 : decode cX5_match 110 = .ok (.iload_n 3, 1) := by decide +kernel
theorem dX5_match_111 : decode cX5_match 111 = .ok (.if_icmp .ge 16, 3) := by decide +kernel
theorem dX5_match_114 : decode cX5_match 114 = .ok (.iload 8, 2) := by decide +kernel
theorem dX5_match_116 : decode cX5_match 116 = .ok (.istore_n 3, 1) := by decide +kernel
theorem dX5_match_117 : decode cX5_match 117 = .ok (.bipush 10, 2) := by decide +kernel
theorem dX5_match_119 : decode cX5_match 119 = .ok (.iload 5, 2) := by decide +kernel
theorem dX5_match_121 : decode cX5_match 121 = .ok (.imul, 1) := by decide +kernel
theorem dX5_match_122 : decode cX5_match 122 = .ok (.iload 6, 2) := by decide +kernel
theorem dX5_match_124 : decode cX5_match 124 = .ok (.iadd, 1) := by decide +kernel
theorem dX5_match_125 : decode cX5_match 125 = .ok (.istore 4, 2) := by decide +kernel
theorem dX5_match_127 : decode cX5_match 127 = .ok (.iinc 6 1, 3) := by decide +kernel
theorem dX5_match_130 : decode cX5_match 130 = .ok (.goto (-59), 3) := by decide +kernel
theorem dX5_match_133 : decode cX5_match 133 = .ok (.iinc 5 1, 3) := by decide +kernel
theorem dX5_match_136 : decode cX5_match 136 = .ok (.goto (-83), 3) := by decide +kernel
theorem dX5_match_139 : decode cX5_match 139 = .ok (.iload 4, 2) := by decide +kernel
theorem dX5_match_141 : decode cX5_match 141 = .ok (.iload_n 3, 1) := by decide +kernel
theorem dX5_match_142 : decode cX5_match 142 = .ok (.iload_n 2, 1) := by decide +kernel
theorem dX5_match_143 : decode cX5_match 143 = .ok (.invokestatic 194, 3) := by decide +kernel
theorem dX5_match_146 : decode cX5_match 146 = .ok (.ireturn, 1) := by decide +kernel
theorem dX5_fray_0 : decode cX5_fray 0 = .ok (.iload_n 1, 1) := by decide +kernel
theorem dX5_fray_1 : decode cX5_fray 1 = .ok (.iconst 0, 1) := by decide +kernel
theorem dX5_fray_2 : decode cX5_fray 2 = .ok (.iconst 1, 1) := by decide +kernel
theorem dX5_fray_3 : decode cX5_fray 3 = .ok (.invokestatic 156, 3) := by decide +kernel
theorem dX5_fray_6 : decode cX5_fray 6 = .ok (.ifCond .ne 5, 3) := by decide +kernel
theorem dX5_fray_9 : decode cX5_fray 9 = .ok (.iconst (-1), 1) := by decide +kernel
theorem dX5_fray_10 : decode cX5_fray 10 = .ok (.ireturn, 1) := by decide +kernel
theorem dX5_fray_11 : decode cX5_fray 11 = .ok (.aload_n 0, 1) := by decide +kernel
theorem dX5_fray_12 : decode cX5_fray 12 = .ok (.invokevirtual 177, 3) := by decide +kernel
theorem dX5_fray_15 : decode cX5_fray 15 = .ok (.bipush 30, 2) := by decide +kernel
theorem dX5_fray_17 : decode cX5_fray 17 = .ok (.invokevirtual 198, 3) := by decide +kernel
theorem dX5_fray_20 : decode cX5_fray 20 = .ok (.istore_n 2, 1) := by decide +kernel
theorem dX5_fray_21 : decode cX5_fray 21 = .ok (.bipush (-4), 2) := by decide +kernel
theorem dX5_fray_23 : decode cX5_fray 23 = .ok (.istore_n 3, 1) := by decide +kernel
theorem dX5_fray_24 : decode cX5_fray 24 = .ok (.iconst 0, 1) := by decide +kernel
theorem dX5_fray_25 : decode cX5_fray 25 = .ok (.istore 4, 2) := by decide +kernel
theorem dX5_fray_27 : decode cX5_fray 27 = .ok (.iload 4, 2) := by decide +kernel
theorem dX5_fray_29 : decode cX5_fray 29 = .ok (.aload_n 0, 1) := by decide +kernel
theorem dX5_fray_30 : decode cX5_fray 30 = .ok (.getfield 10, 3) := by decide +kernel
theorem dX5_fray_33 : decode cX5_fray 33 = .ok (.getfield 95, 3) := by decide +kernel
theorem dX5_fray_36 : decode cX5_fray 36 = .ok (.if_icmp .ge 43, 3) := by decide +kernel
theorem dX5_fray_39 : decode cX5_fray 39 = .ok (.aload_n 0, 1) := by decide +kernel
theorem dX5_fray_40 : decode cX5_fray 40 = .ok (.invokevirtual 177, 3) := by decide +kernel
theorem dX5_fray_43 : decode cX5_fray 43 = .ok (.astore 5, 2) := by decide +kernel
theorem dX5_fray_45 : decode cX5_fray 45 = .ok (.aload 5, 2) := by decide +kernel
theorem dX5_fray_47 : decode cX5_fray 47 = .ok (.iload 4, 2) := by decide +kernel
theorem dX5_fray_49 : decode cX5_fray 49 = .ok (.invokevirtual 201, 3) := by decide +kernel
theorem dX5_fray_52 : decode cX5_fray 52 = .ok (.aload 5, 2) := by decide +kernel
theorem dX5_fray_54 : decode cX5_fray 54 = .ok (.bipush 30, 2) := by decide +kernel
theorem dX5_fray_56 : decode cX5_fray 56 = .ok (.invokevirtual 198, 3) := by decide +kernel
theorem dX5_fray_59 : decode cX5_fray 59 = .ok (.istore 6, 2) := by decide +kernel
theorem dX5_fray_61 : decode cX5_fray 61 = .ok (.iload 6, 2) := by decide +kernel
theorem dX5_fray_63 : decode cX5_fray 63 = .ok (.iload_n 2, 1) := by decide +kernel
theorem dX5_fray_64 : decode cX5_fray 64 = .ok (.if_icmp .ge 9, 3) := by decide +kernel
theorem dX5_fray_67 : decode cX5_fray 67 = .ok (.iload 6, 2) := by decide +kernel
theorem dX5_fray_69 : decode cX5_fray 69 = .ok (.istore_n 2, 1) := by decide +kernel
theorem dX5_fray_70 : decode cX5_fray 70 = .ok (.iload 4, 2) := by decide +kernel
theorem dX5_fray_72 : decode cX5_fray 72 = .ok (.istore_n 3, 1) := by decide +kernel
theorem dX5_fray_73 : decode cX5_fray 73 = .ok (.iinc 4 1, 3) := by decide +kernel
theorem dX5_fray_76 : decode cX5_fray 76 = .ok (.goto (-49), 3) := by decide +kernel
theorem dX5_fray_79 : decode cX5_fray 79 = .ok (.iload_n 3, 1) := by decide +kernel
theorem dX5_fray_80 : decode cX5_fray 80 = .ok (.iload_n 2, 1) := by decide +kernel
theorem dX5_fray_81 : decode cX5_fray 81 = .ok (.iload_n 1, 1) := by decide +kernel
theorem dX5_fray_82 : decode cX5_fray 82 = .ok (.invokestatic 194, 3) := by decide +kernel
theorem dX5_fray_85 : decode cX5_fray 85 = .ok (.ireturn, 1) := by decide +kernel
theorem dX5_soothe_0 : decode cX5_soothe 0 = .ok (.iload_n 1, 1) := by decide +kernel
theorem dX5_soothe_1 : decode cX5_soothe 1 = .ok (.iconst 0, 1) := by decide +kernel
theorem dX5_soothe_2 : decode cX5_soothe 2 = .ok (.iconst 1, 1) := by decide +kernel
theorem dX5_soothe_3 : decode cX5_soothe 3 = .ok (.invokestatic 156, 3) := by decide +kernel
theorem dX5_soothe_6 : decode cX5_soothe 6 = .ok (.ifCond .ne 5, 3) := by decide +kernel
theorem dX5_soothe_9 : decode cX5_soothe 9 = .ok (.iconst (-1), 1) := by decide +kernel
theorem dX5_soothe_10 : decode cX5_soothe 10 = .ok (.ireturn, 1) := by decide +kernel
theorem dX5_soothe_11 : decode cX5_soothe 11 = .ok (.aload_n 0, 1) := by decide +kernel
theorem dX5_soothe_12 : decode cX5_soothe 12 = .ok (.invokevirtual 177, 3) := by decide +kernel
theorem dX5_soothe_15 : decode cX5_soothe 15 = .ok (.bipush 30, 2) := by decide +kernel
theorem dX5_soothe_17 : decode cX5_soothe 17 = .ok (.invokevirtual 191, 3) := by decide +kernel
theorem dX5_soothe_20 : decode cX5_soothe 20 = .ok (.istore_n 2, 1) := by decide +kernel
theorem dX5_soothe_21 : decode cX5_soothe 21 = .ok (.bipush (-4), 2) := by decide +kernel
theorem dX5_soothe_23 : decode cX5_soothe 23 = .ok (.istore_n 3, 1) := by decide +kernel
theorem dX5_soothe_24 : decode cX5_soothe 24 = .ok (.iconst 0, 1) := by decide +kernel
theorem dX5_soothe_25 : decode cX5_soothe 25 = .ok (.istore 4, 2) := by decide +kernel
theorem dX5_soothe_27 : decode cX5_soothe 27 = .ok (.iload 4, 2) := by decide +kernel
theorem dX5_soothe_29 : decode cX5_soothe 29 = .ok (.aload_n 0, 1) := by decide +kernel
theorem dX5_soothe_30 : decode cX5_soothe 30 = .ok (.getfield 10, 3) := by decide +kernel
theorem dX5_soothe_33 : decode cX5_soothe 33 = .ok (.getfield 92, 3) := by decide +kernel
theorem dX5_soothe_36 : decode cX5_soothe 36 = .ok (.if_icmp .ge 97, 3) := by decide +kernel
theorem dX5_soothe_39 : decode cX5_soothe 39 = .ok (.iconst 0, 1) := by decide +kernel
theorem dX5_soothe_40 : decode cX5_soothe 40 = .ok (.istore 5, 2) := by decide +kernel
theorem dX5_soothe_42 : decode cX5_soothe 42 = .ok (.iload 5, 2) := by decide +kernel
theorem dX5_soothe_44 : decode cX5_soothe 44 = .ok (.aload_n 0, 1) := by decide +kernel
theorem dX5_soothe_45 : decode cX5_soothe 45 = .ok (.getfield 10, 3) := by decide +kernel
theorem dX5_soothe_48 : decode cX5_soothe 48 = .ok (.getfield 92, 3) := by decide +kernel
theorem dX5_soothe_51 : decode cX5_soothe 51 = .ok (.if_icmp .ge 76, 3) := by decide +kernel
theorem dX5_soothe_54 : decode cX5_soothe 54 = .ok (.iload 4, 2) := by decide +kernel
theorem dX5_soothe_56 : decode cX5_soothe 56 = .ok (.iload 5, 2) := by decide +kernel
theorem dX5_soothe_58 : decode cX5_soothe 58 = .ok (.if_icmp .eq 63, 3) := by decide +kernel
theorem dX5_soothe_61 : decode cX5_soothe 61 = .ok (.aload_n 0, 1) := by decide +kernel
theorem dX5_soothe_62 : decode cX5_soothe 62 = .ok (.getfield 10, 3) := by decide +kernel
theorem dX5_soothe_65 : decode cX5_soothe 65 = .ok (.iload 4, 2) := by decide +kernel
theorem dX5_soothe_67 : decode cX5_soothe 67 = .ok (.iload 5, 2) := by decide +kernel
theorem dX5_soothe_69 : decode cX5_soothe 69 = .ok (.invokevirtual 140, 3) := by decide +kernel
theorem dX5_soothe_72 : decode cX5_soothe 72 = .ok (.ifCond .ne 6, 3) := by decide +kernel
theorem dX5_soothe_75 : decode cX5_soothe 75 = .ok (.goto 46, 3) := by decide +kernel
theorem dX5_soothe_78 : decode cX5_soothe 78 = .ok (.aload_n 0, 1) := by decide +kernel
theorem dX5_soothe_79 : decode cX5_soothe 79 = .ok (.invokevirtual 177, 3) := by decide +kernel
theorem dX5_soothe_82 : decode cX5_soothe 82 = .ok (.astore 6, 2) := by decide +kernel
theorem dX5_soothe_84 : decode cX5_soothe 84 = .ok (.aload 6, 2) := by decide +kernel
theorem dX5_soothe_86 : decode cX5_soothe 86 = .ok (.iload 4, 2) := by decide +kernel
theorem dX5_soothe_88 : decode cX5_soothe 88 = .ok (.iload 5, 2) := by decide +kernel
theorem dX5_soothe_90 : decode cX5_soothe 90 = .ok (.iconst 0, 1) := by decide +kernel
theorem dX5_soothe_91 : decode cX5_soothe 91 = .ok (.invokevirtual 166, 3) := by decide +kernel
theorem dX5_soothe_94 : decode cX5_soothe 94 = .ok (.aload 6, 2) := by decide +kernel
theorem dX5_soothe_96 : decode cX5_soothe 96 = .ok (.bipush 30, 2) := by decide +kernel
theorem dX5_soothe_98 : decode cX5_soothe 98 = .ok (.invokevirtual 191, 3) := by decide +kernel
theorem dX5_soothe_101 : decode cX5_soothe 101 = .ok (.istore 7, 2) := by decide +kernel
theorem dX5_soothe_103 : decode cX5_soothe 103 = .ok (.iload 7, 2) := by decide +kernel
theorem dX5_soothe_105 : decode cX5_soothe 105 = .ok (.iload_n 2, 1) := by decide +kernel
theorem dX5_soothe_106 : decode cX5_soothe 106 = .ok (.if_icmp .ge 15, 3) := by decide +kernel
theorem dX5_soothe_109 : decode cX5_soothe 109 = .ok (.iload 7, 2) := by decide +kernel
theorem dX5_soothe_111 : decode cX5_soothe 111 = .ok (.istore_n 2, 1) := by decide +kernel
theorem dX5_soothe_112 : decode cX5_soothe 112 = .ok (.bipush 10, 2) := by decide +kernel
theorem dX5_soothe_114 : decode cX5_soothe 114 = .ok (.iload 4, 2) := by decide +kernel
theorem dX5_soothe_116 : decode cX5_soothe 116 = .ok (.imul, 1) := by decide +kernel
theorem dX5_soothe_117 : decode cX5_soothe 117 = .ok (.iload 5, 2) := by decide +kernel
theorem dX5_soothe_119 : decode cX5_soothe 119 = .ok (.iadd, 1) := by decide +kernel
theorem dX5_soothe_120 : decode cX5_soothe 120 = .ok (.istore_n 3, 1) := by decide +kernel
theorem dX5_soothe_121 : decode cX5_soothe 121 = .ok (.iinc 5 1, 3) := by decide +kernel
theorem dX5_soothe_124 : decode cX5_soothe 124 = .ok (.goto (-82), 3) := by decide +kernel
theorem dX5_soothe_127 : decode cX5_soothe 127 = .ok (.iinc 4 1, 3) := by decide +kernel
theorem dX5_soothe_130 : decode cX5_soothe 130 = .ok (.goto (-103), 3) := by decide +kernel
theorem dX5_soothe_133 : decode cX5_soothe 133 = .ok (.iload_n 3, 1) := by decide +kernel
theorem dX5_soothe_134 : decode cX5_soothe 134 = .ok (.iload_n 2, 1) := by decide +kernel
theorem dX5_soothe_135 : decode cX5_soothe 135 = .ok (.iload_n 1, 1) := by decide +kernel
theorem dX5_soothe_136 : decode cX5_soothe 136 = .ok (.invokestatic 194, 3) := by decide +kernel
theorem dX5_soothe_139 : decode cX5_soothe 139 = .ok (.ireturn, 1) := by decide +kernel
theorem dX5_holy_0 : decode cX5_holy 0 = .ok (.iload_n 1, 1) := by decide +kernel
theorem dX5_holy_1 : decode cX5_holy 1 = .ok (.iconst 0, 1) := by decide +kernel
theorem dX5_holy_2 : decode cX5_holy 2 = .ok (.bipush 60, 2) := by decide +kernel
theorem dX5_holy_4 : decode cX5_holy 4 = .ok (.invokestatic 156, 3) := by decide +kernel
theorem dX5_holy_7 : decode cX5_holy 7 = .ok (.ifCond .eq 12, 3) := by decide +kernel
theorem dX5_holy_10 : decode cX5_holy 10 = .ok (.iload_n 2, 1) := by decide +kernel
theorem dX5_holy_11 : decode cX5_holy 11 = .ok (.iconst 0, 1) := by decide +kernel
theorem dX5_holy_12 : decode cX5_holy 12 = .ok (.iconst 1, 1) := by decide +kernel
theorem dX5_holy_13 : decode cX5_holy 13 = .ok (.invokestatic 156, 3) := by decide +kernel
theorem dX5_holy_16 : decode cX5_holy 16 = .ok (.ifCond .ne 5, 3) := by decide +kernel
theorem dX5_holy_19 : decode cX5_holy 19 = .ok (.iconst (-1), 1) := by decide +kernel
theorem dX5_holy_20 : decode cX5_holy 20 = .ok (.ireturn, 1) := by decide +kernel
theorem dX5_holy_21 : decode cX5_holy 21 = .ok (.bipush 100, 2) := by decide +kernel
theorem dX5_holy_23 : decode cX5_holy 23 = .ok (.istore_n 3, 1) := by decide +kernel
theorem dX5_holy_24 : decode cX5_holy 24 = .ok (.bipush (-4), 2) := by decide +kernel
theorem dX5_holy_26 : decode cX5_holy 26 = .ok (.istore 4, 2) := by decide +kernel
theorem dX5_holy_28 : decode cX5_holy 28 = .ok (.iconst 0, 1) := by decide +kernel
theorem dX5_holy_29 : decode cX5_holy 29 = .ok (.istore 5, 2) := by decide +kernel
theorem dX5_holy_31 : decode cX5_holy 31 = .ok (.iload 5, 2) := by decide +kernel
theorem dX5_holy_33 : decode cX5_holy 33 = .ok (.bipush 7, 2) := by decide +kernel
theorem dX5_holy_35 : decode cX5_holy 35 = .ok (.if_icmp .ge 43, 3) := by decide +kernel
theorem dX5_holy_38 : decode cX5_holy 38 = .ok (.aload_n 0, 1) := by decide +kernel
theorem dX5_holy_39 : decode cX5_holy 39 = .ok (.invokevirtual 177, 3) := by decide +kernel
theorem dX5_holy_42 : decode cX5_holy 42 = .ok (.astore 6, 2) := by decide +kernel
theorem dX5_holy_44 : decode cX5_holy 44 = .ok (.aload 6, 2) := by decide +kernel
theorem dX5_holy_46 : decode cX5_holy 46 = .ok (.iload 5, 2) := by decide +kernel
theorem dX5_holy_48 : decode cX5_holy 48 = .ok (.putfield 101, 3) := by decide +kernel
theorem dX5_holy_51 : decode cX5_holy 51 = .ok (.aload 6, 2) := by decide +kernel
theorem dX5_holy_53 : decode cX5_holy 53 = .ok (.iload_n 1, 1) := by decide +kernel
theorem dX5_holy_54 : decode cX5_holy 54 = .ok (.invokevirtual 191, 3) := by decide +kernel
theorem dX5_holy_57 : decode cX5_holy 57 = .ok (.istore 7, 2) := by decide +kernel
theorem dX5_holy_59 : decode cX5_holy 59 = .ok (.iload 7, 2) := by decide +kernel
theorem dX5_holy_61 : decode cX5_holy 61 = .ok (.iload_n 3, 1) := by decide +kernel
theorem dX5_holy_62 : decode cX5_holy 62 = .ok (.if_icmp .ge 10, 3) := by decide +kernel
theorem dX5_holy_65 : decode cX5_holy 65 = .ok (.iload 7, 2) := by decide +kernel
theorem dX5_holy_67 : decode cX5_holy 67 = .ok (.istore_n 3, 1) := by decide +kernel
theorem dX5_holy_68 : decode cX5_holy 68 = .ok (.iload 5, 2) := by decide +kernel
theorem dX5_holy_70 : decode cX5_holy 70 = .ok (.istore 4, 2) := by decide +kernel
theorem dX5_holy_72 : decode cX5_holy 72 = .ok (.iinc 5 1, 3) := by decide +kernel
theorem dX5_holy_75 : decode cX5_holy 75 = .ok (.goto (-44), 3) := by decide +kernel
theorem dX5_holy_78 : decode cX5_holy 78 = .ok (.iload 4, 2) := by decide +kernel
theorem dX5_holy_80 : decode cX5_holy 80 = .ok (.iload_n 3, 1) := by decide +kernel
theorem dX5_holy_81 : decode cX5_holy 81 = .ok (.iload_n 2, 1) := by decide +kernel
theorem dX5_holy_82 : decode cX5_holy 82 = .ok (.invokestatic 194, 3) := by decide +kernel
theorem dX5_holy_85 : decode cX5_holy 85 = .ok (.ireturn, 1) := by decide +kernel
theorem dX5_kind_0 : decode cX5_kind 0 = .ok (.aload_n 0, 1) := by decide +kernel
theorem dX5_kind_1 : decode cX5_kind 1 = .ok (.iload_n 1, 1) := by decide +kernel
theorem dX5_kind_2 : decode cX5_kind 2 = .ok (.invokevirtual 111, 3) := by decide +kernel
theorem dX5_kind_5 : decode cX5_kind 5 = .ok (.ifCond .eq 22, 3) := by decide +kernel
theorem dX5_kind_8 : decode cX5_kind 8 = .ok (.iload_n 2, 1) := by decide +kernel
theorem dX5_kind_9 : decode cX5_kind 9 = .ok (.iconst 0, 1) := by decide +kernel
theorem dX5_kind_10 : decode cX5_kind 10 = .ok (.bipush 60, 2) := by decide +kernel
theorem dX5_kind_12 : decode cX5_kind 12 = .ok (.invokestatic 156, 3) := by decide +kernel
theorem dX5_kind_15 : decode cX5_kind 15 = .ok (.ifCond .eq 12, 3) := by decide +kernel
theorem dX5_kind_18 : decode cX5_kind 18 = .ok (.iload_n 3, 1) := by decide +kernel
theorem dX5_kind_19 : decode cX5_kind 19 = .ok (.iconst 0, 1) := by decide +kernel
theorem dX5_kind_20 : decode cX5_kind 20 = .ok (.iconst 1, 1) := by decide +kernel
theorem dX5_kind_21 : decode cX5_kind 21 = .ok (.invokestatic 156, 3) := by decide +kernel
theorem dX5_kind_24 : decode cX5_kind 24 = .ok (.ifCond .ne 5, 3) := by decide +kernel
theorem dX5_kind_27 : decode cX5_kind 27 = .ok (.iconst (-1), 1) := by decide +kernel
theorem dX5_kind_28 : decode cX5_kind 28 = .ok (.ireturn, 1) := by decide +kernel
theorem dX5_kind_29 : decode cX5_kind 29 = .ok (.bipush 100, 2) := by decide +kernel
theorem dX5_kind_31 : decode cX5_kind 31 = .ok (.istore 4, 2) := by decide +kernel
theorem dX5_kind_33 : decode cX5_kind 33 = .ok (.bipush (-4), 2) := by decide +kernel
theorem dX5_kind_35 : decode cX5_kind 35 = .ok (.istore 5, 2) := by decide +kernel
theorem dX5_kind_37 : decode cX5_kind 37 = .ok (.iconst 0, 1) := by decide +kernel
theorem dX5_kind_38 : decode cX5_kind 38 = .ok (.istore 6, 2) := by decide +kernel
theorem dX5_kind_40 : decode cX5_kind 40 = .ok (.iload 6, 2) := by decide +kernel
theorem dX5_kind_42 : decode cX5_kind 42 = .ok (.iconst 4, 1) := by decide +kernel
theorem dX5_kind_43 : decode cX5_kind 43 = .ok (.if_icmp .ge 47, 3) := by decide +kernel
theorem dX5_kind_46 : decode cX5_kind 46 = .ok (.aload_n 0, 1) := by decide +kernel
theorem dX5_kind_47 : decode cX5_kind 47 = .ok (.invokevirtual 177, 3) := by decide +kernel
theorem dX5_kind_50 : decode cX5_kind 50 = .ok (.astore 7, 2) := by decide +kernel
theorem dX5_kind_52 : decode cX5_kind 52 = .ok (.aload 7, 2) := by decide +kernel
theorem dX5_kind_54 : decode cX5_kind 54 = .ok (.getfield 115, 3) := by decide +kernel
theorem dX5_kind_57 : decode cX5_kind 57 = .ok (.iload_n 1, 1) := by decide +kernel
theorem dX5_kind_58 : decode cX5_kind 58 = .ok (.iload 6, 2) := by decide +kernel
theorem dX5_kind_60 : decode cX5_kind 60 = .ok (.iastore, 1) := by decide +kernel
theorem dX5_kind_61 : decode cX5_kind 61 = .ok (.aload 7, 2) := by decide +kernel
theorem dX5_kind_63 : decode cX5_kind 63 = .ok (.iload_n 2, 1) := by decide +kernel
theorem dX5_kind_64 : decode cX5_kind 64 = .ok (.invokevirtual 191, 3) := by decide +kernel
theorem dX5_kind_67 : decode cX5_kind 67 = .ok (.istore 8, 2) := by decide +kernel
theorem dX5_kind_69 : decode cX5_kind 69 = .ok (.iload 8, 2) := by decide +kernel
theorem dX5_kind_71 : decode cX5_kind 71 = .ok (.iload 4, 2) := by decide +kernel
theorem dX5_kind_73 : decode cX5_kind 73 = .ok (.if_icmp .ge 11, 3) := by decide +kernel
theorem dX5_kind_76 : decode cX5_kind 76 = .ok (.iload 8, 2) := by decide +kernel
theorem dX5_kind_78 : decode cX5_kind 78 = .ok (.istore 4, 2) := by decide +kernel
theorem dX5_kind_80 : decode cX5_kind 80 = .ok (.iload 6, 2) := by decide +kernel
theorem dX5_kind_82 : decode cX5_kind 82 = .ok (.istore 5, 2) := by decide +kernel
theorem dX5_kind_84 : decode cX5_kind 84 = .ok (.iinc 6 1, 3) := by decide +kernel
theorem dX5_kind_87 : decode cX5_kind 87 = .ok (.goto (-47), 3) := by decide +kernel
theorem dX5_kind_90 : decode cX5_kind 90 = .ok (.iload 5, 2) := by decide +kernel
theorem dX5_kind_92 : decode cX5_kind 92 = .ok (.iload 4, 2) := by decide +kernel
theorem dX5_kind_94 : decode cX5_kind 94 = .ok (.iload_n 3, 1) := by decide +kernel
theorem dX5_kind_95 : decode cX5_kind 95 = .ok (.invokestatic 194, 3) := by decide +kernel
theorem dX5_kind_98 : decode cX5_kind 98 = .ok (.ireturn, 1) := by decide +kernel
theorem dX5_slack_0 : decode cX5_slack 0 = .ok (.aload_n 0, 1) := by decide +kernel
theorem dX5_slack_1 : decode cX5_slack 1 = .ok (.iload_n 1, 1) := by decide +kernel
theorem dX5_slack_2 : decode cX5_slack 2 = .ok (.invokevirtual 144, 3) := by decide +kernel
theorem dX5_slack_5 : decode cX5_slack 5 = .ok (.ifCond .eq 23, 3) := by decide +kernel
theorem dX5_slack_8 : decode cX5_slack 8 = .ok (.iload_n 2, 1) := by decide +kernel
theorem dX5_slack_9 : decode cX5_slack 9 = .ok (.iconst 0, 1) := by decide +kernel
theorem dX5_slack_10 : decode cX5_slack 10 = .ok (.bipush 60, 2) := by decide +kernel
theorem dX5_slack_12 : decode cX5_slack 12 = .ok (.invokestatic 156, 3) := by decide +kernel
theorem dX5_slack_15 : decode cX5_slack 15 = .ok (.ifCond .eq 13, 3) := by decide +kernel
theorem dX5_slack_18 : decode cX5_slack 18 = .ok (.iload_n 3, 1) := by decide +kernel
theorem dX5_slack_19 : decode cX5_slack 19 = .ok (.iconst 0, 1) := by decide +kernel
theorem dX5_slack_20 : decode cX5_slack 20 = .ok (.bipush 99, 2) := by decide +kernel
theorem dX5_slack_22 : decode cX5_slack 22 = .ok (.invokestatic 156, 3) := by decide +kernel
theorem dX5_slack_25 : decode cX5_slack 25 = .ok (.ifCond .ne 5, 3) := by decide +kernel
theorem dX5_slack_28 : decode cX5_slack 28 = .ok (.iconst (-1), 1) := by decide +kernel
theorem dX5_slack_29 : decode cX5_slack 29 = .ok (.ireturn, 1) := by decide +kernel
theorem dX5_slack_30 : decode cX5_slack 30 = .ok (.bipush 30, 2) := by decide +kernel
theorem dX5_slack_32 : decode cX5_slack 32 = .ok (.istore 4, 2) := by decide +kernel
theorem dX5_slack_34 : decode cX5_slack 34 = .ok (.iload 4, 2) := by decide +kernel
theorem dX5_slack_36 : decode cX5_slack 36 = .ok (.iconst 1, 1) := by decide +kernel
theorem dX5_slack_37 : decode cX5_slack 37 = .ok (.if_icmp .lt 37, 3) := by decide +kernel
theorem dX5_slack_40 : decode cX5_slack 40 = .ok (.aload_n 0, 1) := by decide +kernel
theorem dX5_slack_41 : decode cX5_slack 41 = .ok (.invokevirtual 177, 3) := by decide +kernel
theorem dX5_slack_44 : decode cX5_slack 44 = .ok (.astore 5, 2) := by decide +kernel
theorem dX5_slack_46 : decode cX5_slack 46 = .ok (.aload 5, 2) := by decide +kernel
theorem dX5_slack_48 : decode cX5_slack 48 = .ok (.getfield 153, 3) := by decide +kernel
theorem dX5_slack_51 : decode cX5_slack 51 = .ok (.iload_n 1, 1) := by decide +kernel
theorem dX5_slack_52 : decode cX5_slack 52 = .ok (.iload 4, 2) := by decide +kernel
theorem dX5_slack_54 : decode cX5_slack 54 = .ok (.iastore, 1) := by decide +kernel
theorem dX5_slack_55 : decode cX5_slack 55 = .ok (.aload 5, 2) := by decide +kernel
theorem dX5_slack_57 : decode cX5_slack 57 = .ok (.iload_n 2, 1) := by decide +kernel
theorem dX5_slack_58 : decode cX5_slack 58 = .ok (.invokevirtual 191, 3) := by decide +kernel
theorem dX5_slack_61 : decode cX5_slack 61 = .ok (.iload_n 3, 1) := by decide +kernel
theorem dX5_slack_62 : decode cX5_slack 62 = .ok (.if_icmp .gt 6, 3) := by decide +kernel
theorem dX5_slack_65 : decode cX5_slack 65 = .ok (.iload 4, 2) := by decide +kernel
theorem dX5_slack_67 : decode cX5_slack 67 = .ok (.ireturn, 1) := by decide +kernel
theorem dX5_slack_68 : decode cX5_slack 68 = .ok (.iinc 4 (-1), 3) := by decide +kernel
theorem dX5_slack_71 : decode cX5_slack 71 = .ok (.goto (-37), 3) := by decide +kernel
theorem dX5_slack_74 : decode cX5_slack 74 = .ok (.bipush (-4), 2) := by decide +kernel
theorem dX5_slack_76 : decode cX5_slack 76 = .ok (.ireturn, 1) := by decide +kernel
theorem dX5_luck_0 : decode cX5_luck 0 = .ok (.iload_n 1, 1) := by decide +kernel
theorem dX5_luck_1 : decode cX5_luck 1 = .ok (.iload_n 2, 1) := by decide +kernel
theorem dX5_luck_2 : decode cX5_luck 2 = .ok (.iload 4, 2) := by decide +kernel
theorem dX5_luck_4 : decode cX5_luck 4 = .ok (.invokestatic 204, 3) := by decide +kernel
theorem dX5_luck_7 : decode cX5_luck 7 = .ok (.ifCond .eq 13, 3) := by decide +kernel
theorem dX5_luck_10 : decode cX5_luck 10 = .ok (.iload_n 3, 1) := by decide +kernel
theorem dX5_luck_11 : decode cX5_luck 11 = .ok (.iconst 0, 1) := by decide +kernel
theorem dX5_luck_12 : decode cX5_luck 12 = .ok (.bipush 99, 2) := by decide +kernel
theorem dX5_luck_14 : decode cX5_luck 14 = .ok (.invokestatic 156, 3) := by decide +kernel
theorem dX5_luck_17 : decode cX5_luck 17 = .ok (.ifCond .ne 7, 3) := by decide +kernel
theorem dX5_luck_20 : decode cX5_luck 20 = .ok (.ldc2_w 207, 3) := by decide +kernel
theorem dX5_luck_23 : decode cX5_luck 23 = .ok (.lreturn, 1) := by decide +kernel
theorem dX5_luck_24 : decode cX5_luck 24 = .ok (.aload_n 0, 1) := by decide +kernel
theorem dX5_luck_25 : decode cX5_luck 25 = .ok (.invokevirtual 177, 3) := by decide +kernel
theorem dX5_luck_28 : decode cX5_luck 28 = .ok (.aload_n 0, 1) := by decide +kernel
theorem dX5_luck_29 : decode cX5_luck 29 = .ok (.getfield 51, 3) := by decide +kernel
theorem dX5_luck_32 : decode cX5_luck 32 = .ok (.iload_n 2, 1) := by decide +kernel
theorem dX5_luck_33 : decode cX5_luck 33 = .ok (.iload_n 1, 1) := by decide +kernel
theorem dX5_luck_34 : decode cX5_luck 34 = .ok (.iload_n 3, 1) := by decide +kernel
theorem dX5_luck_35 : decode cX5_luck 35 = .ok (.invokestatic 209, 3) := by decide +kernel
theorem dX5_luck_38 : decode cX5_luck 38 = .ok (.iload_n 2, 1) := by decide +kernel
theorem dX5_luck_39 : decode cX5_luck 39 = .ok (.iload 4, 2) := by decide +kernel
theorem dX5_luck_41 : decode cX5_luck 41 = .ok (.invokestatic 213, 3) := by decide +kernel
theorem dX5_luck_44 : decode cX5_luck 44 = .ok (.lreturn, 1) := by decide +kernel
theorem dX5_mean_0 : decode cX5_mean 0 = .ok (.iload_n 1, 1) := by decide +kernel
theorem dX5_mean_1 : decode cX5_mean 1 = .ok (.iload_n 2, 1) := by decide +kernel
theorem dX5_mean_2 : decode cX5_mean 2 = .ok (.iload_n 3, 1) := by decide +kernel
theorem dX5_mean_3 : decode cX5_mean 3 = .ok (.invokestatic 204, 3) := by decide +kernel
theorem dX5_mean_6 : decode cX5_mean 6 = .ok (.ifCond .ne 7, 3) := by decide +kernel
theorem dX5_mean_9 : decode cX5_mean 9 = .ok (.ldc2_w 207, 3) := by decide +kernel
theorem dX5_mean_12 : decode cX5_mean 12 = .ok (.lreturn, 1) := by decide +kernel
theorem dX5_mean_13 : decode cX5_mean 13 = .ok (.aload_n 0, 1) := by decide +kernel
theorem dX5_mean_14 : decode cX5_mean 14 = .ok (.invokevirtual 177, 3) := by decide +kernel
theorem dX5_mean_17 : decode cX5_mean 17 = .ok (.aload_n 0, 1) := by decide +kernel
theorem dX5_mean_18 : decode cX5_mean 18 = .ok (.getfield 51, 3) := by decide +kernel
theorem dX5_mean_21 : decode cX5_mean 21 = .ok (.iload_n 2, 1) := by decide +kernel
theorem dX5_mean_22 : decode cX5_mean 22 = .ok (.iload_n 1, 1) := by decide +kernel
theorem dX5_mean_23 : decode cX5_mean 23 = .ok (.iconst (-1), 1) := by decide +kernel
theorem dX5_mean_24 : decode cX5_mean 24 = .ok (.invokestatic 209, 3) := by decide +kernel
theorem dX5_mean_27 : decode cX5_mean 27 = .ok (.iload_n 2, 1) := by decide +kernel
theorem dX5_mean_28 : decode cX5_mean 28 = .ok (.iload_n 3, 1) := by decide +kernel
theorem dX5_mean_29 : decode cX5_mean 29 = .ok (.invokestatic 213, 3) := by decide +kernel
theorem dX5_mean_32 : decode cX5_mean 32 = .ok (.lreturn, 1) := by decide +kernel
theorem dX5_see_0 : decode cX5_see 0 = .ok (.iload_n 1, 1) := by decide +kernel
theorem dX5_see_1 : decode cX5_see 1 = .ok (.iconst 0, 1) := by decide +kernel
theorem dX5_see_2 : decode cX5_see 2 = .ok (.bipush 20, 2) := by decide +kernel
theorem dX5_see_4 : decode cX5_see 4 = .ok (.invokestatic 156, 3) := by decide +kernel
theorem dX5_see_7 : decode cX5_see 7 = .ok (.ifCond .eq 21, 3) := by decide +kernel
theorem dX5_see_10 : decode cX5_see 10 = .ok (.aload_n 0, 1) := by decide +kernel
theorem dX5_see_11 : decode cX5_see 11 = .ok (.iload_n 2, 1) := by decide +kernel
theorem dX5_see_12 : decode cX5_see 12 = .ok (.invokevirtual 111, 3) := by decide +kernel
theorem dX5_see_15 : decode cX5_see 15 = .ok (.ifCond .eq 13, 3) := by decide +kernel
theorem dX5_see_18 : decode cX5_see 18 = .ok (.iload_n 3, 1) := by decide +kernel
theorem dX5_see_19 : decode cX5_see 19 = .ok (.iconst 0, 1) := by decide +kernel
theorem dX5_see_20 : decode cX5_see 20 = .ok (.bipush 99, 2) := by decide +kernel
theorem dX5_see_22 : decode cX5_see 22 = .ok (.invokestatic 156, 3) := by decide +kernel
theorem dX5_see_25 : decode cX5_see 25 = .ok (.ifCond .ne 5, 3) := by decide +kernel
theorem dX5_see_28 : decode cX5_see 28 = .ok (.iconst (-1), 1) := by decide +kernel
theorem dX5_see_29 : decode cX5_see 29 = .ok (.ireturn, 1) := by decide +kernel
theorem dX5_see_30 : decode cX5_see 30 = .ok (.aload_n 0, 1) := by decide +kernel
theorem dX5_see_31 : decode cX5_see 31 = .ok (.getfield 22, 3) := by decide +kernel
theorem dX5_see_34 : decode cX5_see 34 = .ok (.getfield 79, 3) := by decide +kernel
theorem dX5_see_37 : decode cX5_see 37 = .ok (.bipush 6, 2) := by decide +kernel
theorem dX5_see_39 : decode cX5_see 39 = .ok (.if_icmp .lt 6, 3) := by decide +kernel
theorem dX5_see_42 : decode cX5_see 42 = .ok (.bipush (-3), 2) := by decide +kernel
theorem dX5_see_44 : decode cX5_see 44 = .ok (.ireturn, 1) := by decide +kernel
theorem dX5_see_45 : decode cX5_see 45 = .ok (.aload_n 0, 1) := by decide +kernel
theorem dX5_see_46 : decode cX5_see 46 = .ok (.getfield 22, 3) := by decide +kernel
theorem dX5_see_49 : decode cX5_see 49 = .ok (.iload_n 1, 1) := by decide +kernel
theorem dX5_see_50 : decode cX5_see 50 = .ok (.iload_n 2, 1) := by decide +kernel
theorem dX5_see_51 : decode cX5_see 51 = .ok (.iload_n 3, 1) := by decide +kernel
theorem dX5_see_52 : decode cX5_see 52 = .ok (.invokevirtual 217, 3) := by decide +kernel
theorem dX5_see_55 : decode cX5_see 55 = .ok (.aload_n 0, 1) := by decide +kernel
theorem dX5_see_56 : decode cX5_see 56 = .ok (.getfield 22, 3) := by decide +kernel
theorem dX5_see_59 : decode cX5_see 59 = .ok (.getfield 79, 3) := by decide +kernel
theorem dX5_see_62 : decode cX5_see 62 = .ok (.ireturn, 1) := by decide +kernel
theorem dX5_forget_0 : decode cX5_forget 0 = .ok (.iload_n 1, 1) := by decide +kernel
theorem dX5_forget_1 : decode cX5_forget 1 = .ok (.ifCond .lt 14, 3) := by decide +kernel
theorem dX5_forget_4 : decode cX5_forget 4 = .ok (.iload_n 1, 1) := by decide +kernel
theorem dX5_forget_5 : decode cX5_forget 5 = .ok (.aload_n 0, 1) := by decide +kernel
theorem dX5_forget_6 : decode cX5_forget 6 = .ok (.getfield 22, 3) := by decide +kernel
theorem dX5_forget_9 : decode cX5_forget 9 = .ok (.getfield 79, 3) := by decide +kernel
theorem dX5_forget_12 : decode cX5_forget 12 = .ok (.if_icmp .le 5, 3) := by decide +kernel
theorem dX5_forget_15 : decode cX5_forget 15 = .ok (.iconst (-1), 1) := by decide +kernel
theorem dX5_forget_16 : decode cX5_forget 16 = .ok (.ireturn, 1) := by decide +kernel
theorem dX5_forget_17 : decode cX5_forget 17 = .ok (.aload_n 0, 1) := by decide +kernel
theorem dX5_forget_18 : decode cX5_forget 18 = .ok (.getfield 22, 3) := by decide +kernel
theorem dX5_forget_21 : decode cX5_forget 21 = .ok (.getfield 79, 3) := by decide +kernel
theorem dX5_forget_24 : decode cX5_forget 24 = .ok (.istore_n 2, 1) := by decide +kernel
theorem dX5_forget_25 : decode cX5_forget 25 = .ok (.aload_n 0, 1) := by decide +kernel
theorem dX5_forget_26 : decode cX5_forget 26 = .ok (.getfield 22, 3) := by decide +kernel
theorem dX5_forget_29 : decode cX5_forget 29 = .ok (.iload_n 1, 1) := by decide +kernel
theorem dX5_forget_30 : decode cX5_forget 30 = .ok (.putfield 79, 3) := by decide +kernel
theorem dX5_forget_33 : decode cX5_forget 33 = .ok (.iload_n 2, 1) := by decide +kernel
theorem dX5_forget_34 : decode cX5_forget 34 = .ok (.ireturn, 1) := by decide +kernel
theorem dX5_kinds_0 : decode cX5_kinds 0 = .ok (.aload_n 0, 1) := by decide +kernel
theorem dX5_kinds_1 : decode cX5_kinds 1 = .ok (.iload_n 1, 1) := by decide +kernel
theorem dX5_kinds_2 : decode cX5_kinds 2 = .ok (.invokevirtual 111, 3) := by decide +kernel
theorem dX5_kinds_5 : decode cX5_kinds 5 = .ok (.ifCond .eq 11, 3) := by decide +kernel
theorem dX5_kinds_8 : decode cX5_kinds 8 = .ok (.aload_n 0, 1) := by decide +kernel
theorem dX5_kinds_9 : decode cX5_kinds 9 = .ok (.iload_n 1, 1) := by decide +kernel
theorem dX5_kinds_10 : decode cX5_kinds 10 = .ok (.invokevirtual 220, 3) := by decide +kernel
theorem dX5_kinds_13 : decode cX5_kinds 13 = .ok (.goto 4, 3) := by decide +kernel
theorem dX5_kinds_16 : decode cX5_kinds 16 = .ok (.iconst (-1), 1) := by decide +kernel
theorem dX5_kinds_17 : decode cX5_kinds 17 = .ok (.ireturn, 1) := by decide +kernel
theorem dX5_sulks_0 : decode cX5_sulks 0 = .ok (.aload_n 0, 1) := by decide +kernel
theorem dX5_sulks_1 : decode cX5_sulks 1 = .ok (.iload_n 1, 1) := by decide +kernel
theorem dX5_sulks_2 : decode cX5_sulks 2 = .ok (.iload_n 2, 1) := by decide +kernel
theorem dX5_sulks_3 : decode cX5_sulks 3 = .ok (.invokevirtual 136, 3) := by decide +kernel
theorem dX5_sulks_6 : decode cX5_sulks 6 = .ok (.ifCond .ne 5, 3) := by decide +kernel
theorem dX5_sulks_9 : decode cX5_sulks 9 = .ok (.iconst (-1), 1) := by decide +kernel
theorem dX5_sulks_10 : decode cX5_sulks 10 = .ok (.ireturn, 1) := by decide +kernel
theorem dX5_sulks_11 : decode cX5_sulks 11 = .ok (.iconst 0, 1) := by decide +kernel
theorem dX5_sulks_12 : decode cX5_sulks 12 = .ok (.istore_n 3, 1) := by decide +kernel
theorem dX5_sulks_13 : decode cX5_sulks 13 = .ok (.iconst 0, 1) := by decide +kernel
theorem dX5_sulks_14 : decode cX5_sulks 14 = .ok (.istore 4, 2) := by decide +kernel
theorem dX5_sulks_16 : decode cX5_sulks 16 = .ok (.iload 4, 2) := by decide +kernel
theorem dX5_sulks_18 : decode cX5_sulks 18 = .ok (.iconst 3, 1) := by decide +kernel
theorem dX5_sulks_19 : decode cX5_sulks 19 = .ok (.if_icmp .gt 43, 3) := by decide +kernel
theorem dX5_sulks_22 : decode cX5_sulks 22 = .ok (.aload_n 0, 1) := by decide +kernel
theorem dX5_sulks_23 : decode cX5_sulks 23 = .ok (.invokevirtual 177, 3) := by decide +kernel
theorem dX5_sulks_26 : decode cX5_sulks 26 = .ok (.astore 5, 2) := by decide +kernel
theorem dX5_sulks_28 : decode cX5_sulks 28 = .ok (.aload 5, 2) := by decide +kernel
theorem dX5_sulks_30 : decode cX5_sulks 30 = .ok (.iload_n 1, 1) := by decide +kernel
theorem dX5_sulks_31 : decode cX5_sulks 31 = .ok (.iload_n 2, 1) := by decide +kernel
theorem dX5_sulks_32 : decode cX5_sulks 32 = .ok (.iload 4, 2) := by decide +kernel
theorem dX5_sulks_34 : decode cX5_sulks 34 = .ok (.invokevirtual 166, 3) := by decide +kernel
theorem dX5_sulks_37 : decode cX5_sulks 37 = .ok (.aload_n 0, 1) := by decide +kernel
theorem dX5_sulks_38 : decode cX5_sulks 38 = .ok (.getfield 22, 3) := by decide +kernel
theorem dX5_sulks_41 : decode cX5_sulks 41 = .ok (.aload 5, 2) := by decide +kernel
theorem dX5_sulks_43 : decode cX5_sulks 43 = .ok (.invokevirtual 223, 3) := by decide +kernel
theorem dX5_sulks_46 : decode cX5_sulks 46 = .ok (.ifCond .eq 10, 3) := by decide +kernel
theorem dX5_sulks_49 : decode cX5_sulks 49 = .ok (.iload_n 3, 1) := by decide +kernel
theorem dX5_sulks_50 : decode cX5_sulks 50 = .ok (.iconst 1, 1) := by decide +kernel
theorem dX5_sulks_51 : decode cX5_sulks 51 = .ok (.iload 4, 2) := by decide +kernel
theorem dX5_sulks_53 : decode cX5_sulks 53 = .ok (.ishl, 1) := by decide +kernel
theorem dX5_sulks_54 : decode cX5_sulks 54 = .ok (.ior, 1) := by decide +kernel
theorem dX5_sulks_55 : decode cX5_sulks 55 = .ok (.istore_n 3, 1) := by decide +kernel
theorem dX5_sulks_56 : decode cX5_sulks 56 = .ok (.iinc 4 1, 3) := by decide +kernel
theorem dX5_sulks_59 : decode cX5_sulks 59 = .ok (.goto (-43), 3) := by decide +kernel
theorem dX5_sulks_62 : decode cX5_sulks 62 = .ok (.iload_n 3, 1) := by decide +kernel
theorem dX5_sulks_63 : decode cX5_sulks 63 = .ok (.ireturn, 1) := by decide +kernel
theorem dX5_ask_0 : decode cX5_ask 0 = .ok (.aload_n 0, 1) := by decide +kernel
theorem dX5_ask_1 : decode cX5_ask 1 = .ok (.iload_n 1, 1) := by decide +kernel
theorem dX5_ask_2 : decode cX5_ask 2 = .ok (.invokevirtual 111, 3) := by decide +kernel
theorem dX5_ask_5 : decode cX5_ask 5 = .ok (.ifCond .eq 12, 3) := by decide +kernel
theorem dX5_ask_8 : decode cX5_ask 8 = .ok (.iload_n 2, 1) := by decide +kernel
theorem dX5_ask_9 : decode cX5_ask 9 = .ok (.iconst 0, 1) := by decide +kernel
theorem dX5_ask_10 : decode cX5_ask 10 = .ok (.iconst 1, 1) := by decide +kernel
theorem dX5_ask_11 : decode cX5_ask 11 = .ok (.invokestatic 156, 3) := by decide +kernel
theorem dX5_ask_14 : decode cX5_ask 14 = .ok (.ifCond .ne 5, 3) := by decide +kernel
theorem dX5_ask_17 : decode cX5_ask 17 = .ok (.iconst (-1), 1) := by decide +kernel
theorem dX5_ask_18 : decode cX5_ask 18 = .ok (.ireturn, 1) := by decide +kernel
theorem dX5_ask_19 : decode cX5_ask 19 = .ok (.aload_n 0, 1) := by decide +kernel
theorem dX5_ask_20 : decode cX5_ask 20 = .ok (.iload_n 1, 1) := by decide +kernel
theorem dX5_ask_21 : decode cX5_ask 21 = .ok (.aload_n 0, 1) := by decide +kernel
theorem dX5_ask_22 : decode cX5_ask 22 = .ok (.iload_n 1, 1) := by decide +kernel
theorem dX5_ask_23 : decode cX5_ask 23 = .ok (.invokevirtual 220, 3) := by decide +kernel
theorem dX5_ask_26 : decode cX5_ask 26 = .ok (.invokevirtual 227, 3) := by decide +kernel
theorem dX5_ask_29 : decode cX5_ask 29 = .ok (.istore_n 3, 1) := by decide +kernel
theorem dX5_ask_30 : decode cX5_ask 30 = .ok (.iload_n 3, 1) := by decide +kernel
theorem dX5_ask_31 : decode cX5_ask 31 = .ok (.istore 4, 2) := by decide +kernel
theorem dX5_ask_33 : decode cX5_ask 33 = .ok (.bipush (-4), 2) := by decide +kernel
theorem dX5_ask_35 : decode cX5_ask 35 = .ok (.istore 5, 2) := by decide +kernel
theorem dX5_ask_37 : decode cX5_ask 37 = .ok (.iconst 0, 1) := by decide +kernel
theorem dX5_ask_38 : decode cX5_ask 38 = .ok (.istore 6, 2) := by decide +kernel
theorem dX5_ask_40 : decode cX5_ask 40 = .ok (.iload 6, 2) := by decide +kernel
theorem dX5_ask_42 : decode cX5_ask 42 = .ok (.bipush 20, 2) := by decide +kernel
theorem dX5_ask_44 : decode cX5_ask 44 = .ok (.if_icmp .gt 65, 3) := by decide +kernel
theorem dX5_ask_47 : decode cX5_ask 47 = .ok (.iconst 0, 1) := by decide +kernel
theorem dX5_ask_48 : decode cX5_ask 48 = .ok (.istore 7, 2) := by decide +kernel
theorem dX5_ask_50 : decode cX5_ask 50 = .ok (.iload 7, 2) := by decide +kernel
theorem dX5_ask_52 : decode cX5_ask 52 = .ok (.aload_n 0, 1) := by decide +kernel
theorem dX5_ask_53 : decode cX5_ask 53 = .ok (.getfield 10, 3) := by decide +kernel
theorem dX5_ask_56 : decode cX5_ask 56 = .ok (.getfield 92, 3) := by decide +kernel
theorem dX5_ask_59 : decode cX5_ask 59 = .ok (.if_icmp .ge 44, 3) := by decide +kernel
theorem dX5_ask_62 : decode cX5_ask 62 = .ok (.aload_n 0, 1) := by decide +kernel
theorem dX5_ask_63 : decode cX5_ask 63 = .ok (.iload_n 3, 1) := by decide +kernel
theorem dX5_ask_64 : decode cX5_ask 64 = .ok (.iload 6, 2) := by decide +kernel
theorem dX5_ask_66 : decode cX5_ask 66 = .ok (.iconst 5, 1) := by decide +kernel
theorem dX5_ask_67 : decode cX5_ask 67 = .ok (.imul, 1) := by decide +kernel
theorem dX5_ask_68 : decode cX5_ask 68 = .ok (.iload 7, 2) := by decide +kernel
theorem dX5_ask_70 : decode cX5_ask 70 = .ok (.iadd, 1) := by decide +kernel
theorem dX5_ask_71 : decode cX5_ask 71 = .ok (.invokevirtual 230, 3) := by decide +kernel
theorem dX5_ask_74 : decode cX5_ask 74 = .ok (.istore 8, 2) := by decide +kernel
theorem dX5_ask_76 : decode cX5_ask 76 = .ok (.iload 8, 2) := by decide +kernel
theorem dX5_ask_78 : decode cX5_ask 78 = .ok (.iload 4, 2) := by decide +kernel
theorem dX5_ask_80 : decode cX5_ask 80 = .ok (.if_icmp .ge 17, 3) := by decide +kernel
theorem dX5_ask_83 : decode cX5_ask 83 = .ok (.iload 8, 2) := by decide +kernel
theorem dX5_ask_85 : decode cX5_ask 85 = .ok (.istore 4, 2) := by decide +kernel
theorem dX5_ask_87 : decode cX5_ask 87 = .ok (.bipush 10, 2) := by decide +kernel
theorem dX5_ask_89 : decode cX5_ask 89 = .ok (.iload 6, 2) := by decide +kernel
theorem dX5_ask_91 : decode cX5_ask 91 = .ok (.imul, 1) := by decide +kernel
theorem dX5_ask_92 : decode cX5_ask 92 = .ok (.iload 7, 2) := by decide +kernel
theorem dX5_ask_94 : decode cX5_ask 94 = .ok (.iadd, 1) := by decide +kernel
theorem dX5_ask_95 : decode cX5_ask 95 = .ok (.istore 5, 2) := by decide +kernel
theorem dX5_ask_97 : decode cX5_ask 97 = .ok (.iinc 7 1, 3) := by decide +kernel
theorem dX5_ask_100 : decode cX5_ask 100 = .ok (.goto (-50), 3) := by decide +kernel
theorem dX5_ask_103 : decode cX5_ask 103 = .ok (.iinc 6 1, 3) := by decide +kernel
theorem dX5_ask_106 : decode cX5_ask 106 = .ok (.goto (-66), 3) := by decide +kernel
theorem dX5_ask_109 : decode cX5_ask 109 = .ok (.iload 5, 2) := by decide +kernel
theorem dX5_ask_111 : decode cX5_ask 111 = .ok (.iload 4, 2) := by decide +kernel
theorem dX5_ask_113 : decode cX5_ask 113 = .ok (.iload_n 2, 1) := by decide +kernel
theorem dX5_ask_114 : decode cX5_ask 114 = .ok (.invokestatic 194, 3) := by decide +kernel
theorem dX5_ask_117 : decode cX5_ask 117 = .ok (.ireturn, 1) := by decide +kernel
theorem dX5_drift_0 : decode cX5_drift 0 = .ok (.iload_n 2, 1) := by decide +kernel
theorem dX5_drift_1 : decode cX5_drift 1 = .ok (.iconst 1, 1) := by decide +kernel
theorem dX5_drift_2 : decode cX5_drift 2 = .ok (.bipush 60, 2) := by decide +kernel
theorem dX5_drift_4 : decode cX5_drift 4 = .ok (.invokestatic 156, 3) := by decide +kernel
theorem dX5_drift_7 : decode cX5_drift 7 = .ok (.ifCond .eq 12, 3) := by decide +kernel
theorem dX5_drift_10 : decode cX5_drift 10 = .ok (.iload_n 3, 1) := by decide +kernel
theorem dX5_drift_11 : decode cX5_drift 11 = .ok (.iconst 0, 1) := by decide +kernel
theorem dX5_drift_12 : decode cX5_drift 12 = .ok (.iconst 1, 1) := by decide +kernel
theorem dX5_drift_13 : decode cX5_drift 13 = .ok (.invokestatic 156, 3) := by decide +kernel
theorem dX5_drift_16 : decode cX5_drift 16 = .ok (.ifCond .ne 5, 3) := by decide +kernel
theorem dX5_drift_19 : decode cX5_drift 19 = .ok (.iconst (-1), 1) := by decide +kernel
theorem dX5_drift_20 : decode cX5_drift 20 = .ok (.ireturn, 1) := by decide +kernel
theorem dX5_drift_21 : decode cX5_drift 21 = .ok (.aload_n 0, 1) := by decide +kernel
theorem dX5_drift_22 : decode cX5_drift 22 = .ok (.getfield 10, 3) := by decide +kernel
theorem dX5_drift_25 : decode cX5_drift 25 = .ok (.getfield 92, 3) := by decide +kernel
theorem dX5_drift_28 : decode cX5_drift 28 = .ok (.iconst 1, 1) := by decide +kernel
theorem dX5_drift_29 : decode cX5_drift 29 = .ok (.if_icmp .ge 6, 3) := by decide +kernel
theorem dX5_drift_32 : decode cX5_drift 32 = .ok (.bipush (-2), 2) := by decide +kernel
theorem dX5_drift_34 : decode cX5_drift 34 = .ok (.ireturn, 1) := by decide +kernel
theorem dX5_drift_35 : decode cX5_drift 35 = .ok (.aload_n 0, 1) := by decide +kernel
theorem dX5_drift_36 : decode cX5_drift 36 = .ok (.invokevirtual 177, 3) := by decide +kernel
theorem dX5_drift_39 : decode cX5_drift 39 = .ok (.astore 4, 2) := by decide +kernel
theorem dX5_drift_41 : decode cX5_drift 41 = .ok (.iload_n 1, 1) := by decide +kernel
theorem dX5_drift_42 : decode cX5_drift 42 = .ok (.istore 5, 2) := by decide +kernel
theorem dX5_drift_44 : decode cX5_drift 44 = .ok (.iconst 0, 1) := by decide +kernel
theorem dX5_drift_45 : decode cX5_drift 45 = .ok (.istore 6, 2) := by decide +kernel
theorem dX5_drift_47 : decode cX5_drift 47 = .ok (.iload 6, 2) := by decide +kernel
theorem dX5_drift_49 : decode cX5_drift 49 = .ok (.iload_n 2, 1) := by decide +kernel
theorem dX5_drift_50 : decode cX5_drift 50 = .ok (.if_icmp .ge 86, 3) := by decide +kernel
theorem dX5_drift_53 : decode cX5_drift 53 = .ok (.iload 5, 2) := by decide +kernel
theorem dX5_drift_55 : decode cX5_drift 55 = .ok (.ldc 233, 2) := by decide +kernel
theorem dX5_drift_57 : decode cX5_drift 57 = .ok (.imul, 1) := by decide +kernel
theorem dX5_drift_58 : decode cX5_drift 58 = .ok (.sipush 12345, 3) := by decide +kernel
theorem dX5_drift_61 : decode cX5_drift 61 = .ok (.iadd, 1) := by decide +kernel
theorem dX5_drift_62 : decode cX5_drift 62 = .ok (.istore 5, 2) := by decide +kernel
theorem dX5_drift_64 : decode cX5_drift 64 = .ok (.iload 5, 2) := by decide +kernel
theorem dX5_drift_66 : decode cX5_drift 66 = .ok (.bipush 16, 2) := by decide +kernel
theorem dX5_drift_68 : decode cX5_drift 68 = .ok (.iushr, 1) := by decide +kernel
theorem dX5_drift_69 : decode cX5_drift 69 = .ok (.sipush 32767, 3) := by decide +kernel
theorem dX5_drift_72 : decode cX5_drift 72 = .ok (.iand, 1) := by decide +kernel
theorem dX5_drift_73 : decode cX5_drift 73 = .ok (.istore 7, 2) := by decide +kernel
theorem dX5_drift_75 : decode cX5_drift 75 = .ok (.iload 7, 2) := by decide +kernel
theorem dX5_drift_77 : decode cX5_drift 77 = .ok (.aload_n 0, 1) := by decide +kernel
theorem dX5_drift_78 : decode cX5_drift 78 = .ok (.getfield 10, 3) := by decide +kernel
theorem dX5_drift_81 : decode cX5_drift 81 = .ok (.getfield 92, 3) := by decide +kernel
theorem dX5_drift_84 : decode cX5_drift 84 = .ok (.irem, 1) := by decide +kernel
theorem dX5_drift_85 : decode cX5_drift 85 = .ok (.istore 8, 2) := by decide +kernel
theorem dX5_drift_87 : decode cX5_drift 87 = .ok (.iload 7, 2) := by decide +kernel
theorem dX5_drift_89 : decode cX5_drift 89 = .ok (.bipush 8, 2) := by decide +kernel
theorem dX5_drift_91 : decode cX5_drift 91 = .ok (.idiv, 1) := by decide +kernel
theorem dX5_drift_92 : decode cX5_drift 92 = .ok (.aload_n 0, 1) := by decide +kernel
theorem dX5_drift_93 : decode cX5_drift 93 = .ok (.getfield 10, 3) := by decide +kernel
theorem dX5_drift_96 : decode cX5_drift 96 = .ok (.getfield 92, 3) := by decide +kernel
theorem dX5_drift_99 : decode cX5_drift 99 = .ok (.irem, 1) := by decide +kernel
theorem dX5_drift_100 : decode cX5_drift 100 = .ok (.istore 9, 2) := by decide +kernel
theorem dX5_drift_102 : decode cX5_drift 102 = .ok (.iload 8, 2) := by decide +kernel
theorem dX5_drift_104 : decode cX5_drift 104 = .ok (.iload 9, 2) := by decide +kernel
theorem dX5_drift_106 : decode cX5_drift 106 = .ok (.if_icmp .eq 19, 3) := by decide +kernel
theorem dX5_drift_109 : decode cX5_drift 109 = .ok (.aload 4, 2) := by decide +kernel
theorem dX5_drift_111 : decode cX5_drift 111 = .ok (.iload 8, 2) := by decide +kernel
theorem dX5_drift_113 : decode cX5_drift 113 = .ok (.iload 9, 2) := by decide +kernel
theorem dX5_drift_115 : decode cX5_drift 115 = .ok (.iload 7, 2) := by decide +kernel
theorem dX5_drift_117 : decode cX5_drift 117 = .ok (.bipush 64, 2) := by decide +kernel
theorem dX5_drift_119 : decode cX5_drift 119 = .ok (.idiv, 1) := by decide +kernel
theorem dX5_drift_120 : decode cX5_drift 120 = .ok (.iconst 4, 1) := by decide +kernel
theorem dX5_drift_121 : decode cX5_drift 121 = .ok (.irem, 1) := by decide +kernel
theorem dX5_drift_122 : decode cX5_drift 122 = .ok (.invokevirtual 166, 3) := by decide +kernel
theorem dX5_drift_125 : decode cX5_drift 125 = .ok (.aload 4, 2) := by decide +kernel
theorem dX5_drift_127 : decode cX5_drift 127 = .ok (.invokevirtual 181, 3) := by decide +kernel
theorem dX5_drift_130 : decode cX5_drift 130 = .ok (.iinc 6 1, 3) := by decide +kernel
theorem dX5_drift_133 : decode cX5_drift 133 = .ok (.goto (-86), 3) := by decide +kernel
theorem dX5_drift_136 : decode cX5_drift 136 = .ok (.iload_n 3, 1) := by decide +kernel
theorem dX5_drift_137 : decode cX5_drift 137 = .ok (.ifCond .ne 11, 3) := by decide +kernel
theorem dX5_drift_140 : decode cX5_drift 140 = .ok (.aload 4, 2) := by decide +kernel
theorem dX5_drift_142 : decode cX5_drift 142 = .ok (.invokevirtual 107, 3) := by decide +kernel
theorem dX5_drift_145 : decode cX5_drift 145 = .ok (.goto 16, 3) := by decide +kernel
theorem dX5_drift_148 : decode cX5_drift 148 = .ok (.aload 4, 2) := by decide +kernel
theorem dX5_drift_150 : decode cX5_drift 150 = .ok (.getfield 104, 3) := by decide +kernel
theorem dX5_drift_153 : decode cX5_drift 153 = .ok (.aload_n 0, 1) := by decide +kernel
theorem dX5_drift_154 : decode cX5_drift 154 = .ok (.getfield 10, 3) := by decide +kernel
theorem dX5_drift_157 : decode cX5_drift 157 = .ok (.getfield 104, 3) := by decide +kernel
theorem dX5_drift_160 : decode cX5_drift 160 = .ok (.isub, 1) := by decide +kernel
theorem dX5_drift_161 : decode cX5_drift 161 = .ok (.ireturn, 1) := by decide +kernel
theorem dX5_keep_0 : decode cX5_keep 0 = .ok (.iload_n 1, 1) := by decide +kernel
theorem dX5_keep_1 : decode cX5_keep 1 = .ok (.iconst 0, 1) := by decide +kernel
theorem dX5_keep_2 : decode cX5_keep 2 = .ok (.aload_n 0, 1) := by decide +kernel
theorem dX5_keep_3 : decode cX5_keep 3 = .ok (.getfield 29, 3) := by decide +kernel
theorem dX5_keep_6 : decode cX5_keep 6 = .ok (.arraylength, 1) := by decide +kernel
theorem dX5_keep_7 : decode cX5_keep 7 = .ok (.iconst 1, 1) := by decide +kernel
theorem dX5_keep_8 : decode cX5_keep 8 = .ok (.isub, 1) := by decide +kernel
theorem dX5_keep_9 : decode cX5_keep 9 = .ok (.invokestatic 156, 3) := by decide +kernel
theorem dX5_keep_12 : decode cX5_keep 12 = .ok (.ifCond .ne 5, 3) := by decide +kernel
theorem dX5_keep_15 : decode cX5_keep 15 = .ok (.iconst (-1), 1) := by decide +kernel
theorem dX5_keep_16 : decode cX5_keep 16 = .ok (.ireturn, 1) := by decide +kernel
theorem dX5_keep_17 : decode cX5_keep 17 = .ok (.aload_n 0, 1) := by decide +kernel
theorem dX5_keep_18 : decode cX5_keep 18 = .ok (.getfield 29, 3) := by decide +kernel
theorem dX5_keep_21 : decode cX5_keep 21 = .ok (.iload_n 1, 1) := by decide +kernel
theorem dX5_keep_22 : decode cX5_keep 22 = .ok (.aaload, 1) := by decide +kernel
theorem dX5_keep_23 : decode cX5_keep 23 = .ok (.getfield 82, 3) := by decide +kernel
theorem dX5_keep_26 : decode cX5_keep 26 = .ok (.ifCond .eq 7, 3) := by decide +kernel
theorem dX5_keep_29 : decode cX5_keep 29 = .ok (.iconst 1, 1) := by decide +kernel
theorem dX5_keep_30 : decode cX5_keep 30 = .ok (.goto 4, 3) := by decide +kernel
theorem dX5_keep_33 : decode cX5_keep 33 = .ok (.iconst 0, 1) := by decide +kernel
theorem dX5_keep_34 : decode cX5_keep 34 = .ok (.istore_n 2, 1) := by decide +kernel
theorem dX5_keep_35 : decode cX5_keep 35 = .ok (.aload_n 0, 1) := by decide +kernel
theorem dX5_keep_36 : decode cX5_keep 36 = .ok (.getfield 29, 3) := by decide +kernel
theorem dX5_keep_39 : decode cX5_keep 39 = .ok (.iload_n 1, 1) := by decide +kernel
theorem dX5_keep_40 : decode cX5_keep 40 = .ok (.aaload, 1) := by decide +kernel
theorem dX5_keep_41 : decode cX5_keep 41 = .ok (.iconst 1, 1) := by decide +kernel
theorem dX5_keep_42 : decode cX5_keep 42 = .ok (.putfield 82, 3) := by decide +kernel
theorem dX5_keep_45 : decode cX5_keep 45 = .ok (.aload_n 0, 1) := by decide +kernel
theorem dX5_keep_46 : decode cX5_keep 46 = .ok (.getfield 29, 3) := by decide +kernel
theorem dX5_keep_49 : decode cX5_keep 49 = .ok (.iload_n 1, 1) := by decide +kernel
theorem dX5_keep_50 : decode cX5_keep 50 = .ok (.aaload, 1) := by decide +kernel
theorem dX5_keep_51 : decode cX5_keep 51 = .ok (.getfield 234, 3) := by decide +kernel
theorem dX5_keep_54 : decode cX5_keep 54 = .ok (.aload_n 0, 1) := by decide +kernel
theorem dX5_keep_55 : decode cX5_keep 55 = .ok (.getfield 10, 3) := by decide +kernel
theorem dX5_keep_58 : decode cX5_keep 58 = .ok (.invokevirtual 75, 3) := by decide +kernel
theorem dX5_keep_61 : decode cX5_keep 61 = .ok (.aload_n 0, 1) := by decide +kernel
theorem dX5_keep_62 : decode cX5_keep 62 = .ok (.getfield 29, 3) := by decide +kernel
theorem dX5_keep_65 : decode cX5_keep 65 = .ok (.iload_n 1, 1) := by decide +kernel
theorem dX5_keep_66 : decode cX5_keep 66 = .ok (.aaload, 1) := by decide +kernel
theorem dX5_keep_67 : decode cX5_keep 67 = .ok (.getfield 237, 3) := by decide +kernel
theorem dX5_keep_70 : decode cX5_keep 70 = .ok (.aload_n 0, 1) := by decide +kernel
theorem dX5_keep_71 : decode cX5_keep 71 = .ok (.getfield 22, 3) := by decide +kernel
theorem dX5_keep_74 : decode cX5_keep 74 = .ok (.invokevirtual 238, 3) := by decide +kernel
theorem dX5_keep_77 : decode cX5_keep 77 = .ok (.iload_n 2, 1) := by decide +kernel
theorem dX5_keep_78 : decode cX5_keep 78 = .ok (.ireturn, 1) := by decide +kernel
theorem dX5_back_0 : decode cX5_back 0 = .ok (.iload_n 1, 1) := by decide +kernel
theorem dX5_back_1 : decode cX5_back 1 = .ok (.iconst 0, 1) := by decide +kernel
theorem dX5_back_2 : decode cX5_back 2 = .ok (.aload_n 0, 1) := by decide +kernel
theorem dX5_back_3 : decode cX5_back 3 = .ok (.getfield 29, 3) := by decide +kernel
theorem dX5_back_6 : decode cX5_back 6 = .ok (.arraylength, 1) := by decide +kernel
theorem dX5_back_7 : decode cX5_back 7 = .ok (.iconst 1, 1) := by decide +kernel
theorem dX5_back_8 : decode cX5_back 8 = .ok (.isub, 1) := by decide +kernel
theorem dX5_back_9 : decode cX5_back 9 = .ok (.invokestatic 156, 3) := by decide +kernel
theorem dX5_back_12 : decode cX5_back 12 = .ok (.ifCond .ne 5, 3) := by decide +kernel
theorem dX5_back_15 : decode cX5_back 15 = .ok (.iconst (-1), 1) := by decide +kernel
theorem dX5_back_16 : decode cX5_back 16 = .ok (.ireturn, 1) := by decide +kernel
theorem dX5_back_17 : decode cX5_back 17 = .ok (.aload_n 0, 1) := by decide +kernel
theorem dX5_back_18 : decode cX5_back 18 = .ok (.getfield 29, 3) := by decide +kernel
theorem dX5_back_21 : decode cX5_back 21 = .ok (.iload_n 1, 1) := by decide +kernel
theorem dX5_back_22 : decode cX5_back 22 = .ok (.aaload, 1) := by decide +kernel
theorem dX5_back_23 : decode cX5_back 23 = .ok (.getfield 82, 3) := by decide +kernel
theorem dX5_back_26 : decode cX5_back 26 = .ok (.ifCond .ne 6, 3) := by decide +kernel
theorem dX5_back_29 : decode cX5_back 29 = .ok (.bipush (-2), 2) := by decide +kernel
theorem dX5_back_31 : decode cX5_back 31 = .ok (.ireturn, 1) := by decide +kernel
theorem dX5_back_32 : decode cX5_back 32 = .ok (.aload_n 0, 1) := by decide +kernel
theorem dX5_back_33 : decode cX5_back 33 = .ok (.getfield 10, 3) := by decide +kernel
theorem dX5_back_36 : decode cX5_back 36 = .ok (.aload_n 0, 1) := by decide +kernel
theorem dX5_back_37 : decode cX5_back 37 = .ok (.getfield 29, 3) := by decide +kernel
theorem dX5_back_40 : decode cX5_back 40 = .ok (.iload_n 1, 1) := by decide +kernel
theorem dX5_back_41 : decode cX5_back 41 = .ok (.aaload, 1) := by decide +kernel
theorem dX5_back_42 : decode cX5_back 42 = .ok (.getfield 234, 3) := by decide +kernel
theorem dX5_back_45 : decode cX5_back 45 = .ok (.invokevirtual 75, 3) := by decide +kernel
theorem dX5_back_48 : decode cX5_back 48 = .ok (.aload_n 0, 1) := by decide +kernel
theorem dX5_back_49 : decode cX5_back 49 = .ok (.getfield 22, 3) := by decide +kernel
theorem dX5_back_52 : decode cX5_back 52 = .ok (.aload_n 0, 1) := by decide +kernel
theorem dX5_back_53 : decode cX5_back 53 = .ok (.getfield 29, 3) := by decide +kernel
theorem dX5_back_56 : decode cX5_back 56 = .ok (.iload_n 1, 1) := by decide +kernel
theorem dX5_back_57 : decode cX5_back 57 = .ok (.aaload, 1) := by decide +kernel
theorem dX5_back_58 : decode cX5_back 58 = .ok (.getfield 237, 3) := by decide +kernel
theorem dX5_back_61 : decode cX5_back 61 = .ok (.invokevirtual 238, 3) := by decide +kernel
theorem dX5_back_64 : decode cX5_back 64 = .ok (.aload_n 0, 1) := by decide +kernel
theorem dX5_back_65 : decode cX5_back 65 = .ok (.getfield 10, 3) := by decide +kernel
theorem dX5_back_68 : decode cX5_back 68 = .ok (.getfield 98, 3) := by decide +kernel
theorem dX5_back_71 : decode cX5_back 71 = .ok (.ireturn, 1) := by decide +kernel
theorem dX5_sheet_0 : decode cX5_sheet 0 = .ok (.iload_n 1, 1) := by decide +kernel
theorem dX5_sheet_1 : decode cX5_sheet 1 = .ok (.iconst 0, 1) := by decide +kernel
theorem dX5_sheet_2 : decode cX5_sheet 2 = .ok (.iconst 3, 1) := by decide +kernel
theorem dX5_sheet_3 : decode cX5_sheet 3 = .ok (.invokestatic 156, 3) := by decide +kernel
theorem dX5_sheet_6 : decode cX5_sheet 6 = .ok (.ifCond .eq 18, 3) := by decide +kernel
theorem dX5_sheet_9 : decode cX5_sheet 9 = .ok (.iload_n 2, 1) := by decide +kernel
theorem dX5_sheet_10 : decode cX5_sheet 10 = .ok (.iconst 0, 1) := by decide +kernel
theorem dX5_sheet_11 : decode cX5_sheet 11 = .ok (.iconst 2, 1) := by decide +kernel
theorem dX5_sheet_12 : decode cX5_sheet 12 = .ok (.invokestatic 156, 3) := by decide +kernel
theorem dX5_sheet_15 : decode cX5_sheet 15 = .ok (.ifCond .eq 9, 3) := by decide +kernel
theorem dX5_sheet_18 : decode cX5_sheet 18 = .ok (.iload_n 3, 1) := by decide +kernel
theorem dX5_sheet_19 : decode cX5_sheet 19 = .ok (.bipush 40, 2) := by decide +kernel
theorem dX5_sheet_21 : decode cX5_sheet 21 = .ok (.if_icmp .le 5, 3) := by decide +kernel
theorem dX5_sheet_24 : decode cX5_sheet 24 = .ok (.iconst (-1), 1) := by decide +kernel
theorem dX5_sheet_25 : decode cX5_sheet 25 = .ok (.ireturn, 1) := by decide +kernel
theorem dX5_sheet_26 : decode cX5_sheet 26 = .ok (.iload_n 3, 1) := by decide +kernel
theorem dX5_sheet_27 : decode cX5_sheet 27 = .ok (.ifCond .ge 6, 3) := by decide +kernel
theorem dX5_sheet_30 : decode cX5_sheet 30 = .ok (.bipush (-14), 2) := by decide +kernel
theorem dX5_sheet_32 : decode cX5_sheet 32 = .ok (.ireturn, 1) := by decide +kernel
theorem dX5_sheet_33 : decode cX5_sheet 33 = .ok (.aload_n 0, 1) := by decide +kernel
theorem dX5_sheet_34 : decode cX5_sheet 34 = .ok (.getfield 36, 3) := by decide +kernel
theorem dX5_sheet_37 : decode cX5_sheet 37 = .ok (.iload_n 1, 1) := by decide +kernel
theorem dX5_sheet_38 : decode cX5_sheet 38 = .ok (.aaload, 1) := by decide +kernel
theorem dX5_sheet_39 : decode cX5_sheet 39 = .ok (.iload_n 2, 1) := by decide +kernel
theorem dX5_sheet_40 : decode cX5_sheet 40 = .ok (.iload_n 3, 1) := by decide +kernel
theorem dX5_sheet_41 : decode cX5_sheet 41 = .ok (.invokevirtual 241, 3) := by decide +kernel
theorem dX5_sheet_44 : decode cX5_sheet 44 = .ok (.iconst 1, 1) := by decide +kernel
theorem dX5_sheet_45 : decode cX5_sheet 45 = .ok (.ireturn, 1) := by decide +kernel
theorem dX5_lay_0 : decode cX5_lay 0 = .ok (.iload_n 1, 1) := by decide +kernel
theorem dX5_lay_1 : decode cX5_lay 1 = .ok (.iconst 0, 1) := by decide +kernel
theorem dX5_lay_2 : decode cX5_lay 2 = .ok (.iconst 3, 1) := by decide +kernel
theorem dX5_lay_3 : decode cX5_lay 3 = .ok (.invokestatic 156, 3) := by decide +kernel
theorem dX5_lay_6 : decode cX5_lay 6 = .ok (.ifCond .ne 5, 3) := by decide +kernel
theorem dX5_lay_9 : decode cX5_lay 9 = .ok (.iconst (-1), 1) := by decide +kernel
theorem dX5_lay_10 : decode cX5_lay 10 = .ok (.ireturn, 1) := by decide +kernel
theorem dX5_lay_11 : decode cX5_lay 11 = .ok (.aload_n 0, 1) := by decide +kernel
theorem dX5_lay_12 : decode cX5_lay 12 = .ok (.getfield 36, 3) := by decide +kernel
theorem dX5_lay_15 : decode cX5_lay 15 = .ok (.iload_n 1, 1) := by decide +kernel
theorem dX5_lay_16 : decode cX5_lay 16 = .ok (.aaload, 1) := by decide +kernel
theorem dX5_lay_17 : decode cX5_lay 17 = .ok (.astore 4, 2) := by decide +kernel
theorem dX5_lay_19 : decode cX5_lay 19 = .ok (.aload 4, 2) := by decide +kernel
theorem dX5_lay_21 : decode cX5_lay 21 = .ok (.aload 4, 2) := by decide +kernel
theorem dX5_lay_23 : decode cX5_lay 23 = .ok (.getfield 245, 3) := by decide +kernel
theorem dX5_lay_26 : decode cX5_lay 26 = .ok (.iload_n 2, 1) := by decide +kernel
theorem dX5_lay_27 : decode cX5_lay 27 = .ok (.invokevirtual 248, 3) := by decide +kernel
theorem dX5_lay_30 : decode cX5_lay 30 = .ok (.istore 5, 2) := by decide +kernel
theorem dX5_lay_32 : decode cX5_lay 32 = .ok (.iload 5, 2) := by decide +kernel
theorem dX5_lay_34 : decode cX5_lay 34 = .ok (.ifCond .eq 9, 3) := by decide +kernel
theorem dX5_lay_37 : decode cX5_lay 37 = .ok (.bipush (-10), 2) := by decide +kernel
theorem dX5_lay_39 : decode cX5_lay 39 = .ok (.iload 5, 2) := by decide +kernel
theorem dX5_lay_41 : decode cX5_lay 41 = .ok (.isub, 1) := by decide +kernel
theorem dX5_lay_42 : decode cX5_lay 42 = .ok (.ireturn, 1) := by decide +kernel
theorem dX5_lay_43 : decode cX5_lay 43 = .ok (.aload 4, 2) := by decide +kernel
theorem dX5_lay_45 : decode cX5_lay 45 = .ok (.iload_n 2, 1) := by decide +kernel
theorem dX5_lay_46 : decode cX5_lay 46 = .ok (.iload_n 3, 1) := by decide +kernel
theorem dX5_lay_47 : decode cX5_lay 47 = .ok (.invokevirtual 251, 3) := by decide +kernel
theorem dX5_lay_50 : decode cX5_lay 50 = .ok (.iconst 1, 1) := by decide +kernel
theorem dX5_lay_51 : decode cX5_lay 51 = .ok (.ireturn, 1) := by decide +kernel
theorem dX5_read_0 : decode cX5_read 0 = .ok (.iload_n 1, 1) := by decide +kernel
theorem dX5_read_1 : decode cX5_read 1 = .ok (.iconst 0, 1) := by decide +kernel
theorem dX5_read_2 : decode cX5_read 2 = .ok (.iconst 3, 1) := by decide +kernel
theorem dX5_read_3 : decode cX5_read 3 = .ok (.invokestatic 156, 3) := by decide +kernel
theorem dX5_read_6 : decode cX5_read 6 = .ok (.ifCond .eq 23, 3) := by decide +kernel
theorem dX5_read_9 : decode cX5_read 9 = .ok (.iload_n 2, 1) := by decide +kernel
theorem dX5_read_10 : decode cX5_read 10 = .ok (.iconst 0, 1) := by decide +kernel
theorem dX5_read_11 : decode cX5_read 11 = .ok (.iconst 2, 1) := by decide +kernel
theorem dX5_read_12 : decode cX5_read 12 = .ok (.invokestatic 156, 3) := by decide +kernel
theorem dX5_read_15 : decode cX5_read 15 = .ok (.ifCond .eq 14, 3) := by decide +kernel
theorem dX5_read_18 : decode cX5_read 18 = .ok (.iload 4, 2) := by decide +kernel
theorem dX5_read_20 : decode cX5_read 20 = .ok (.iconst 0, 1) := by decide +kernel
theorem dX5_read_21 : decode cX5_read 21 = .ok (.bipush 13, 2) := by decide +kernel
theorem dX5_read_23 : decode cX5_read 23 = .ok (.invokestatic 156, 3) := by decide +kernel
theorem dX5_read_26 : decode cX5_read 26 = .ok (.ifCond .ne 5, 3) := by decide +kernel
theorem dX5_read_29 : decode cX5_read 29 = .ok (.iconst (-1), 1) := by decide +kernel
theorem dX5_read_30 : decode cX5_read 30 = .ok (.ireturn, 1) := by decide +kernel
theorem dX5_read_31 : decode cX5_read 31 = .ok (.aload_n 0, 1) := by decide +kernel
theorem dX5_read_32 : decode cX5_read 32 = .ok (.getfield 36, 3) := by decide +kernel
theorem dX5_read_35 : decode cX5_read 35 = .ok (.iload_n 1, 1) := by decide +kernel
theorem dX5_read_36 : decode cX5_read 36 = .ok (.aaload, 1) := by decide +kernel
theorem dX5_read_37 : decode cX5_read 37 = .ok (.astore 5, 2) := by decide +kernel
theorem dX5_read_39 : decode cX5_read 39 = .ok (.iconst 0, 1) := by decide +kernel
theorem dX5_read_40 : decode cX5_read 40 = .ok (.istore 6, 2) := by decide +kernel
theorem dX5_read_42 : decode cX5_read 42 = .ok (.iconst 0, 1) := by decide +kernel
theorem dX5_read_43 : decode cX5_read 43 = .ok (.istore 7, 2) := by decide +kernel
theorem dX5_read_45 : decode cX5_read 45 = .ok (.iconst 0, 1) := by decide +kernel
theorem dX5_read_46 : decode cX5_read 46 = .ok (.istore 8, 2) := by decide +kernel
theorem dX5_read_48 : decode cX5_read 48 = .ok (.iload 8, 2) := by decide +kernel
theorem dX5_read_50 : decode cX5_read 50 = .ok (.iload 4, 2) := by decide +kernel
theorem dX5_read_52 : decode cX5_read 52 = .ok (.if_icmp .ge 81, 3) := by decide +kernel
theorem dX5_read_55 : decode cX5_read 55 = .ok (.iload 7, 2) := by decide +kernel
theorem dX5_read_57 : decode cX5_read 57 = .ok (.ifCond .ne 76, 3) := by decide +kernel
theorem dX5_read_60 : decode cX5_read 60 = .ok (.iload_n 3, 1) := by decide +kernel
theorem dX5_read_61 : decode cX5_read 61 = .ok (.iconst 3, 1) := by decide +kernel
theorem dX5_read_62 : decode cX5_read 62 = .ok (.iload 8, 2) := by decide +kernel
theorem dX5_read_64 : decode cX5_read 64 = .ok (.imul, 1) := by decide +kernel
theorem dX5_read_65 : decode cX5_read 65 = .ok (.iadd, 1) := by decide +kernel
theorem dX5_read_66 : decode cX5_read 66 = .ok (.istore 9, 2) := by decide +kernel
theorem dX5_read_68 : decode cX5_read 68 = .ok (.aload 5, 2) := by decide +kernel
theorem dX5_read_70 : decode cX5_read 70 = .ok (.iload_n 2, 1) := by decide +kernel
theorem dX5_read_71 : decode cX5_read 71 = .ok (.iload 9, 2) := by decide +kernel
theorem dX5_read_73 : decode cX5_read 73 = .ok (.invokevirtual 254, 3) := by decide +kernel
theorem dX5_read_76 : decode cX5_read 76 = .ok (.istore 7, 2) := by decide +kernel
theorem dX5_read_78 : decode cX5_read 78 = .ok (.iload 7, 2) := by decide +kernel
theorem dX5_read_80 : decode cX5_read 80 = .ok (.ifCond .ne 47, 3) := by decide +kernel
theorem dX5_read_83 : decode cX5_read 83 = .ok (.aload_n 0, 1) := by decide +kernel
theorem dX5_read_84 : decode cX5_read 84 = .ok (.aload 5, 2) := by decide +kernel
theorem dX5_read_86 : decode cX5_read 86 = .ok (.getfield 257, 3) := by decide +kernel
theorem dX5_read_89 : decode cX5_read 89 = .ok (.iload 9, 2) := by decide +kernel
theorem dX5_read_91 : decode cX5_read 91 = .ok (.iaload, 1) := by decide +kernel
theorem dX5_read_92 : decode cX5_read 92 = .ok (.aload 5, 2) := by decide +kernel
theorem dX5_read_94 : decode cX5_read 94 = .ok (.getfield 257, 3) := by decide +kernel
theorem dX5_read_97 : decode cX5_read 97 = .ok (.iload 9, 2) := by decide +kernel
theorem dX5_read_99 : decode cX5_read 99 = .ok (.iconst 1, 1) := by decide +kernel
theorem dX5_read_100 : decode cX5_read 100 = .ok (.iadd, 1) := by decide +kernel
theorem dX5_read_101 : decode cX5_read 101 = .ok (.iaload, 1) := by decide +kernel
theorem dX5_read_102 : decode cX5_read 102 = .ok (.aload 5, 2) := by decide +kernel
theorem dX5_read_104 : decode cX5_read 104 = .ok (.getfield 257, 3) := by decide +kernel
theorem dX5_read_107 : decode cX5_read 107 = .ok (.iload 9, 2) := by decide +kernel
theorem dX5_read_109 : decode cX5_read 109 = .ok (.iconst 2, 1) := by decide +kernel
theorem dX5_read_110 : decode cX5_read 110 = .ok (.iadd, 1) := by decide +kernel
theorem dX5_read_111 : decode cX5_read 111 = .ok (.iaload, 1) := by decide +kernel
theorem dX5_read_112 : decode cX5_read 112 = .ok (.invokevirtual 163, 3) := by decide +kernel
theorem dX5_read_115 : decode cX5_read 115 = .ok (.ifCond .ne 9, 3) := by decide +kernel
theorem dX5_read_118 : decode cX5_read 118 = .ok (.bipush (-20), 2) := by decide +kernel
theorem dX5_read_120 : decode cX5_read 120 = .ok (.iload 8, 2) := by decide +kernel
theorem dX5_read_122 : decode cX5_read 122 = .ok (.isub, 1) := by decide +kernel
theorem dX5_read_123 : decode cX5_read 123 = .ok (.ireturn, 1) := by decide +kernel
theorem dX5_read_124 : decode cX5_read 124 = .ok (.iinc 6 1, 3) := by decide +kernel
theorem dX5_read_127 : decode cX5_read 127 = .ok (.iinc 8 1, 3) := by decide +kernel
theorem dX5_read_130 : decode cX5_read 130 = .ok (.goto (-82), 3) := by decide +kernel
theorem dX5_read_133 : decode cX5_read 133 = .ok (.iconst 0, 1) := by decide +kernel
theorem dX5_read_134 : decode cX5_read 134 = .ok (.istore 8, 2) := by decide +kernel
theorem dX5_read_136 : decode cX5_read 136 = .ok (.iload 8, 2) := by decide +kernel
theorem dX5_read_138 : decode cX5_read 138 = .ok (.iload 6, 2) := by decide +kernel
theorem dX5_read_140 : decode cX5_read 140 = .ok (.if_icmp .ge 52, 3) := by decide +kernel
theorem dX5_read_143 : decode cX5_read 143 = .ok (.iload_n 3, 1) := by decide +kernel
theorem dX5_read_144 : decode cX5_read 144 = .ok (.iconst 3, 1) := by decide +kernel
theorem dX5_read_145 : decode cX5_read 145 = .ok (.iload 8, 2) := by decide +kernel
theorem dX5_read_147 : decode cX5_read 147 = .ok (.imul, 1) := by decide +kernel
theorem dX5_read_148 : decode cX5_read 148 = .ok (.iadd, 1) := by decide +kernel
theorem dX5_read_149 : decode cX5_read 149 = .ok (.istore 9, 2) := by decide +kernel
theorem dX5_read_151 : decode cX5_read 151 = .ok (.aload_n 0, 1) := by decide +kernel
theorem dX5_read_152 : decode cX5_read 152 = .ok (.getfield 10, 3) := by decide +kernel
theorem dX5_read_155 : decode cX5_read 155 = .ok (.aload 5, 2) := by decide +kernel
theorem dX5_read_157 : decode cX5_read 157 = .ok (.getfield 257, 3) := by decide +kernel
theorem dX5_read_160 : decode cX5_read 160 = .ok (.iload 9, 2) := by decide +kernel
theorem dX5_read_162 : decode cX5_read 162 = .ok (.iaload, 1) := by decide +kernel
theorem dX5_read_163 : decode cX5_read 163 = .ok (.aload 5, 2) := by decide +kernel
theorem dX5_read_165 : decode cX5_read 165 = .ok (.getfield 257, 3) := by decide +kernel
theorem dX5_read_168 : decode cX5_read 168 = .ok (.iload 9, 2) := by decide +kernel
theorem dX5_read_170 : decode cX5_read 170 = .ok (.iconst 1, 1) := by decide +kernel
theorem dX5_read_171 : decode cX5_read 171 = .ok (.iadd, 1) := by decide +kernel
theorem dX5_read_172 : decode cX5_read 172 = .ok (.iaload, 1) := by decide +kernel
theorem dX5_read_173 : decode cX5_read 173 = .ok (.aload 5, 2) := by decide +kernel
theorem dX5_read_175 : decode cX5_read 175 = .ok (.getfield 257, 3) := by decide +kernel
theorem dX5_read_178 : decode cX5_read 178 = .ok (.iload 9, 2) := by decide +kernel
theorem dX5_read_180 : decode cX5_read 180 = .ok (.iconst 2, 1) := by decide +kernel
theorem dX5_read_181 : decode cX5_read 181 = .ok (.iadd, 1) := by decide +kernel
theorem dX5_read_182 : decode cX5_read 182 = .ok (.iaload, 1) := by decide +kernel
theorem dX5_read_183 : decode cX5_read 183 = .ok (.invokevirtual 166, 3) := by decide +kernel
theorem dX5_read_186 : decode cX5_read 186 = .ok (.iinc 8 1, 3) := by decide +kernel
theorem dX5_read_189 : decode cX5_read 189 = .ok (.goto (-53), 3) := by decide +kernel
theorem dX5_read_192 : decode cX5_read 192 = .ok (.aload_n 0, 1) := by decide +kernel
theorem dX5_read_193 : decode cX5_read 193 = .ok (.iload 7, 2) := by decide +kernel
theorem dX5_read_195 : decode cX5_read 195 = .ok (.putfield 54, 3) := by decide +kernel
theorem dX5_read_198 : decode cX5_read 198 = .ok (.iload 6, 2) := by decide +kernel
theorem dX5_read_200 : decode cX5_read 200 = .ok (.ireturn, 1) := by decide +kernel
theorem dX5_torn_0 : decode cX5_torn 0 = .ok (.aload_n 0, 1) := by decide +kernel
theorem dX5_torn_1 : decode cX5_torn 1 = .ok (.getfield 54, 3) := by decide +kernel
theorem dX5_torn_4 : decode cX5_torn 4 = .ok (.ireturn, 1) := by decide +kernel
theorem dX5_count_0 : decode cX5_count 0 = .ok (.iload_n 1, 1) := by decide +kernel
theorem dX5_count_1 : decode cX5_count 1 = .ok (.tableswitch 136 0 5 #[39, 47, 83, 91, 120, 128], 39) := by decide +kernel
theorem dX5_count_40 : decode cX5_count 40 = .ok (.aload_n 0, 1) := by decide +kernel
theorem dX5_count_41 : decode cX5_count 41 = .ok (.getfield 22, 3) := by decide +kernel
theorem dX5_count_44 : decode cX5_count 44 = .ok (.getfield 79, 3) := by decide +kernel
theorem dX5_count_47 : decode cX5_count 47 = .ok (.ireturn, 1) := by decide +kernel
theorem dX5_count_48 : decode cX5_count 48 = .ok (.aload_n 0, 1) := by decide +kernel
theorem dX5_count_49 : decode cX5_count 49 = .ok (.getfield 29, 3) := by decide +kernel
theorem dX5_count_52 : decode cX5_count 52 = .ok (.iconst 0, 1) := by decide +kernel
theorem dX5_count_53 : decode cX5_count 53 = .ok (.aaload, 1) := by decide +kernel
theorem dX5_count_54 : decode cX5_count 54 = .ok (.getfield 82, 3) := by decide +kernel
theorem dX5_count_57 : decode cX5_count 57 = .ok (.ifCond .eq 7, 3) := by decide +kernel
theorem dX5_count_60 : decode cX5_count 60 = .ok (.iconst 1, 1) := by decide +kernel
theorem dX5_count_61 : decode cX5_count 61 = .ok (.goto 4, 3) := by decide +kernel
theorem dX5_count_64 : decode cX5_count 64 = .ok (.iconst 0, 1) := by decide +kernel
theorem dX5_count_65 : decode cX5_count 65 = .ok (.aload_n 0, 1) := by decide +kernel
theorem dX5_count_66 : decode cX5_count 66 = .ok (.getfield 29, 3) := by decide +kernel
theorem dX5_count_69 : decode cX5_count 69 = .ok (.iconst 1, 1) := by decide +kernel
theorem dX5_count_70 : decode cX5_count 70 = .ok (.aaload, 1) := by decide +kernel
theorem dX5_count_71 : decode cX5_count 71 = .ok (.getfield 82, 3) := by decide +kernel
theorem dX5_count_74 : decode cX5_count 74 = .ok (.ifCond .eq 7, 3) := by decide +kernel
theorem dX5_count_77 : decode cX5_count 77 = .ok (.iconst 1, 1) := by decide +kernel
theorem dX5_count_78 : decode cX5_count 78 = .ok (.goto 4, 3) := by decide +kernel
theorem dX5_count_81 : decode cX5_count 81 = .ok (.iconst 0, 1) := by decide +kernel
theorem dX5_count_82 : decode cX5_count 82 = .ok (.iadd, 1) := by decide +kernel
theorem dX5_count_83 : decode cX5_count 83 = .ok (.ireturn, 1) := by decide +kernel
theorem dX5_count_84 : decode cX5_count 84 = .ok (.aload_n 0, 1) := by decide +kernel
theorem dX5_count_85 : decode cX5_count 85 = .ok (.getfield 43, 3) := by decide +kernel
theorem dX5_count_88 : decode cX5_count 88 = .ok (.getfield 58, 3) := by decide +kernel
theorem dX5_count_91 : decode cX5_count 91 = .ok (.ireturn, 1) := by decide +kernel
theorem dX5_count_92 : decode cX5_count 92 = .ok (.aload_n 0, 1) := by decide +kernel
theorem dX5_count_93 : decode cX5_count 93 = .ok (.getfield 36, 3) := by decide +kernel
theorem dX5_count_96 : decode cX5_count 96 = .ok (.iconst 0, 1) := by decide +kernel
theorem dX5_count_97 : decode cX5_count 97 = .ok (.aaload, 1) := by decide +kernel
theorem dX5_count_98 : decode cX5_count 98 = .ok (.getfield 245, 3) := by decide +kernel
theorem dX5_count_101 : decode cX5_count 101 = .ok (.bipush (-4), 2) := by decide +kernel
theorem dX5_count_103 : decode cX5_count 103 = .ok (.if_icmp .ne 8, 3) := by decide +kernel
theorem dX5_count_106 : decode cX5_count 106 = .ok (.bipush (-4), 2) := by decide +kernel
theorem dX5_count_108 : decode cX5_count 108 = .ok (.goto 12, 3) := by decide +kernel
theorem dX5_count_111 : decode cX5_count 111 = .ok (.aload_n 0, 1) := by decide +kernel
theorem dX5_count_112 : decode cX5_count 112 = .ok (.getfield 36, 3) := by decide +kernel
theorem dX5_count_115 : decode cX5_count 115 = .ok (.iconst 0, 1) := by decide +kernel
theorem dX5_count_116 : decode cX5_count 116 = .ok (.aaload, 1) := by decide +kernel
theorem dX5_count_117 : decode cX5_count 117 = .ok (.getfield 260, 3) := by decide +kernel
theorem dX5_count_120 : decode cX5_count 120 = .ok (.ireturn, 1) := by decide +kernel
theorem dX5_count_121 : decode cX5_count 121 = .ok (.aload_n 0, 1) := by decide +kernel
theorem dX5_count_122 : decode cX5_count 122 = .ok (.getfield 10, 3) := by decide +kernel
theorem dX5_count_125 : decode cX5_count 125 = .ok (.invokevirtual 263, 3) := by decide +kernel
theorem dX5_count_128 : decode cX5_count 128 = .ok (.ireturn, 1) := by decide +kernel
theorem dX5_count_129 : decode cX5_count 129 = .ok (.aload_n 0, 1) := by decide +kernel
theorem dX5_count_130 : decode cX5_count 130 = .ok (.getfield 10, 3) := by decide +kernel
theorem dX5_count_133 : decode cX5_count 133 = .ok (.invokevirtual 266, 3) := by decide +kernel
theorem dX5_count_136 : decode cX5_count 136 = .ok (.ireturn, 1) := by decide +kernel
theorem dX5_count_137 : decode cX5_count 137 = .ok (.iconst (-1), 1) := by decide +kernel
theorem dX5_count_138 : decode cX5_count 138 = .ok (.ireturn, 1) := by decide +kernel
theorem dX5_isWithin_0 : decode cX5_isWithin 0 = .ok (.iload_n 0, 1) := by decide +kernel
theorem dX5_isWithin_1 : decode cX5_isWithin 1 = .ok (.iload_n 1, 1) := by decide +kernel
theorem dX5_isWithin_2 : decode cX5_isWithin 2 = .ok (.if_icmp .lt 12, 3) := by decide +kernel
theorem dX5_isWithin_5 : decode cX5_isWithin 5 = .ok (.iload_n 0, 1) := by decide +kernel
theorem dX5_isWithin_6 : decode cX5_isWithin 6 = .ok (.iload_n 2, 1) := by decide +kernel
theorem dX5_isWithin_7 : decode cX5_isWithin 7 = .ok (.if_icmp .gt 7, 3) := by decide +kernel
theorem dX5_isWithin_10 : decode cX5_isWithin 10 = .ok (.iconst 1, 1) := by decide +kernel
theorem dX5_isWithin_11 : decode cX5_isWithin 11 = .ok (.goto 4, 3) := by decide +kernel
theorem dX5_isWithin_14 : decode cX5_isWithin 14 = .ok (.iconst 0, 1) := by decide +kernel
theorem dX5_isWithin_15 : decode cX5_isWithin 15 = .ok (.ireturn, 1) := by decide +kernel
theorem dX5_isIsle_0 : decode cX5_isIsle 0 = .ok (.iload_n 1, 1) := by decide +kernel
theorem dX5_isIsle_1 : decode cX5_isIsle 1 = .ok (.ifCond .lt 18, 3) := by decide +kernel
theorem dX5_isIsle_4 : decode cX5_isIsle 4 = .ok (.iload_n 1, 1) := by decide +kernel
theorem dX5_isIsle_5 : decode cX5_isIsle 5 = .ok (.aload_n 0, 1) := by decide +kernel
theorem dX5_isIsle_6 : decode cX5_isIsle 6 = .ok (.getfield 10, 3) := by decide +kernel
theorem dX5_isIsle_9 : decode cX5_isIsle 9 = .ok (.getfield 92, 3) := by decide +kernel
theorem dX5_isIsle_12 : decode cX5_isIsle 12 = .ok (.if_icmp .ge 7, 3) := by decide +kernel
theorem dX5_isIsle_15 : decode cX5_isIsle 15 = .ok (.iconst 1, 1) := by decide +kernel
theorem dX5_isIsle_16 : decode cX5_isIsle 16 = .ok (.goto 4, 3) := by decide +kernel
theorem dX5_isIsle_19 : decode cX5_isIsle 19 = .ok (.iconst 0, 1) := by decide +kernel
theorem dX5_isIsle_20 : decode cX5_isIsle 20 = .ok (.ireturn, 1) := by decide +kernel
theorem dX5_isRope_0 : decode cX5_isRope 0 = .ok (.iload_n 1, 1) := by decide +kernel
theorem dX5_isRope_1 : decode cX5_isRope 1 = .ok (.ifCond .lt 18, 3) := by decide +kernel
theorem dX5_isRope_4 : decode cX5_isRope 4 = .ok (.iload_n 1, 1) := by decide +kernel
theorem dX5_isRope_5 : decode cX5_isRope 5 = .ok (.aload_n 0, 1) := by decide +kernel
theorem dX5_isRope_6 : decode cX5_isRope 6 = .ok (.getfield 10, 3) := by decide +kernel
theorem dX5_isRope_9 : decode cX5_isRope 9 = .ok (.getfield 95, 3) := by decide +kernel
theorem dX5_isRope_12 : decode cX5_isRope 12 = .ok (.if_icmp .ge 7, 3) := by decide +kernel
theorem dX5_isRope_15 : decode cX5_isRope 15 = .ok (.iconst 1, 1) := by decide +kernel
theorem dX5_isRope_16 : decode cX5_isRope 16 = .ok (.goto 4, 3) := by decide +kernel
theorem dX5_isRope_19 : decode cX5_isRope 19 = .ok (.iconst 0, 1) := by decide +kernel
theorem dX5_isRope_20 : decode cX5_isRope 20 = .ok (.ireturn, 1) := by decide +kernel
theorem dX5_isPair_0 : decode cX5_isPair 0 = .ok (.aload_n 0, 1) := by decide +kernel
theorem dX5_isPair_1 : decode cX5_isPair 1 = .ok (.iload_n 1, 1) := by decide +kernel
theorem dX5_isPair_2 : decode cX5_isPair 2 = .ok (.invokevirtual 111, 3) := by decide +kernel
theorem dX5_isPair_5 : decode cX5_isPair 5 = .ok (.ifCond .eq 20, 3) := by decide +kernel
theorem dX5_isPair_8 : decode cX5_isPair 8 = .ok (.aload_n 0, 1) := by decide +kernel
theorem dX5_isPair_9 : decode cX5_isPair 9 = .ok (.iload_n 2, 1) := by decide +kernel
theorem dX5_isPair_10 : decode cX5_isPair 10 = .ok (.invokevirtual 111, 3) := by decide +kernel
theorem dX5_isPair_13 : decode cX5_isPair 13 = .ok (.ifCond .eq 12, 3) := by decide +kernel
theorem dX5_isPair_16 : decode cX5_isPair 16 = .ok (.iload_n 1, 1) := by decide +kernel
theorem dX5_isPair_17 : decode cX5_isPair 17 = .ok (.iload_n 2, 1) := by decide +kernel
theorem dX5_isPair_18 : decode cX5_isPair 18 = .ok (.if_icmp .eq 7, 3) := by decide +kernel
theorem dX5_isPair_21 : decode cX5_isPair 21 = .ok (.iconst 1, 1) := by decide +kernel
theorem dX5_isPair_22 : decode cX5_isPair 22 = .ok (.goto 4, 3) := by decide +kernel
theorem dX5_isPair_25 : decode cX5_isPair 25 = .ok (.iconst 0, 1) := by decide +kernel
theorem dX5_isPair_26 : decode cX5_isPair 26 = .ok (.ireturn, 1) := by decide +kernel
theorem dX5_isGrudge_0 : decode cX5_isGrudge 0 = .ok (.aload_n 0, 1) := by decide +kernel
theorem dX5_isGrudge_1 : decode cX5_isGrudge 1 = .ok (.iload_n 1, 1) := by decide +kernel
theorem dX5_isGrudge_2 : decode cX5_isGrudge 2 = .ok (.iload_n 2, 1) := by decide +kernel
theorem dX5_isGrudge_3 : decode cX5_isGrudge 3 = .ok (.invokevirtual 136, 3) := by decide +kernel
theorem dX5_isGrudge_6 : decode cX5_isGrudge 6 = .ok (.ifCond .eq 16, 3) := by decide +kernel
theorem dX5_isGrudge_9 : decode cX5_isGrudge 9 = .ok (.iload_n 3, 1) := by decide +kernel
theorem dX5_isGrudge_10 : decode cX5_isGrudge 10 = .ok (.iconst 0, 1) := by decide +kernel
theorem dX5_isGrudge_11 : decode cX5_isGrudge 11 = .ok (.iconst 3, 1) := by decide +kernel
theorem dX5_isGrudge_12 : decode cX5_isGrudge 12 = .ok (.invokestatic 156, 3) := by decide +kernel
theorem dX5_isGrudge_15 : decode cX5_isGrudge 15 = .ok (.ifCond .eq 7, 3) := by decide +kernel
theorem dX5_isGrudge_18 : decode cX5_isGrudge 18 = .ok (.iconst 1, 1) := by decide +kernel
theorem dX5_isGrudge_19 : decode cX5_isGrudge 19 = .ok (.goto 4, 3) := by decide +kernel
theorem dX5_isGrudge_22 : decode cX5_isGrudge 22 = .ok (.iconst 0, 1) := by decide +kernel
theorem dX5_isGrudge_23 : decode cX5_isGrudge 23 = .ok (.ireturn, 1) := by decide +kernel
theorem dX5_isStorms_0 : decode cX5_isStorms 0 = .ok (.iload_n 0, 1) := by decide +kernel
theorem dX5_isStorms_1 : decode cX5_isStorms 1 = .ok (.iconst 0, 1) := by decide +kernel
theorem dX5_isStorms_2 : decode cX5_isStorms 2 = .ok (.bipush 10, 2) := by decide +kernel
theorem dX5_isStorms_4 : decode cX5_isStorms 4 = .ok (.invokestatic 156, 3) := by decide +kernel
theorem dX5_isStorms_7 : decode cX5_isStorms 7 = .ok (.ifCond .eq 26, 3) := by decide +kernel
theorem dX5_isStorms_10 : decode cX5_isStorms 10 = .ok (.iload_n 1, 1) := by decide +kernel
theorem dX5_isStorms_11 : decode cX5_isStorms 11 = .ok (.iconst 0, 1) := by decide +kernel
theorem dX5_isStorms_12 : decode cX5_isStorms 12 = .ok (.bipush 8, 2) := by decide +kernel
theorem dX5_isStorms_14 : decode cX5_isStorms 14 = .ok (.invokestatic 156, 3) := by decide +kernel
theorem dX5_isStorms_17 : decode cX5_isStorms 17 = .ok (.ifCond .eq 16, 3) := by decide +kernel
theorem dX5_isStorms_20 : decode cX5_isStorms 20 = .ok (.iload_n 2, 1) := by decide +kernel
theorem dX5_isStorms_21 : decode cX5_isStorms 21 = .ok (.iconst 0, 1) := by decide +kernel
theorem dX5_isStorms_22 : decode cX5_isStorms 22 = .ok (.iconst 1, 1) := by decide +kernel
theorem dX5_isStorms_23 : decode cX5_isStorms 23 = .ok (.invokestatic 156, 3) := by decide +kernel
theorem dX5_isStorms_26 : decode cX5_isStorms 26 = .ok (.ifCond .eq 7, 3) := by decide +kernel
theorem dX5_isStorms_29 : decode cX5_isStorms 29 = .ok (.iconst 1, 1) := by decide +kernel
theorem dX5_isStorms_30 : decode cX5_isStorms 30 = .ok (.goto 4, 3) := by decide +kernel
theorem dX5_isStorms_33 : decode cX5_isStorms 33 = .ok (.iconst 0, 1) := by decide +kernel
theorem dX5_isStorms_34 : decode cX5_isStorms 34 = .ok (.ireturn, 1) := by decide +kernel
theorem dX5_asItIs_0 : decode cX5_asItIs 0 = .ok (.aload_n 0, 1) := by decide +kernel
theorem dX5_asItIs_1 : decode cX5_asItIs 1 = .ok (.getfield 16, 3) := by decide +kernel
theorem dX5_asItIs_4 : decode cX5_asItIs 4 = .ok (.aload_n 0, 1) := by decide +kernel
theorem dX5_asItIs_5 : decode cX5_asItIs 5 = .ok (.getfield 10, 3) := by decide +kernel
theorem dX5_asItIs_8 : decode cX5_asItIs 8 = .ok (.invokevirtual 75, 3) := by decide +kernel
theorem dX5_asItIs_11 : decode cX5_asItIs 11 = .ok (.aload_n 0, 1) := by decide +kernel
theorem dX5_asItIs_12 : decode cX5_asItIs 12 = .ok (.getfield 16, 3) := by decide +kernel
theorem dX5_asItIs_15 : decode cX5_asItIs 15 = .ok (.areturn, 1) := by decide +kernel
theorem dX5_advice_0 : decode cX5_advice 0 = .ok (.iload_n 0, 1) := by decide +kernel
theorem dX5_advice_1 : decode cX5_advice 1 = .ok (.bipush (-4), 2) := by decide +kernel
theorem dX5_advice_3 : decode cX5_advice 3 = .ok (.if_icmp .ne 6, 3) := by decide +kernel
theorem dX5_advice_6 : decode cX5_advice 6 = .ok (.bipush (-4), 2) := by decide +kernel
theorem dX5_advice_8 : decode cX5_advice 8 = .ok (.ireturn, 1) := by decide +kernel
theorem dX5_advice_9 : decode cX5_advice 9 = .ok (.iload_n 2, 1) := by decide +kernel
theorem dX5_advice_10 : decode cX5_advice 10 = .ok (.ifCond .ne 7, 3) := by decide +kernel
theorem dX5_advice_13 : decode cX5_advice 13 = .ok (.iload_n 0, 1) := by decide +kernel
theorem dX5_advice_14 : decode cX5_advice 14 = .ok (.goto 4, 3) := by decide +kernel
theorem dX5_advice_17 : decode cX5_advice 17 = .ok (.iload_n 1, 1) := by decide +kernel
theorem dX5_advice_18 : decode cX5_advice 18 = .ok (.ireturn, 1) := by decide +kernel
theorem dX5_kindsAsSeen_0 : decode cX5_kindsAsSeen 0 = .ok (.iconst 0, 1) := by decide +kernel
theorem dX5_kindsAsSeen_1 : decode cX5_kindsAsSeen 1 = .ok (.istore_n 2, 1) := by decide +kernel
theorem dX5_kindsAsSeen_2 : decode cX5_kindsAsSeen 2 = .ok (.iconst 0, 1) := by decide +kernel
theorem dX5_kindsAsSeen_3 : decode cX5_kindsAsSeen 3 = .ok (.istore_n 3, 1) := by decide +kernel
theorem dX5_kindsAsSeen_4 : decode cX5_kindsAsSeen 4 = .ok (.iload_n 3, 1) := by decide +kernel
theorem dX5_kindsAsSeen_5 : decode cX5_kindsAsSeen 5 = .ok (.iconst 4, 1) := by decide +kernel
theorem dX5_kindsAsSeen_6 : decode cX5_kindsAsSeen 6 = .ok (.if_icmp .ge 41, 3) := by decide +kernel
theorem dX5_kindsAsSeen_9 : decode cX5_kindsAsSeen 9 = .ok (.aload_n 0, 1) := by decide +kernel
theorem dX5_kindsAsSeen_10 : decode cX5_kindsAsSeen 10 = .ok (.invokevirtual 177, 3) := by decide +kernel
theorem dX5_kindsAsSeen_13 : decode cX5_kindsAsSeen 13 = .ok (.astore 4, 2) := by decide +kernel
theorem dX5_kindsAsSeen_15 : decode cX5_kindsAsSeen 15 = .ok (.aload 4, 2) := by decide +kernel
theorem dX5_kindsAsSeen_17 : decode cX5_kindsAsSeen 17 = .ok (.getfield 115, 3) := by decide +kernel
theorem dX5_kindsAsSeen_20 : decode cX5_kindsAsSeen 20 = .ok (.iload_n 1, 1) := by decide +kernel
theorem dX5_kindsAsSeen_21 : decode cX5_kindsAsSeen 21 = .ok (.iload_n 3, 1) := by decide +kernel
theorem dX5_kindsAsSeen_22 : decode cX5_kindsAsSeen 22 = .ok (.iastore, 1) := by decide +kernel
theorem dX5_kindsAsSeen_23 : decode cX5_kindsAsSeen 23 = .ok (.aload_n 0, 1) := by decide +kernel
theorem dX5_kindsAsSeen_24 : decode cX5_kindsAsSeen 24 = .ok (.getfield 22, 3) := by decide +kernel
theorem dX5_kindsAsSeen_27 : decode cX5_kindsAsSeen 27 = .ok (.aload 4, 2) := by decide +kernel
theorem dX5_kindsAsSeen_29 : decode cX5_kindsAsSeen 29 = .ok (.invokevirtual 223, 3) := by decide +kernel
theorem dX5_kindsAsSeen_32 : decode cX5_kindsAsSeen 32 = .ok (.ifCond .eq 9, 3) := by decide +kernel
theorem dX5_kindsAsSeen_35 : decode cX5_kindsAsSeen 35 = .ok (.iload_n 2, 1) := by decide +kernel
theorem dX5_kindsAsSeen_36 : decode cX5_kindsAsSeen 36 = .ok (.iconst 1, 1) := by decide +kernel
theorem dX5_kindsAsSeen_37 : decode cX5_kindsAsSeen 37 = .ok (.iload_n 3, 1) := by decide +kernel
theorem dX5_kindsAsSeen_38 : decode cX5_kindsAsSeen 38 = .ok (.ishl, 1) := by decide +kernel
theorem dX5_kindsAsSeen_39 : decode cX5_kindsAsSeen 39 = .ok (.ior, 1) := by decide +kernel
theorem dX5_kindsAsSeen_40 : decode cX5_kindsAsSeen 40 = .ok (.istore_n 2, 1) := by decide +kernel
theorem dX5_kindsAsSeen_41 : decode cX5_kindsAsSeen 41 = .ok (.iinc 3 1, 3) := by decide +kernel
theorem dX5_kindsAsSeen_44 : decode cX5_kindsAsSeen 44 = .ok (.goto (-40), 3) := by decide +kernel
theorem dX5_kindsAsSeen_47 : decode cX5_kindsAsSeen 47 = .ok (.iload_n 2, 1) := by decide +kernel
theorem dX5_kindsAsSeen_48 : decode cX5_kindsAsSeen 48 = .ok (.ireturn, 1) := by decide +kernel
theorem dX5_layCourses_0 : decode cX5_layCourses 0 = .ok (.iconst 0, 1) := by decide +kernel
theorem dX5_layCourses_1 : decode cX5_layCourses 1 = .ok (.istore_n 3, 1) := by decide +kernel
theorem dX5_layCourses_2 : decode cX5_layCourses 2 = .ok (.iconst 0, 1) := by decide +kernel
theorem dX5_layCourses_3 : decode cX5_layCourses 3 = .ok (.istore 4, 2) := by decide +kernel
theorem dX5_layCourses_5 : decode cX5_layCourses 5 = .ok (.iload 4, 2) := by decide +kernel
theorem dX5_layCourses_7 : decode cX5_layCourses 7 = .ok (.iconst 4, 1) := by decide +kernel
theorem dX5_layCourses_8 : decode cX5_layCourses 8 = .ok (.if_icmp .ge 87, 3) := by decide +kernel
theorem dX5_layCourses_11 : decode cX5_layCourses 11 = .ok (.iload_n 2, 1) := by decide +kernel
theorem dX5_layCourses_12 : decode cX5_layCourses 12 = .ok (.iload 4, 2) := by decide +kernel
theorem dX5_layCourses_14 : decode cX5_layCourses 14 = .ok (.ishr, 1) := by decide +kernel
theorem dX5_layCourses_15 : decode cX5_layCourses 15 = .ok (.iconst 1, 1) := by decide +kernel
theorem dX5_layCourses_16 : decode cX5_layCourses 16 = .ok (.iand, 1) := by decide +kernel
theorem dX5_layCourses_17 : decode cX5_layCourses 17 = .ok (.ifCond .ne 6, 3) := by decide +kernel
theorem dX5_layCourses_20 : decode cX5_layCourses 20 = .ok (.goto 69, 3) := by decide +kernel
theorem dX5_layCourses_23 : decode cX5_layCourses 23 = .ok (.aload_n 0, 1) := by decide +kernel
theorem dX5_layCourses_24 : decode cX5_layCourses 24 = .ok (.invokevirtual 177, 3) := by decide +kernel
theorem dX5_layCourses_27 : decode cX5_layCourses 27 = .ok (.astore 5, 2) := by decide +kernel
theorem dX5_layCourses_29 : decode cX5_layCourses 29 = .ok (.aload 5, 2) := by decide +kernel
theorem dX5_layCourses_31 : decode cX5_layCourses 31 = .ok (.getfield 115, 3) := by decide +kernel
theorem dX5_layCourses_34 : decode cX5_layCourses 34 = .ok (.iload_n 1, 1) := by decide +kernel
theorem dX5_layCourses_35 : decode cX5_layCourses 35 = .ok (.iload 4, 2) := by decide +kernel
theorem dX5_layCourses_37 : decode cX5_layCourses 37 = .ok (.iastore, 1) := by decide +kernel
theorem dX5_layCourses_38 : decode cX5_layCourses 38 = .ok (.iconst 0, 1) := by decide +kernel
theorem dX5_layCourses_39 : decode cX5_layCourses 39 = .ok (.istore 6, 2) := by decide +kernel
theorem dX5_layCourses_41 : decode cX5_layCourses 41 = .ok (.iload 6, 2) := by decide +kernel
theorem dX5_layCourses_43 : decode cX5_layCourses 43 = .ok (.bipush 20, 2) := by decide +kernel
theorem dX5_layCourses_45 : decode cX5_layCourses 45 = .ok (.if_icmp .gt 41, 3) := by decide +kernel
theorem dX5_layCourses_48 : decode cX5_layCourses 48 = .ok (.iload_n 3, 1) := by decide +kernel
theorem dX5_layCourses_49 : decode cX5_layCourses 49 = .ok (.bipush 21, 2) := by decide +kernel
theorem dX5_layCourses_51 : decode cX5_layCourses 51 = .ok (.imul, 1) := by decide +kernel
theorem dX5_layCourses_52 : decode cX5_layCourses 52 = .ok (.iload 6, 2) := by decide +kernel
theorem dX5_layCourses_54 : decode cX5_layCourses 54 = .ok (.iadd, 1) := by decide +kernel
theorem dX5_layCourses_55 : decode cX5_layCourses 55 = .ok (.iconst 5, 1) := by decide +kernel
theorem dX5_layCourses_56 : decode cX5_layCourses 56 = .ok (.imul, 1) := by decide +kernel
theorem dX5_layCourses_57 : decode cX5_layCourses 57 = .ok (.istore 7, 2) := by decide +kernel
theorem dX5_layCourses_59 : decode cX5_layCourses 59 = .ok (.aload 5, 2) := by decide +kernel
theorem dX5_layCourses_61 : decode cX5_layCourses 61 = .ok (.getfield 118, 3) := by decide +kernel
theorem dX5_layCourses_64 : decode cX5_layCourses 64 = .ok (.iconst 0, 1) := by decide +kernel
theorem dX5_layCourses_65 : decode cX5_layCourses 65 = .ok (.aload_n 0, 1) := by decide +kernel
theorem dX5_layCourses_66 : decode cX5_layCourses 66 = .ok (.getfield 47, 3) := by decide +kernel
theorem dX5_layCourses_69 : decode cX5_layCourses 69 = .ok (.iload 7, 2) := by decide +kernel
theorem dX5_layCourses_71 : decode cX5_layCourses 71 = .ok (.iconst 5, 1) := by decide +kernel
theorem dX5_layCourses_72 : decode cX5_layCourses 72 = .ok (.invokestatic 269, 3) := by decide +kernel
theorem dX5_layCourses_75 : decode cX5_layCourses 75 = .ok (.aload 5, 2) := by decide +kernel
theorem dX5_layCourses_77 : decode cX5_layCourses 77 = .ok (.invokevirtual 181, 3) := by decide +kernel
theorem dX5_layCourses_80 : decode cX5_layCourses 80 = .ok (.iinc 6 1, 3) := by decide +kernel
theorem dX5_layCourses_83 : decode cX5_layCourses 83 = .ok (.goto (-42), 3) := by decide +kernel
theorem dX5_layCourses_86 : decode cX5_layCourses 86 = .ok (.iinc 3 1, 3) := by decide +kernel
theorem dX5_layCourses_89 : decode cX5_layCourses 89 = .ok (.iinc 4 1, 3) := by decide +kernel
theorem dX5_layCourses_92 : decode cX5_layCourses 92 = .ok (.goto (-87), 3) := by decide +kernel
theorem dX5_layCourses_95 : decode cX5_layCourses 95 = .ok (.iload_n 3, 1) := by decide +kernel
theorem dX5_layCourses_96 : decode cX5_layCourses 96 = .ok (.ireturn, 1) := by decide +kernel
theorem dX5_mostLeft_0 : decode cX5_mostLeft 0 = .ok (.bipush 105, 2) := by decide +kernel
theorem dX5_mostLeft_2 : decode cX5_mostLeft 2 = .ok (.istore_n 3, 1) := by decide +kernel
theorem dX5_mostLeft_3 : decode cX5_mostLeft 3 = .ok (.iconst 0, 1) := by decide +kernel
theorem dX5_mostLeft_4 : decode cX5_mostLeft 4 = .ok (.istore 4, 2) := by decide +kernel
theorem dX5_mostLeft_6 : decode cX5_mostLeft 6 = .ok (.iconst 0, 1) := by decide +kernel
theorem dX5_mostLeft_7 : decode cX5_mostLeft 7 = .ok (.istore 5, 2) := by decide +kernel
theorem dX5_mostLeft_9 : decode cX5_mostLeft 9 = .ok (.iload 5, 2) := by decide +kernel
theorem dX5_mostLeft_11 : decode cX5_mostLeft 11 = .ok (.iload_n 1, 1) := by decide +kernel
theorem dX5_mostLeft_12 : decode cX5_mostLeft 12 = .ok (.if_icmp .ge 64, 3) := by decide +kernel
theorem dX5_mostLeft_15 : decode cX5_mostLeft 15 = .ok (.iconst 0, 1) := by decide +kernel
theorem dX5_mostLeft_16 : decode cX5_mostLeft 16 = .ok (.istore 6, 2) := by decide +kernel
theorem dX5_mostLeft_18 : decode cX5_mostLeft 18 = .ok (.iconst 0, 1) := by decide +kernel
theorem dX5_mostLeft_19 : decode cX5_mostLeft 19 = .ok (.istore 7, 2) := by decide +kernel
theorem dX5_mostLeft_21 : decode cX5_mostLeft 21 = .ok (.iload 7, 2) := by decide +kernel
theorem dX5_mostLeft_23 : decode cX5_mostLeft 23 = .ok (.iload_n 1, 1) := by decide +kernel
theorem dX5_mostLeft_24 : decode cX5_mostLeft 24 = .ok (.if_icmp .ge 37, 3) := by decide +kernel
theorem dX5_mostLeft_27 : decode cX5_mostLeft 27 = .ok (.aload_n 0, 1) := by decide +kernel
theorem dX5_mostLeft_28 : decode cX5_mostLeft 28 = .ok (.getfield 47, 3) := by decide +kernel
theorem dX5_mostLeft_31 : decode cX5_mostLeft 31 = .ok (.iload 5, 2) := by decide +kernel
theorem dX5_mostLeft_33 : decode cX5_mostLeft 33 = .ok (.iload_n 3, 1) := by decide +kernel
theorem dX5_mostLeft_34 : decode cX5_mostLeft 34 = .ok (.imul, 1) := by decide +kernel
theorem dX5_mostLeft_35 : decode cX5_mostLeft 35 = .ok (.iload_n 2, 1) := by decide +kernel
theorem dX5_mostLeft_36 : decode cX5_mostLeft 36 = .ok (.iadd, 1) := by decide +kernel
theorem dX5_mostLeft_37 : decode cX5_mostLeft 37 = .ok (.iaload, 1) := by decide +kernel
theorem dX5_mostLeft_38 : decode cX5_mostLeft 38 = .ok (.aload_n 0, 1) := by decide +kernel
theorem dX5_mostLeft_39 : decode cX5_mostLeft 39 = .ok (.getfield 47, 3) := by decide +kernel
theorem dX5_mostLeft_42 : decode cX5_mostLeft 42 = .ok (.iload 7, 2) := by decide +kernel
theorem dX5_mostLeft_44 : decode cX5_mostLeft 44 = .ok (.iload_n 3, 1) := by decide +kernel
theorem dX5_mostLeft_45 : decode cX5_mostLeft 45 = .ok (.imul, 1) := by decide +kernel
theorem dX5_mostLeft_46 : decode cX5_mostLeft 46 = .ok (.iload_n 2, 1) := by decide +kernel
theorem dX5_mostLeft_47 : decode cX5_mostLeft 47 = .ok (.iadd, 1) := by decide +kernel
theorem dX5_mostLeft_48 : decode cX5_mostLeft 48 = .ok (.iaload, 1) := by decide +kernel
theorem dX5_mostLeft_49 : decode cX5_mostLeft 49 = .ok (.if_icmp .ne 6, 3) := by decide +kernel
theorem dX5_mostLeft_52 : decode cX5_mostLeft 52 = .ok (.iinc 6 1, 3) := by decide +kernel
theorem dX5_mostLeft_55 : decode cX5_mostLeft 55 = .ok (.iinc 7 1, 3) := by decide +kernel
theorem dX5_mostLeft_58 : decode cX5_mostLeft 58 = .ok (.goto (-37), 3) := by decide +kernel
theorem dX5_mostLeft_61 : decode cX5_mostLeft 61 = .ok (.iload 4, 2) := by decide +kernel
theorem dX5_mostLeft_63 : decode cX5_mostLeft 63 = .ok (.iload 6, 2) := by decide +kernel
theorem dX5_mostLeft_65 : decode cX5_mostLeft 65 = .ok (.invokestatic 275, 3) := by decide +kernel
theorem dX5_mostLeft_68 : decode cX5_mostLeft 68 = .ok (.istore 4, 2) := by decide +kernel
theorem dX5_mostLeft_70 : decode cX5_mostLeft 70 = .ok (.iinc 5 1, 3) := by decide +kernel
theorem dX5_mostLeft_73 : decode cX5_mostLeft 73 = .ok (.goto (-64), 3) := by decide +kernel
theorem dX5_mostLeft_76 : decode cX5_mostLeft 76 = .ok (.iload 4, 2) := by decide +kernel
theorem dX5_mostLeft_78 : decode cX5_mostLeft 78 = .ok (.ireturn, 1) := by decide +kernel
theorem dX5_stormSum_0 : decode cX5_stormSum 0 = .ok (.iload_n 2, 1) := by decide +kernel
theorem dX5_stormSum_1 : decode cX5_stormSum 1 = .ok (.ifCond .le 9, 3) := by decide +kernel
theorem dX5_stormSum_4 : decode cX5_stormSum 4 = .ok (.iload_n 2, 1) := by decide +kernel
theorem dX5_stormSum_5 : decode cX5_stormSum 5 = .ok (.bipush 8, 2) := by decide +kernel
theorem dX5_stormSum_7 : decode cX5_stormSum 7 = .ok (.if_icmp .le 32, 3) := by decide +kernel
theorem dX5_stormSum_10 : decode cX5_stormSum 10 = .ok (.aload_n 0, 1) := by decide +kernel
theorem dX5_stormSum_11 : decode cX5_stormSum 11 = .ok (.invokevirtual 107, 3) := by decide +kernel
theorem dX5_stormSum_14 : decode cX5_stormSum 14 = .ok (.istore 5, 2) := by decide +kernel
theorem dX5_stormSum_16 : decode cX5_stormSum 16 = .ok (.iload 4, 2) := by decide +kernel
theorem dX5_stormSum_18 : decode cX5_stormSum 18 = .ok (.iconst (-1), 1) := by decide +kernel
theorem dX5_stormSum_19 : decode cX5_stormSum 19 = .ok (.if_icmp .ne 7, 3) := by decide +kernel
theorem dX5_stormSum_22 : decode cX5_stormSum 22 = .ok (.iload 5, 2) := by decide +kernel
theorem dX5_stormSum_24 : decode cX5_stormSum 24 = .ok (.i2l, 1) := by decide +kernel
theorem dX5_stormSum_25 : decode cX5_stormSum 25 = .ok (.lreturn, 1) := by decide +kernel
theorem dX5_stormSum_26 : decode cX5_stormSum 26 = .ok (.iload 5, 2) := by decide +kernel
theorem dX5_stormSum_28 : decode cX5_stormSum 28 = .ok (.iload 4, 2) := by decide +kernel
theorem dX5_stormSum_30 : decode cX5_stormSum 30 = .ok (.if_icmp .gt 7, 3) := by decide +kernel
theorem dX5_stormSum_33 : decode cX5_stormSum 33 = .ok (.lconst 1, 1) := by decide +kernel
theorem dX5_stormSum_34 : decode cX5_stormSum 34 = .ok (.goto 4, 3) := by decide +kernel
theorem dX5_stormSum_37 : decode cX5_stormSum 37 = .ok (.lconst 0, 1) := by decide +kernel
theorem dX5_stormSum_38 : decode cX5_stormSum 38 = .ok (.lreturn, 1) := by decide +kernel
theorem dX5_stormSum_39 : decode cX5_stormSum 39 = .ok (.lconst 0, 1) := by decide +kernel
theorem dX5_stormSum_40 : decode cX5_stormSum 40 = .ok (.lstore 5, 2) := by decide +kernel
theorem dX5_stormSum_42 : decode cX5_stormSum 42 = .ok (.iload_n 3, 1) := by decide +kernel
theorem dX5_stormSum_43 : decode cX5_stormSum 43 = .ok (.ifCond .le 42, 3) := by decide +kernel
theorem dX5_stormSum_46 : decode cX5_stormSum 46 = .ok (.aload_n 0, 1) := by decide +kernel
theorem dX5_stormSum_47 : decode cX5_stormSum 47 = .ok (.dup, 1) := by decide +kernel
theorem dX5_stormSum_48 : decode cX5_stormSum 48 = .ok (.getfield 98, 3) := by decide +kernel
theorem dX5_stormSum_51 : decode cX5_stormSum 51 = .ok (.iconst 1, 1) := by decide +kernel
theorem dX5_stormSum_52 : decode cX5_stormSum 52 = .ok (.iadd, 1) := by decide +kernel
theorem dX5_stormSum_53 : decode cX5_stormSum 53 = .ok (.putfield 98, 3) := by decide +kernel
theorem dX5_stormSum_56 : decode cX5_stormSum 56 = .ok (.lload 5, 2) := by decide +kernel
theorem dX5_stormSum_58 : decode cX5_stormSum 58 = .ok (.iload_n 3, 1) := by decide +kernel
theorem dX5_stormSum_59 : decode cX5_stormSum 59 = .ok (.i2l, 1) := by decide +kernel
theorem dX5_stormSum_60 : decode cX5_stormSum 60 = .ok (.aload_n 0, 1) := by decide +kernel
theorem dX5_stormSum_61 : decode cX5_stormSum 61 = .ok (.aload_n 1, 1) := by decide +kernel
theorem dX5_stormSum_62 : decode cX5_stormSum 62 = .ok (.iload_n 2, 1) := by decide +kernel
theorem dX5_stormSum_63 : decode cX5_stormSum 63 = .ok (.iconst 1, 1) := by decide +kernel
theorem dX5_stormSum_64 : decode cX5_stormSum 64 = .ok (.isub, 1) := by decide +kernel
theorem dX5_stormSum_65 : decode cX5_stormSum 65 = .ok (.iload_n 3, 1) := by decide +kernel
theorem dX5_stormSum_66 : decode cX5_stormSum 66 = .ok (.iload 4, 2) := by decide +kernel
theorem dX5_stormSum_68 : decode cX5_stormSum 68 = .ok (.invokestatic 209, 3) := by decide +kernel
theorem dX5_stormSum_71 : decode cX5_stormSum 71 = .ok (.lmul, 1) := by decide +kernel
theorem dX5_stormSum_72 : decode cX5_stormSum 72 = .ok (.ladd, 1) := by decide +kernel
theorem dX5_stormSum_73 : decode cX5_stormSum 73 = .ok (.lstore 5, 2) := by decide +kernel
theorem dX5_stormSum_75 : decode cX5_stormSum 75 = .ok (.aload_n 0, 1) := by decide +kernel
theorem dX5_stormSum_76 : decode cX5_stormSum 76 = .ok (.dup, 1) := by decide +kernel
theorem dX5_stormSum_77 : decode cX5_stormSum 77 = .ok (.getfield 98, 3) := by decide +kernel
theorem dX5_stormSum_80 : decode cX5_stormSum 80 = .ok (.iconst 1, 1) := by decide +kernel
theorem dX5_stormSum_81 : decode cX5_stormSum 81 = .ok (.isub, 1) := by decide +kernel
theorem dX5_stormSum_82 : decode cX5_stormSum 82 = .ok (.putfield 98, 3) := by decide +kernel
theorem dX5_stormSum_85 : decode cX5_stormSum 85 = .ok (.iload_n 3, 1) := by decide +kernel
theorem dX5_stormSum_86 : decode cX5_stormSum 86 = .ok (.bipush 10, 2) := by decide +kernel
theorem dX5_stormSum_88 : decode cX5_stormSum 88 = .ok (.if_icmp .ge 70, 3) := by decide +kernel
theorem dX5_stormSum_91 : decode cX5_stormSum 91 = .ok (.iload_n 2, 1) := by decide +kernel
theorem dX5_stormSum_92 : decode cX5_stormSum 92 = .ok (.iconst 1, 1) := by decide +kernel
theorem dX5_stormSum_93 : decode cX5_stormSum 93 = .ok (.isub, 1) := by decide +kernel
theorem dX5_stormSum_94 : decode cX5_stormSum 94 = .ok (.iconst 5, 1) := by decide +kernel
theorem dX5_stormSum_95 : decode cX5_stormSum 95 = .ok (.imul, 1) := by decide +kernel
theorem dX5_stormSum_96 : decode cX5_stormSum 96 = .ok (.istore 7, 2) := by decide +kernel
theorem dX5_stormSum_98 : decode cX5_stormSum 98 = .ok (.aload_n 0, 1) := by decide +kernel
theorem dX5_stormSum_99 : decode cX5_stormSum 99 = .ok (.getfield 118, 3) := by decide +kernel
theorem dX5_stormSum_102 : decode cX5_stormSum 102 = .ok (.iconst 0, 1) := by decide +kernel
theorem dX5_stormSum_103 : decode cX5_stormSum 103 = .ok (.aload_n 1, 1) := by decide +kernel
theorem dX5_stormSum_104 : decode cX5_stormSum 104 = .ok (.iload 7, 2) := by decide +kernel
theorem dX5_stormSum_106 : decode cX5_stormSum 106 = .ok (.iconst 5, 1) := by decide +kernel
theorem dX5_stormSum_107 : decode cX5_stormSum 107 = .ok (.invokestatic 269, 3) := by decide +kernel
theorem dX5_stormSum_110 : decode cX5_stormSum 110 = .ok (.aload_n 0, 1) := by decide +kernel
theorem dX5_stormSum_111 : decode cX5_stormSum 111 = .ok (.invokevirtual 181, 3) := by decide +kernel
theorem dX5_stormSum_114 : decode cX5_stormSum 114 = .ok (.lload 5, 2) := by decide +kernel
theorem dX5_stormSum_116 : decode cX5_stormSum 116 = .ok (.bipush 10, 2) := by decide +kernel
theorem dX5_stormSum_118 : decode cX5_stormSum 118 = .ok (.iload_n 3, 1) := by decide +kernel
theorem dX5_stormSum_119 : decode cX5_stormSum 119 = .ok (.isub, 1) := by decide +kernel
theorem dX5_stormSum_120 : decode cX5_stormSum 120 = .ok (.i2l, 1) := by decide +kernel
theorem dX5_stormSum_121 : decode cX5_stormSum 121 = .ok (.aload_n 0, 1) := by decide +kernel
theorem dX5_stormSum_122 : decode cX5_stormSum 122 = .ok (.aload_n 1, 1) := by decide +kernel
theorem dX5_stormSum_123 : decode cX5_stormSum 123 = .ok (.iload_n 2, 1) := by decide +kernel
theorem dX5_stormSum_124 : decode cX5_stormSum 124 = .ok (.iconst 1, 1) := by decide +kernel
theorem dX5_stormSum_125 : decode cX5_stormSum 125 = .ok (.isub, 1) := by decide +kernel
theorem dX5_stormSum_126 : decode cX5_stormSum 126 = .ok (.iload_n 3, 1) := by decide +kernel
theorem dX5_stormSum_127 : decode cX5_stormSum 127 = .ok (.iload 4, 2) := by decide +kernel
theorem dX5_stormSum_129 : decode cX5_stormSum 129 = .ok (.invokestatic 209, 3) := by decide +kernel
theorem dX5_stormSum_132 : decode cX5_stormSum 132 = .ok (.lmul, 1) := by decide +kernel
theorem dX5_stormSum_133 : decode cX5_stormSum 133 = .ok (.ladd, 1) := by decide +kernel
theorem dX5_stormSum_134 : decode cX5_stormSum 134 = .ok (.lstore 5, 2) := by decide +kernel
theorem dX5_stormSum_136 : decode cX5_stormSum 136 = .ok (.aload_n 0, 1) := by decide +kernel
theorem dX5_stormSum_137 : decode cX5_stormSum 137 = .ok (.dup, 1) := by decide +kernel
theorem dX5_stormSum_138 : decode cX5_stormSum 138 = .ok (.getfield 98, 3) := by decide +kernel
theorem dX5_stormSum_141 : decode cX5_stormSum 141 = .ok (.iconst 1, 1) := by decide +kernel
theorem dX5_stormSum_142 : decode cX5_stormSum 142 = .ok (.isub, 1) := by decide +kernel
theorem dX5_stormSum_143 : decode cX5_stormSum 143 = .ok (.putfield 98, 3) := by decide +kernel
theorem dX5_stormSum_146 : decode cX5_stormSum 146 = .ok (.aload_n 1, 1) := by decide +kernel
theorem dX5_stormSum_147 : decode cX5_stormSum 147 = .ok (.iload 7, 2) := by decide +kernel
theorem dX5_stormSum_149 : decode cX5_stormSum 149 = .ok (.aload_n 0, 1) := by decide +kernel
theorem dX5_stormSum_150 : decode cX5_stormSum 150 = .ok (.getfield 118, 3) := by decide +kernel
theorem dX5_stormSum_153 : decode cX5_stormSum 153 = .ok (.iconst 0, 1) := by decide +kernel
theorem dX5_stormSum_154 : decode cX5_stormSum 154 = .ok (.iconst 5, 1) := by decide +kernel
theorem dX5_stormSum_155 : decode cX5_stormSum 155 = .ok (.invokestatic 269, 3) := by decide +kernel
theorem dX5_stormSum_158 : decode cX5_stormSum 158 = .ok (.lload 5, 2) := by decide +kernel
theorem dX5_stormSum_160 : decode cX5_stormSum 160 = .ok (.lreturn, 1) := by decide +kernel
theorem dX5_fractionPart_0 : decode cX5_fractionPart 0 = .ok (.lconst 1, 1) := by decide +kernel
theorem dX5_fractionPart_1 : decode cX5_fractionPart 1 = .ok (.lstore 4, 2) := by decide +kernel
theorem dX5_fractionPart_3 : decode cX5_fractionPart 3 = .ok (.iconst 0, 1) := by decide +kernel
theorem dX5_fractionPart_4 : decode cX5_fractionPart 4 = .ok (.istore 6, 2) := by decide +kernel
theorem dX5_fractionPart_6 : decode cX5_fractionPart 6 = .ok (.iload 6, 2) := by decide +kernel
theorem dX5_fractionPart_8 : decode cX5_fractionPart 8 = .ok (.iload_n 2, 1) := by decide +kernel
theorem dX5_fractionPart_9 : decode cX5_fractionPart 9 = .ok (.if_icmp .ge 17, 3) := by decide +kernel
theorem dX5_fractionPart_12 : decode cX5_fractionPart 12 = .ok (.lload 4, 2) := by decide +kernel
theorem dX5_fractionPart_14 : decode cX5_fractionPart 14 = .ok (.ldc2_w 278, 3) := by decide +kernel
theorem dX5_fractionPart_17 : decode cX5_fractionPart 17 = .ok (.lmul, 1) := by decide +kernel
theorem dX5_fractionPart_18 : decode cX5_fractionPart 18 = .ok (.lstore 4, 2) := by decide +kernel
theorem dX5_fractionPart_20 : decode cX5_fractionPart 20 = .ok (.iinc 6 1, 3) := by decide +kernel
theorem dX5_fractionPart_23 : decode cX5_fractionPart 23 = .ok (.goto (-17), 3) := by decide +kernel
theorem dX5_fractionPart_26 : decode cX5_fractionPart 26 = .ok (.lload_n 0, 1) := by decide +kernel
theorem dX5_fractionPart_27 : decode cX5_fractionPart 27 = .ok (.lload 4, 2) := by decide +kernel
theorem dX5_fractionPart_29 : decode cX5_fractionPart 29 = .ok (.invokestatic 280, 3) := by decide +kernel
theorem dX5_fractionPart_32 : decode cX5_fractionPart 32 = .ok (.lstore 6, 2) := by decide +kernel
theorem dX5_fractionPart_34 : decode cX5_fractionPart 34 = .ok (.iload_n 3, 1) := by decide +kernel
theorem dX5_fractionPart_35 : decode cX5_fractionPart 35 = .ok (.ifCond .ne 7, 3) := by decide +kernel
theorem dX5_fractionPart_38 : decode cX5_fractionPart 38 = .ok (.lload_n 0, 1) := by decide +kernel
theorem dX5_fractionPart_39 : decode cX5_fractionPart 39 = .ok (.goto 5, 3) := by decide +kernel
theorem dX5_fractionPart_42 : decode cX5_fractionPart 42 = .ok (.lload 4, 2) := by decide +kernel
theorem dX5_fractionPart_44 : decode cX5_fractionPart 44 = .ok (.lload 6, 2) := by decide +kernel
theorem dX5_fractionPart_46 : decode cX5_fractionPart 46 = .ok (.ldiv, 1) := by decide +kernel
theorem dX5_fractionPart_47 : decode cX5_fractionPart 47 = .ok (.lreturn, 1) := by decide +kernel
theorem dX5_commonDivisor_0 : decode cX5_commonDivisor 0 = .ok (.lload_n 0, 1) := by decide +kernel
theorem dX5_commonDivisor_1 : decode cX5_commonDivisor 1 = .ok (.lstore 4, 2) := by decide +kernel
theorem dX5_commonDivisor_3 : decode cX5_commonDivisor 3 = .ok (.lload_n 2, 1) := by decide +kernel
theorem dX5_commonDivisor_4 : decode cX5_commonDivisor 4 = .ok (.lstore 6, 2) := by decide +kernel
theorem dX5_commonDivisor_6 : decode cX5_commonDivisor 6 = .ok (.iconst 0, 1) := by decide +kernel
theorem dX5_commonDivisor_7 : decode cX5_commonDivisor 7 = .ok (.istore 8, 2) := by decide +kernel
theorem dX5_commonDivisor_9 : decode cX5_commonDivisor 9 = .ok (.iload 8, 2) := by decide +kernel
theorem dX5_commonDivisor_11 : decode cX5_commonDivisor 11 = .ok (.sipush 200, 3) := by decide +kernel
theorem dX5_commonDivisor_14 : decode cX5_commonDivisor 14 = .ok (.if_icmp .ge 31, 3) := by decide +kernel
theorem dX5_commonDivisor_17 : decode cX5_commonDivisor 17 = .ok (.lload 6, 2) := by decide +kernel
theorem dX5_commonDivisor_19 : decode cX5_commonDivisor 19 = .ok (.lconst 0, 1) := by decide +kernel
theorem dX5_commonDivisor_20 : decode cX5_commonDivisor 20 = .ok (.lcmp, 1) := by decide +kernel
theorem dX5_commonDivisor_21 : decode cX5_commonDivisor 21 = .ok (.ifCond .eq 24, 3) := by decide +kernel
theorem dX5_commonDivisor_24 : decode cX5_commonDivisor 24 = .ok (.lload 4, 2) := by decide +kernel
theorem dX5_commonDivisor_26 : decode cX5_commonDivisor 26 = .ok (.lload 6, 2) := by decide +kernel
theorem dX5_commonDivisor_28 : decode cX5_commonDivisor 28 = .ok (.lrem, 1) := by decide +kernel
theorem dX5_commonDivisor_29 : decode cX5_commonDivisor 29 = .ok (.lstore 9, 2) := by decide +kernel
theorem dX5_commonDivisor_31 : decode cX5_commonDivisor 31 = .ok (.lload 6, 2) := by decide +kernel
theorem dX5_commonDivisor_33 : decode cX5_commonDivisor 33 = .ok (.lstore 4, 2) := by decide +kernel
theorem dX5_commonDivisor_35 : decode cX5_commonDivisor 35 = .ok (.lload 9, 2) := by decide +kernel
theorem dX5_commonDivisor_37 : decode cX5_commonDivisor 37 = .ok (.lstore 6, 2) := by decide +kernel
theorem dX5_commonDivisor_39 : decode cX5_commonDivisor 39 = .ok (.iinc 8 1, 3) := by decide +kernel
theorem dX5_commonDivisor_42 : decode cX5_commonDivisor 42 = .ok (.goto (-33), 3) := by decide +kernel
theorem dX5_commonDivisor_45 : decode cX5_commonDivisor 45 = .ok (.lconst 1, 1) := by decide +kernel
theorem dX5_commonDivisor_46 : decode cX5_commonDivisor 46 = .ok (.lload 4, 2) := by decide +kernel
theorem dX5_commonDivisor_48 : decode cX5_commonDivisor 48 = .ok (.invokestatic 284, 3) := by decide +kernel
theorem dX5_commonDivisor_51 : decode cX5_commonDivisor 51 = .ok (.lreturn, 1) := by decide +kernel
end
section
theorem dX6_init_0 : decode cX6_init 0 = .ok (.aload_n 0, 1) := by decide +kernel
theorem dX6_init_1 : decode cX6_init 1 = .ok (.invokespecial 1, 3) := by decide +kernel
theorem dX6_init_4 : decode cX6_init 4 = .ok (.aload_n 0, 1) := by decide +kernel
theorem dX6_init_5 : decode cX6_init 5 = .ok (.sipush 228, 3) := by decide +kernel
theorem dX6_init_8 : decode cX6_init 8 = .ok (.newarray .int, 2) := by decide +kernel
theorem dX6_init_10 : decode cX6_init 10 = .ok (.putfield 7, 3) := by decide +kernel
theorem dX6_init_13 : decode cX6_init 13 = .ok (.aload_n 0, 1) := by decide +kernel
theorem dX6_init_14 : decode cX6_init 14 = .ok (.bipush 76, 2) := by decide +kernel
theorem dX6_init_16 : decode cX6_init 16 = .ok (.newarray .int, 2) := by decide +kernel
theorem dX6_init_18 : decode cX6_init 18 = .ok (.putfield 13, 3) := by decide +kernel
theorem dX6_init_21 : decode cX6_init 21 = .ok (.aload_n 0, 1) := by decide +kernel
theorem dX6_init_22 : decode cX6_init 22 = .ok (.iconst 2, 1) := by decide +kernel
theorem dX6_init_23 : decode cX6_init 23 = .ok (.newarray .boolean, 2) := by decide +kernel
theorem dX6_init_25 : decode cX6_init 25 = .ok (.putfield 16, 3) := by decide +kernel
theorem dX6_init_28 : decode cX6_init 28 = .ok (.aload_n 0, 1) := by decide +kernel
theorem dX6_init_29 : decode cX6_init 29 = .ok (.bipush 76, 2) := by decide +kernel
theorem dX6_init_31 : decode cX6_init 31 = .ok (.newarray .int, 2) := by decide +kernel
theorem dX6_init_33 : decode cX6_init 33 = .ok (.putfield 20, 3) := by decide +kernel
theorem dX6_init_36 : decode cX6_init 36 = .ok (.aload_n 0, 1) := by decide +kernel
theorem dX6_init_37 : decode cX6_init 37 = .ok (.sipush 160, 3) := by decide +kernel
theorem dX6_init_40 : decode cX6_init 40 = .ok (.newarray .int, 2) := by decide +kernel
theorem dX6_init_42 : decode cX6_init 42 = .ok (.putfield 23, 3) := by decide +kernel
theorem dX6_init_45 : decode cX6_init 45 = .ok (.aload_n 0, 1) := by decide +kernel
theorem dX6_init_46 : decode cX6_init 46 = .ok (.bipush 105, 2) := by decide +kernel
theorem dX6_init_48 : decode cX6_init 48 = .ok (.newarray .int, 2) := by decide +kernel
theorem dX6_init_50 : decode cX6_init 50 = .ok (.putfield 26, 3) := by decide +kernel
theorem dX6_init_53 : decode cX6_init 53 = .ok (.aload_n 0, 1) := by decide +kernel
theorem dX6_init_54 : decode cX6_init 54 = .ok (.sipush 420, 3) := by decide +kernel
theorem dX6_init_57 : decode cX6_init 57 = .ok (.newarray .int, 2) := by decide +kernel
theorem dX6_init_59 : decode cX6_init 59 = .ok (.putfield 29, 3) := by decide +kernel
theorem dX6_init_62 : decode cX6_init 62 = .ok (.aload_n 0, 1) := by decide +kernel
theorem dX6_init_63 : decode cX6_init 63 = .ok (.iconst 4, 1) := by decide +kernel
theorem dX6_init_64 : decode cX6_init 64 = .ok (.newarray .int, 2) := by decide +kernel
theorem dX6_init_66 : decode cX6_init 66 = .ok (.putfield 32, 3) := by decide +kernel
theorem dX6_init_69 : decode cX6_init 69 = .ok (.aload_n 0, 1) := by decide +kernel
theorem dX6_init_70 : decode cX6_init 70 = .ok (.iconst 4, 1) := by decide +kernel
theorem dX6_init_71 : decode cX6_init 71 = .ok (.newarray .int, 2) := by decide +kernel
theorem dX6_init_73 : decode cX6_init 73 = .ok (.putfield 35, 3) := by decide +kernel
theorem dX6_init_76 : decode cX6_init 76 = .ok (.aload_n 0, 1) := by decide +kernel
theorem dX6_init_77 : decode cX6_init 77 = .ok (.sipush 160, 3) := by decide +kernel
theorem dX6_init_80 : decode cX6_init 80 = .ok (.newarray .int, 2) := by decide +kernel
theorem dX6_init_82 : decode cX6_init 82 = .ok (.putfield 38, 3) := by decide +kernel
theorem dX6_init_85 : decode cX6_init 85 = .ok (.aload_n 0, 1) := by decide +kernel
theorem dX6_init_86 : decode cX6_init 86 = .ok (.bipush 76, 2) := by decide +kernel
theorem dX6_init_88 : decode cX6_init 88 = .ok (.newarray .int, 2) := by decide +kernel
theorem dX6_init_90 : decode cX6_init 90 = .ok (.putfield 41, 3) := by decide +kernel
theorem dX6_init_93 : decode cX6_init 93 = .ok (.iconst 0, 1) := by decide +kernel
theorem dX6_init_94 : decode cX6_init 94 = .ok (.istore_n 1, 1) := by decide +kernel
theorem dX6_init_95 : decode cX6_init 95 = .ok (.iload_n 1, 1) := by decide +kernel
theorem dX6_init_96 : decode cX6_init 96 = .ok (.iconst 4, 1) := by decide +kernel
theorem dX6_init_97 : decode cX6_init 97 = .ok (.if_icmp .ge 17, 3) := by decide +kernel
theorem dX6_init_100 : decode cX6_init 100 = .ok (.aload_n 0, 1) := by decide +kernel
theorem dX6_init_101 : decode cX6_init 101 = .ok (.getfield 32, 3) := by decide +kernel
theorem dX6_init_104 : decode cX6_init 104 = .ok (.iload_n 1, 1) := by decide +kernel
theorem dX6_init_105 : decode cX6_init 105 = .ok (.bipush (-4), 2) := by decide +kernel
theorem dX6_init_107 : decode cX6_init 107 = .ok (.iastore, 1) := by decide +kernel
theorem dX6_init_108 : decode cX6_init 108 = .ok (.iinc 1 1, 3) := by decide +kernel
theorem dX6_init_111 : decode cX6_init 111 = .ok (.goto (-16), 3) := by decide +kernel
theorem dX6_init_114 : decode cX6_init 114 = .ok (.aload_n 0, 1) := by decide +kernel
theorem dX6_init_115 : decode cX6_init 115 = .ok (.invokevirtual 44, 3) := by decide +kernel
theorem dX6_init_118 : decode cX6_init 118 = .ok (.aload_n 0, 1) := by decide +kernel
theorem dX6_init_119 : decode cX6_init 119 = .ok (.invokevirtual 47, 3) := by decide +kernel
theorem dX6_init_122 : decode cX6_init 122 = .ok (.return_, 1) := by decide +kernel
theorem dX6_in_0 : decode cX6_in 0 = .ok (.lload_n 0, 1) := by decide +kernel
theorem dX6_in_1 : decode cX6_in 1 = .ok (.lload_n 2, 1) := by decide +kernel
theorem dX6_in_2 : decode cX6_in 2 = .ok (.lcmp, 1) := by decide +kernel
theorem dX6_in_3 : decode cX6_in 3 = .ok (.ifCond .lt 14, 3) := by decide +kernel
theorem dX6_in_6 : decode cX6_in 6 = .ok (.lload_n 0, 1) := by decide +kernel
theorem dX6_in_7 : decode cX6_in 7 = .ok (.lload 4, 2) := by decide +kernel
theorem dX6_in_9 : decode cX6_in 9 = .ok (.lcmp, 1) := by decide +kernel
theorem dX6_in_10 : decode cX6_in 10 = .ok (.ifCond .gt 7, 3) := by decide +kernel
theorem dX6_in_13 : decode cX6_in 13 = .ok (.iconst 1, 1) := by decide +kernel
theorem dX6_in_14 : decode cX6_in 14 = .ok (.goto 4, 3) := by decide +kernel
theorem dX6_in_17 : decode cX6_in 17 = .ok (.iconst 0, 1) := by decide +kernel
theorem dX6_in_18 : decode cX6_in 18 = .ok (.ireturn, 1) := by decide +kernel
theorem dX6_flag_0 : decode cX6_flag 0 = .ok (.iload_n 0, 1) := by decide +kernel
theorem dX6_flag_1 : decode cX6_flag 1 = .ok (.ifCond .eq 7, 3) := by decide +kernel
theorem dX6_flag_4 : decode cX6_flag 4 = .ok (.iconst 1, 1) := by decide +kernel
theorem dX6_flag_5 : decode cX6_flag 5 = .ok (.goto 4, 3) := by decide +kernel
theorem dX6_flag_8 : decode cX6_flag 8 = .ok (.iconst 0, 1) := by decide +kernel
theorem dX6_flag_9 : decode cX6_flag 9 = .ok (.ireturn, 1) := by decide +kernel
theorem dX6_lesser_0 : decode cX6_lesser 0 = .ok (.iload_n 0, 1) := by decide +kernel
theorem dX6_lesser_1 : decode cX6_lesser 1 = .ok (.iload_n 1, 1) := by decide +kernel
theorem dX6_lesser_2 : decode cX6_lesser 2 = .ok (.if_icmp .ge 7, 3) := by decide +kernel
theorem dX6_lesser_5 : decode cX6_lesser 5 = .ok (.iload_n 0, 1) := by decide +kernel
theorem dX6_lesser_6 : decode cX6_lesser 6 = .ok (.goto 4, 3) := by decide +kernel
theorem dX6_lesser_9 : decode cX6_lesser 9 = .ok (.iload_n 1, 1) := by decide +kernel
theorem dX6_lesser_10 : decode cX6_lesser 10 = .ok (.ireturn, 1) := by decide +kernel
theorem dX6_sizeOf_0 : decode cX6_sizeOf 0 = .ok (.iload_n 0, 1) := by decide +kernel
theorem dX6_sizeOf_1 : decode cX6_sizeOf 1 = .ok (.ifCond .ge 8, 3) := by decide +kernel
theorem dX6_sizeOf_4 : decode cX6_sizeOf 4 = .ok (.iload_n 0, 1) := by decide +kernel
theorem dX6_sizeOf_5 : decode cX6_sizeOf 5 = .ok (.ineg, 1) := by decide +kernel
theorem dX6_sizeOf_6 : decode cX6_sizeOf 6 = .ok (.goto 4, 3) := by decide +kernel
theorem dX6_sizeOf_9 : decode cX6_sizeOf 9 = .ok (.iload_n 0, 1) := by decide +kernel
theorem dX6_sizeOf_10 : decode cX6_sizeOf 10 = .ok (.ireturn, 1) := by decide +kernel
theorem dX6_firstDraft_0 : decode cX6_firstDraft 0 = .ok (.iconst 0, 1) := by decide +kernel
theorem dX6_firstDraft_1 : decode cX6_firstDraft 1 = .ok (.istore_n 1, 1) := by decide +kernel
theorem dX6_firstDraft_2 : decode cX6_firstDraft 2 = .ok (.iload_n 1, 1) := by decide +kernel
theorem dX6_firstDraft_3 : decode cX6_firstDraft 3 = .ok (.bipush 76, 2) := by decide +kernel
theorem dX6_firstDraft_5 : decode cX6_firstDraft 5 = .ok (.if_icmp .ge 16, 3) := by decide +kernel
theorem dX6_firstDraft_8 : decode cX6_firstDraft 8 = .ok (.aload_n 0, 1) := by decide +kernel
theorem dX6_firstDraft_9 : decode cX6_firstDraft 9 = .ok (.getfield 20, 3) := by decide +kernel
theorem dX6_firstDraft_12 : decode cX6_firstDraft 12 = .ok (.iload_n 1, 1) := by decide +kernel
theorem dX6_firstDraft_13 : decode cX6_firstDraft 13 = .ok (.iconst 0, 1) := by decide +kernel
theorem dX6_firstDraft_14 : decode cX6_firstDraft 14 = .ok (.iastore, 1) := by decide +kernel
theorem dX6_firstDraft_15 : decode cX6_firstDraft 15 = .ok (.iinc 1 1, 3) := by decide +kernel
theorem dX6_firstDraft_18 : decode cX6_firstDraft 18 = .ok (.goto (-16), 3) := by decide +kernel
theorem dX6_firstDraft_21 : decode cX6_firstDraft 21 = .ok (.aload_n 0, 1) := by decide +kernel
theorem dX6_firstDraft_22 : decode cX6_firstDraft 22 = .ok (.iconst 0, 1) := by decide +kernel
theorem dX6_firstDraft_23 : decode cX6_firstDraft 23 = .ok (.putfield 50, 3) := by decide +kernel
theorem dX6_firstDraft_26 : decode cX6_firstDraft 26 = .ok (.aload_n 0, 1) := by decide +kernel
theorem dX6_firstDraft_27 : decode cX6_firstDraft 27 = .ok (.iconst 0, 1) := by decide +kernel
theorem dX6_firstDraft_28 : decode cX6_firstDraft 28 = .ok (.putfield 54, 3) := by decide +kernel
theorem dX6_firstDraft_31 : decode cX6_firstDraft 31 = .ok (.aload_n 0, 1) := by decide +kernel
theorem dX6_firstDraft_32 : decode cX6_firstDraft 32 = .ok (.iconst 0, 1) := by decide +kernel
theorem dX6_firstDraft_33 : decode cX6_firstDraft 33 = .ok (.putfield 58, 3) := by decide +kernel
theorem dX6_firstDraft_36 : decode cX6_firstDraft 36 = .ok (.aload_n 0, 1) := by decide +kernel
theorem dX6_firstDraft_37 : decode cX6_firstDraft 37 = .ok (.bipush (-4), 2) := by decide +kernel
theorem dX6_firstDraft_39 : decode cX6_firstDraft 39 = .ok (.putfield 61, 3) := by decide +kernel
theorem dX6_firstDraft_42 : decode cX6_firstDraft 42 = .ok (.return_, 1) := by decide +kernel
theorem dX6_keepDraft_0 : decode cX6_keepDraft 0 = .ok (.iconst 0, 1) := by decide +kernel
theorem dX6_keepDraft_1 : decode cX6_keepDraft 1 = .ok (.istore_n 1, 1) := by decide +kernel
theorem dX6_keepDraft_2 : decode cX6_keepDraft 2 = .ok (.iload_n 1, 1) := by decide +kernel
theorem dX6_keepDraft_3 : decode cX6_keepDraft 3 = .ok (.bipush 76, 2) := by decide +kernel
theorem dX6_keepDraft_5 : decode cX6_keepDraft 5 = .ok (.if_icmp .ge 21, 3) := by decide +kernel
theorem dX6_keepDraft_8 : decode cX6_keepDraft 8 = .ok (.aload_n 0, 1) := by decide +kernel
theorem dX6_keepDraft_9 : decode cX6_keepDraft 9 = .ok (.getfield 7, 3) := by decide +kernel
theorem dX6_keepDraft_12 : decode cX6_keepDraft 12 = .ok (.iload_n 1, 1) := by decide +kernel
theorem dX6_keepDraft_13 : decode cX6_keepDraft 13 = .ok (.aload_n 0, 1) := by decide +kernel
theorem dX6_keepDraft_14 : decode cX6_keepDraft 14 = .ok (.getfield 20, 3) := by decide +kernel
theorem dX6_keepDraft_17 : decode cX6_keepDraft 17 = .ok (.iload_n 1, 1) := by decide +kernel
theorem dX6_keepDraft_18 : decode cX6_keepDraft 18 = .ok (.iaload, 1) := by decide +kernel
theorem dX6_keepDraft_19 : decode cX6_keepDraft 19 = .ok (.iastore, 1) := by decide +kernel
theorem dX6_keepDraft_20 : decode cX6_keepDraft 20 = .ok (.iinc 1 1, 3) := by decide +kernel
theorem dX6_keepDraft_23 : decode cX6_keepDraft 23 = .ok (.goto (-21), 3) := by decide +kernel
theorem dX6_keepDraft_26 : decode cX6_keepDraft 26 = .ok (.aload_n 0, 1) := by decide +kernel
theorem dX6_keepDraft_27 : decode cX6_keepDraft 27 = .ok (.aload_n 0, 1) := by decide +kernel
theorem dX6_keepDraft_28 : decode cX6_keepDraft 28 = .ok (.getfield 50, 3) := by decide +kernel
theorem dX6_keepDraft_31 : decode cX6_keepDraft 31 = .ok (.putfield 64, 3) := by decide +kernel
theorem dX6_keepDraft_34 : decode cX6_keepDraft 34 = .ok (.aload_n 0, 1) := by decide +kernel
theorem dX6_keepDraft_35 : decode cX6_keepDraft 35 = .ok (.getfield 16, 3) := by decide +kernel
theorem dX6_keepDraft_38 : decode cX6_keepDraft 38 = .ok (.iconst 0, 1) := by decide +kernel
theorem dX6_keepDraft_39 : decode cX6_keepDraft 39 = .ok (.iconst 0, 1) := by decide +kernel
theorem dX6_keepDraft_40 : decode cX6_keepDraft 40 = .ok (.bastore, 1) := by decide +kernel
theorem dX6_keepDraft_41 : decode cX6_keepDraft 41 = .ok (.aload_n 0, 1) := by decide +kernel
theorem dX6_keepDraft_42 : decode cX6_keepDraft 42 = .ok (.getfield 16, 3) := by decide +kernel
theorem dX6_keepDraft_45 : decode cX6_keepDraft 45 = .ok (.iconst 1, 1) := by decide +kernel
theorem dX6_keepDraft_46 : decode cX6_keepDraft 46 = .ok (.iconst 0, 1) := by decide +kernel
theorem dX6_keepDraft_47 : decode cX6_keepDraft 47 = .ok (.bastore, 1) := by decide +kernel
theorem dX6_keepDraft_48 : decode cX6_keepDraft 48 = .ok (.return_, 1) := by decide +kernel
theorem dX6_feed_0 : decode cX6_feed 0 = .ok (.iload_n 1, 1) := by decide +kernel
theorem dX6_feed_1 : decode cX6_feed 1 = .ok (.i2l, 1) := by decide +kernel
theorem dX6_feed_2 : decode cX6_feed 2 = .ok (.lconst 0, 1) := by decide +kernel
theorem dX6_feed_3 : decode cX6_feed 3 = .ok (.ldc2_w 67, 3) := by decide +kernel
theorem dX6_feed_6 : decode cX6_feed 6 = .ok (.invokestatic 69, 3) := by decide +kernel
theorem dX6_feed_9 : decode cX6_feed 9 = .ok (.ifCond .ne 5, 3) := by decide +kernel
theorem dX6_feed_12 : decode cX6_feed 12 = .ok (.iconst (-1), 1) := by decide +kernel
theorem dX6_feed_13 : decode cX6_feed 13 = .ok (.ireturn, 1) := by decide +kernel
theorem dX6_feed_14 : decode cX6_feed 14 = .ok (.aload_n 0, 1) := by decide +kernel
theorem dX6_feed_15 : decode cX6_feed 15 = .ok (.getfield 73, 3) := by decide +kernel
theorem dX6_feed_18 : decode cX6_feed 18 = .ok (.sipush 160, 3) := by decide +kernel
theorem dX6_feed_21 : decode cX6_feed 21 = .ok (.if_icmp .ne 6, 3) := by decide +kernel
theorem dX6_feed_24 : decode cX6_feed 24 = .ok (.bipush (-3), 2) := by decide +kernel
theorem dX6_feed_26 : decode cX6_feed 26 = .ok (.ireturn, 1) := by decide +kernel
theorem dX6_feed_27 : decode cX6_feed 27 = .ok (.aload_n 0, 1) := by decide +kernel
theorem dX6_feed_28 : decode cX6_feed 28 = .ok (.getfield 23, 3) := by decide +kernel
theorem dX6_feed_31 : decode cX6_feed 31 = .ok (.aload_n 0, 1) := by decide +kernel
theorem dX6_feed_32 : decode cX6_feed 32 = .ok (.getfield 73, 3) := by decide +kernel
theorem dX6_feed_35 : decode cX6_feed 35 = .ok (.iload_n 1, 1) := by decide +kernel
theorem dX6_feed_36 : decode cX6_feed 36 = .ok (.iastore, 1) := by decide +kernel
theorem dX6_feed_37 : decode cX6_feed 37 = .ok (.aload_n 0, 1) := by decide +kernel
theorem dX6_feed_38 : decode cX6_feed 38 = .ok (.dup, 1) := by decide +kernel
theorem dX6_feed_39 : decode cX6_feed 39 = .ok (.getfield 73, 3) := by decide +kernel
theorem dX6_feed_42 : decode cX6_feed 42 = .ok (.iconst 1, 1) := by decide +kernel
theorem dX6_feed_43 : decode cX6_feed 43 = .ok (.iadd, 1) := by decide +kernel
theorem dX6_feed_44 : decode cX6_feed 44 = .ok (.putfield 73, 3) := by decide +kernel
theorem dX6_feed_47 : decode cX6_feed 47 = .ok (.aload_n 0, 1) := by decide +kernel
theorem dX6_feed_48 : decode cX6_feed 48 = .ok (.getfield 73, 3) := by decide +kernel
theorem dX6_feed_51 : decode cX6_feed 51 = .ok (.ireturn, 1) := by decide +kernel
theorem dX6_end_0 : decode cX6_end 0 = .ok (.iload_n 1, 1) := by decide +kernel
theorem dX6_end_1 : decode cX6_end 1 = .ok (.i2l, 1) := by decide +kernel
theorem dX6_end_2 : decode cX6_end 2 = .ok (.lconst 0, 1) := by decide +kernel
theorem dX6_end_3 : decode cX6_end 3 = .ok (.aload_n 0, 1) := by decide +kernel
theorem dX6_end_4 : decode cX6_end 4 = .ok (.getfield 73, 3) := by decide +kernel
theorem dX6_end_7 : decode cX6_end 7 = .ok (.i2l, 1) := by decide +kernel
theorem dX6_end_8 : decode cX6_end 8 = .ok (.invokestatic 69, 3) := by decide +kernel
theorem dX6_end_11 : decode cX6_end 11 = .ok (.ifCond .ne 5, 3) := by decide +kernel
theorem dX6_end_14 : decode cX6_end 14 = .ok (.iconst (-1), 1) := by decide +kernel
theorem dX6_end_15 : decode cX6_end 15 = .ok (.ireturn, 1) := by decide +kernel
theorem dX6_end_16 : decode cX6_end 16 = .ok (.aload_n 0, 1) := by decide +kernel
theorem dX6_end_17 : decode cX6_end 17 = .ok (.getfield 73, 3) := by decide +kernel
theorem dX6_end_20 : decode cX6_end 20 = .ok (.istore_n 2, 1) := by decide +kernel
theorem dX6_end_21 : decode cX6_end 21 = .ok (.aload_n 0, 1) := by decide +kernel
theorem dX6_end_22 : decode cX6_end 22 = .ok (.iload_n 1, 1) := by decide +kernel
theorem dX6_end_23 : decode cX6_end 23 = .ok (.putfield 73, 3) := by decide +kernel
theorem dX6_end_26 : decode cX6_end 26 = .ok (.iload_n 2, 1) := by decide +kernel
theorem dX6_end_27 : decode cX6_end 27 = .ok (.ireturn, 1) := by decide +kernel
theorem dX6_needs_0 : decode cX6_needs 0 = .ok (.iload_n 1, 1) := by decide +kernel
theorem dX6_needs_1 : decode cX6_needs 1 = .ok (.ifCond .ne 23, 3) := by decide +kernel
theorem dX6_needs_4 : decode cX6_needs 4 = .ok (.aload_n 0, 1) := by decide +kernel
theorem dX6_needs_5 : decode cX6_needs 5 = .ok (.getfield 76, 3) := by decide +kernel
theorem dX6_needs_8 : decode cX6_needs 8 = .ok (.ifCond .ne 16, 3) := by decide +kernel
theorem dX6_needs_11 : decode cX6_needs 11 = .ok (.aload_n 0, 1) := by decide +kernel
theorem dX6_needs_12 : decode cX6_needs 12 = .ok (.iload_n 2, 1) := by decide +kernel
theorem dX6_needs_13 : decode cX6_needs 13 = .ok (.putfield 76, 3) := by decide +kernel
theorem dX6_needs_16 : decode cX6_needs 16 = .ok (.aload_n 0, 1) := by decide +kernel
theorem dX6_needs_17 : decode cX6_needs 17 = .ok (.aload_n 0, 1) := by decide +kernel
theorem dX6_needs_18 : decode cX6_needs 18 = .ok (.getfield 79, 3) := by decide +kernel
theorem dX6_needs_21 : decode cX6_needs 21 = .ok (.putfield 82, 3) := by decide +kernel
theorem dX6_needs_24 : decode cX6_needs 24 = .ok (.return_, 1) := by decide +kernel
theorem dX6_byteAt_0 : decode cX6_byteAt 0 = .ok (.iload_n 1, 1) := by decide +kernel
theorem dX6_byteAt_1 : decode cX6_byteAt 1 = .ok (.aload_n 0, 1) := by decide +kernel
theorem dX6_byteAt_2 : decode cX6_byteAt 2 = .ok (.getfield 73, 3) := by decide +kernel
theorem dX6_byteAt_5 : decode cX6_byteAt 5 = .ok (.if_icmp .ge 12, 3) := by decide +kernel
theorem dX6_byteAt_8 : decode cX6_byteAt 8 = .ok (.aload_n 0, 1) := by decide +kernel
theorem dX6_byteAt_9 : decode cX6_byteAt 9 = .ok (.getfield 23, 3) := by decide +kernel
theorem dX6_byteAt_12 : decode cX6_byteAt 12 = .ok (.iload_n 1, 1) := by decide +kernel
theorem dX6_byteAt_13 : decode cX6_byteAt 13 = .ok (.iaload, 1) := by decide +kernel
theorem dX6_byteAt_14 : decode cX6_byteAt 14 = .ok (.goto 4, 3) := by decide +kernel
theorem dX6_byteAt_17 : decode cX6_byteAt 17 = .ok (.iconst (-1), 1) := by decide +kernel
theorem dX6_byteAt_18 : decode cX6_byteAt 18 = .ok (.ireturn, 1) := by decide +kernel
theorem dX6_is_0 : decode cX6_is 0 = .ok (.aload_n 0, 1) := by decide +kernel
theorem dX6_is_1 : decode cX6_is 1 = .ok (.getfield 85, 3) := by decide +kernel
theorem dX6_is_4 : decode cX6_is 4 = .ok (.aload_n 0, 1) := by decide +kernel
theorem dX6_is_5 : decode cX6_is 5 = .ok (.getfield 79, 3) := by decide +kernel
theorem dX6_is_8 : decode cX6_is 8 = .ok (.isub, 1) := by decide +kernel
theorem dX6_is_9 : decode cX6_is 9 = .ok (.iload_n 1, 1) := by decide +kernel
theorem dX6_is_10 : decode cX6_is 10 = .ok (.if_icmp .ne 63, 3) := by decide +kernel
theorem dX6_is_13 : decode cX6_is 13 = .ok (.aload_n 0, 1) := by decide +kernel
theorem dX6_is_14 : decode cX6_is 14 = .ok (.aload_n 0, 1) := by decide +kernel
theorem dX6_is_15 : decode cX6_is 15 = .ok (.getfield 79, 3) := by decide +kernel
theorem dX6_is_18 : decode cX6_is 18 = .ok (.invokevirtual 88, 3) := by decide +kernel
theorem dX6_is_21 : decode cX6_is 21 = .ok (.iload_n 2, 1) := by decide +kernel
theorem dX6_is_22 : decode cX6_is 22 = .ok (.if_icmp .ne 51, 3) := by decide +kernel
theorem dX6_is_25 : decode cX6_is 25 = .ok (.aload_n 0, 1) := by decide +kernel
theorem dX6_is_26 : decode cX6_is 26 = .ok (.aload_n 0, 1) := by decide +kernel
theorem dX6_is_27 : decode cX6_is 27 = .ok (.getfield 79, 3) := by decide +kernel
theorem dX6_is_30 : decode cX6_is 30 = .ok (.iconst 1, 1) := by decide +kernel
theorem dX6_is_31 : decode cX6_is 31 = .ok (.iadd, 1) := by decide +kernel
theorem dX6_is_32 : decode cX6_is 32 = .ok (.invokevirtual 88, 3) := by decide +kernel
theorem dX6_is_35 : decode cX6_is 35 = .ok (.iload_n 3, 1) := by decide +kernel
theorem dX6_is_36 : decode cX6_is 36 = .ok (.if_icmp .ne 37, 3) := by decide +kernel
theorem dX6_is_39 : decode cX6_is 39 = .ok (.aload_n 0, 1) := by decide +kernel
theorem dX6_is_40 : decode cX6_is 40 = .ok (.aload_n 0, 1) := by decide +kernel
theorem dX6_is_41 : decode cX6_is 41 = .ok (.getfield 79, 3) := by decide +kernel
theorem dX6_is_44 : decode cX6_is 44 = .ok (.iconst 2, 1) := by decide +kernel
theorem dX6_is_45 : decode cX6_is 45 = .ok (.iadd, 1) := by decide +kernel
theorem dX6_is_46 : decode cX6_is 46 = .ok (.invokevirtual 88, 3) := by decide +kernel
theorem dX6_is_49 : decode cX6_is 49 = .ok (.iload 4, 2) := by decide +kernel
theorem dX6_is_51 : decode cX6_is 51 = .ok (.if_icmp .ne 22, 3) := by decide +kernel
theorem dX6_is_54 : decode cX6_is 54 = .ok (.aload_n 0, 1) := by decide +kernel
theorem dX6_is_55 : decode cX6_is 55 = .ok (.aload_n 0, 1) := by decide +kernel
theorem dX6_is_56 : decode cX6_is 56 = .ok (.getfield 79, 3) := by decide +kernel
theorem dX6_is_59 : decode cX6_is 59 = .ok (.iconst 3, 1) := by decide +kernel
theorem dX6_is_60 : decode cX6_is 60 = .ok (.iadd, 1) := by decide +kernel
theorem dX6_is_61 : decode cX6_is 61 = .ok (.invokevirtual 88, 3) := by decide +kernel
theorem dX6_is_64 : decode cX6_is 64 = .ok (.iload 5, 2) := by decide +kernel
theorem dX6_is_66 : decode cX6_is 66 = .ok (.if_icmp .ne 7, 3) := by decide +kernel
theorem dX6_is_69 : decode cX6_is 69 = .ok (.iconst 1, 1) := by decide +kernel
theorem dX6_is_70 : decode cX6_is 70 = .ok (.goto 4, 3) := by decide +kernel
theorem dX6_is_73 : decode cX6_is 73 = .ok (.iconst 0, 1) := by decide +kernel
theorem dX6_is_74 : decode cX6_is 74 = .ok (.ireturn, 1) := by decide +kernel
theorem dX6_endsIn_0 : decode cX6_endsIn 0 = .ok (.aload_n 0, 1) := by decide +kernel
theorem dX6_endsIn_1 : decode cX6_endsIn 1 = .ok (.aload_n 0, 1) := by decide +kernel
theorem dX6_endsIn_2 : decode cX6_endsIn 2 = .ok (.getfield 79, 3) := by decide +kernel
theorem dX6_endsIn_5 : decode cX6_endsIn 5 = .ok (.iconst 4, 1) := by decide +kernel
theorem dX6_endsIn_6 : decode cX6_endsIn 6 = .ok (.iadd, 1) := by decide +kernel
theorem dX6_endsIn_7 : decode cX6_endsIn 7 = .ok (.invokevirtual 88, 3) := by decide +kernel
theorem dX6_endsIn_10 : decode cX6_endsIn 10 = .ok (.iload_n 1, 1) := by decide +kernel
theorem dX6_endsIn_11 : decode cX6_endsIn 11 = .ok (.if_icmp .ne 7, 3) := by decide +kernel
theorem dX6_endsIn_14 : decode cX6_endsIn 14 = .ok (.iconst 1, 1) := by decide +kernel
theorem dX6_endsIn_15 : decode cX6_endsIn 15 = .ok (.goto 4, 3) := by decide +kernel
theorem dX6_endsIn_18 : decode cX6_endsIn 18 = .ok (.iconst 0, 1) := by decide +kernel
theorem dX6_endsIn_19 : decode cX6_endsIn 19 = .ok (.ireturn, 1) := by decide +kernel
theorem dX6_lineNow_0 : decode cX6_lineNow 0 = .ok (.aload_n 0, 1) := by decide +kernel
theorem dX6_lineNow_1 : decode cX6_lineNow 1 = .ok (.iconst 5, 1) := by decide +kernel
theorem dX6_lineNow_2 : decode cX6_lineNow 2 = .ok (.bipush 112, 2) := by decide +kernel
theorem dX6_lineNow_4 : decode cX6_lineNow 4 = .ok (.bipush 108, 2) := by decide +kernel
theorem dX6_lineNow_6 : decode cX6_lineNow 6 = .ok (.bipush 97, 2) := by decide +kernel
theorem dX6_lineNow_8 : decode cX6_lineNow 8 = .ok (.bipush 105, 2) := by decide +kernel
theorem dX6_lineNow_10 : decode cX6_lineNow 10 = .ok (.invokevirtual 92, 3) := by decide +kernel
theorem dX6_lineNow_13 : decode cX6_lineNow 13 = .ok (.ifCond .eq 14, 3) := by decide +kernel
theorem dX6_lineNow_16 : decode cX6_lineNow 16 = .ok (.aload_n 0, 1) := by decide +kernel
theorem dX6_lineNow_17 : decode cX6_lineNow 17 = .ok (.bipush 110, 2) := by decide +kernel
theorem dX6_lineNow_19 : decode cX6_lineNow 19 = .ok (.invokevirtual 96, 3) := by decide +kernel
theorem dX6_lineNow_22 : decode cX6_lineNow 22 = .ok (.ifCond .eq 5, 3) := by decide +kernel
theorem dX6_lineNow_25 : decode cX6_lineNow 25 = .ok (.iconst 0, 1) := by decide +kernel
theorem dX6_lineNow_26 : decode cX6_lineNow 26 = .ok (.ireturn, 1) := by decide +kernel
theorem dX6_lineNow_27 : decode cX6_lineNow 27 = .ok (.aload_n 0, 1) := by decide +kernel
theorem dX6_lineNow_28 : decode cX6_lineNow 28 = .ok (.iconst 5, 1) := by decide +kernel
theorem dX6_lineNow_29 : decode cX6_lineNow 29 = .ok (.bipush 112, 2) := by decide +kernel
theorem dX6_lineNow_31 : decode cX6_lineNow 31 = .ok (.bipush 114, 2) := by decide +kernel
theorem dX6_lineNow_33 : decode cX6_lineNow 33 = .ok (.bipush 111, 2) := by decide +kernel
theorem dX6_lineNow_35 : decode cX6_lineNow 35 = .ok (.bipush 117, 2) := by decide +kernel
theorem dX6_lineNow_37 : decode cX6_lineNow 37 = .ok (.invokevirtual 92, 3) := by decide +kernel
theorem dX6_lineNow_40 : decode cX6_lineNow 40 = .ok (.ifCond .eq 14, 3) := by decide +kernel
theorem dX6_lineNow_43 : decode cX6_lineNow 43 = .ok (.aload_n 0, 1) := by decide +kernel
theorem dX6_lineNow_44 : decode cX6_lineNow 44 = .ok (.bipush 100, 2) := by decide +kernel
theorem dX6_lineNow_46 : decode cX6_lineNow 46 = .ok (.invokevirtual 96, 3) := by decide +kernel
theorem dX6_lineNow_49 : decode cX6_lineNow 49 = .ok (.ifCond .eq 5, 3) := by decide +kernel
theorem dX6_lineNow_52 : decode cX6_lineNow 52 = .ok (.iconst 1, 1) := by decide +kernel
theorem dX6_lineNow_53 : decode cX6_lineNow 53 = .ok (.ireturn, 1) := by decide +kernel
theorem dX6_lineNow_54 : decode cX6_lineNow 54 = .ok (.aload_n 0, 1) := by decide +kernel
theorem dX6_lineNow_55 : decode cX6_lineNow 55 = .ok (.iconst 4, 1) := by decide +kernel
theorem dX6_lineNow_56 : decode cX6_lineNow 56 = .ok (.bipush 102, 2) := by decide +kernel
theorem dX6_lineNow_58 : decode cX6_lineNow 58 = .ok (.bipush 111, 2) := by decide +kernel
theorem dX6_lineNow_60 : decode cX6_lineNow 60 = .ok (.bipush 110, 2) := by decide +kernel
theorem dX6_lineNow_62 : decode cX6_lineNow 62 = .ok (.bipush 100, 2) := by decide +kernel
theorem dX6_lineNow_64 : decode cX6_lineNow 64 = .ok (.invokevirtual 92, 3) := by decide +kernel
theorem dX6_lineNow_67 : decode cX6_lineNow 67 = .ok (.ifCond .eq 5, 3) := by decide +kernel
theorem dX6_lineNow_70 : decode cX6_lineNow 70 = .ok (.iconst 2, 1) := by decide +kernel
theorem dX6_lineNow_71 : decode cX6_lineNow 71 = .ok (.ireturn, 1) := by decide +kernel
theorem dX6_lineNow_72 : decode cX6_lineNow 72 = .ok (.aload_n 0, 1) := by decide +kernel
theorem dX6_lineNow_73 : decode cX6_lineNow 73 = .ok (.iconst 5, 1) := by decide +kernel
theorem dX6_lineNow_74 : decode cX6_lineNow 74 = .ok (.bipush 119, 2) := by decide +kernel
theorem dX6_lineNow_76 : decode cX6_lineNow 76 = .ok (.bipush 105, 2) := by decide +kernel
theorem dX6_lineNow_78 : decode cX6_lineNow 78 = .ok (.bipush 100, 2) := by decide +kernel
theorem dX6_lineNow_80 : decode cX6_lineNow 80 = .ok (.bipush 111, 2) := by decide +kernel
theorem dX6_lineNow_82 : decode cX6_lineNow 82 = .ok (.invokevirtual 92, 3) := by decide +kernel
theorem dX6_lineNow_85 : decode cX6_lineNow 85 = .ok (.ifCond .eq 14, 3) := by decide +kernel
theorem dX6_lineNow_88 : decode cX6_lineNow 88 = .ok (.aload_n 0, 1) := by decide +kernel
theorem dX6_lineNow_89 : decode cX6_lineNow 89 = .ok (.bipush 119, 2) := by decide +kernel
theorem dX6_lineNow_91 : decode cX6_lineNow 91 = .ok (.invokevirtual 96, 3) := by decide +kernel
theorem dX6_lineNow_94 : decode cX6_lineNow 94 = .ok (.ifCond .eq 5, 3) := by decide +kernel
theorem dX6_lineNow_97 : decode cX6_lineNow 97 = .ok (.iconst 3, 1) := by decide +kernel
theorem dX6_lineNow_98 : decode cX6_lineNow 98 = .ok (.ireturn, 1) := by decide +kernel
theorem dX6_lineNow_99 : decode cX6_lineNow 99 = .ok (.aload_n 0, 1) := by decide +kernel
theorem dX6_lineNow_100 : decode cX6_lineNow 100 = .ok (.iconst 5, 1) := by decide +kernel
theorem dX6_lineNow_101 : decode cX6_lineNow 101 = .ok (.bipush 99, 2) := by decide +kernel
theorem dX6_lineNow_103 : decode cX6_lineNow 103 = .ok (.bipush 114, 2) := by decide +kernel
theorem dX6_lineNow_105 : decode cX6_lineNow 105 = .ok (.bipush 111, 2) := by decide +kernel
theorem dX6_lineNow_107 : decode cX6_lineNow 107 = .ok (.bipush 115, 2) := by decide +kernel
theorem dX6_lineNow_109 : decode cX6_lineNow 109 = .ok (.invokevirtual 92, 3) := by decide +kernel
theorem dX6_lineNow_112 : decode cX6_lineNow 112 = .ok (.ifCond .eq 14, 3) := by decide +kernel
theorem dX6_lineNow_115 : decode cX6_lineNow 115 = .ok (.aload_n 0, 1) := by decide +kernel
theorem dX6_lineNow_116 : decode cX6_lineNow 116 = .ok (.bipush 115, 2) := by decide +kernel
theorem dX6_lineNow_118 : decode cX6_lineNow 118 = .ok (.invokevirtual 96, 3) := by decide +kernel
theorem dX6_lineNow_121 : decode cX6_lineNow 121 = .ok (.ifCond .eq 5, 3) := by decide +kernel
theorem dX6_lineNow_124 : decode cX6_lineNow 124 = .ok (.iconst 4, 1) := by decide +kernel
theorem dX6_lineNow_125 : decode cX6_lineNow 125 = .ok (.ireturn, 1) := by decide +kernel
theorem dX6_lineNow_126 : decode cX6_lineNow 126 = .ok (.aload_n 0, 1) := by decide +kernel
theorem dX6_lineNow_127 : decode cX6_lineNow 127 = .ok (.iconst 4, 1) := by decide +kernel
theorem dX6_lineNow_128 : decode cX6_lineNow 128 = .ok (.bipush 114, 2) := by decide +kernel
theorem dX6_lineNow_130 : decode cX6_lineNow 130 = .ok (.bipush 111, 2) := by decide +kernel
theorem dX6_lineNow_132 : decode cX6_lineNow 132 = .ok (.bipush 112, 2) := by decide +kernel
theorem dX6_lineNow_134 : decode cX6_lineNow 134 = .ok (.bipush 101, 2) := by decide +kernel
theorem dX6_lineNow_136 : decode cX6_lineNow 136 = .ok (.invokevirtual 92, 3) := by decide +kernel
theorem dX6_lineNow_139 : decode cX6_lineNow 139 = .ok (.ifCond .eq 7, 3) := by decide +kernel
theorem dX6_lineNow_142 : decode cX6_lineNow 142 = .ok (.iconst 5, 1) := by decide +kernel
theorem dX6_lineNow_143 : decode cX6_lineNow 143 = .ok (.goto 35, 3) := by decide +kernel
theorem dX6_lineNow_146 : decode cX6_lineNow 146 = .ok (.aload_n 0, 1) := by decide +kernel
theorem dX6_lineNow_147 : decode cX6_lineNow 147 = .ok (.iconst 5, 1) := by decide +kernel
theorem dX6_lineNow_148 : decode cX6_lineNow 148 = .ok (.bipush 102, 2) := by decide +kernel
theorem dX6_lineNow_150 : decode cX6_lineNow 150 = .ok (.bipush 101, 2) := by decide +kernel
theorem dX6_lineNow_152 : decode cX6_lineNow 152 = .ok (.bipush 97, 2) := by decide +kernel
theorem dX6_lineNow_154 : decode cX6_lineNow 154 = .ok (.bipush 115, 2) := by decide +kernel
theorem dX6_lineNow_156 : decode cX6_lineNow 156 = .ok (.invokevirtual 92, 3) := by decide +kernel
theorem dX6_lineNow_159 : decode cX6_lineNow 159 = .ok (.ifCond .eq 17, 3) := by decide +kernel
theorem dX6_lineNow_162 : decode cX6_lineNow 162 = .ok (.aload_n 0, 1) := by decide +kernel
theorem dX6_lineNow_163 : decode cX6_lineNow 163 = .ok (.bipush 116, 2) := by decide +kernel
theorem dX6_lineNow_165 : decode cX6_lineNow 165 = .ok (.invokevirtual 96, 3) := by decide +kernel
theorem dX6_lineNow_168 : decode cX6_lineNow 168 = .ok (.ifCond .eq 8, 3) := by decide +kernel
theorem dX6_lineNow_171 : decode cX6_lineNow 171 = .ok (.bipush 6, 2) := by decide +kernel
theorem dX6_lineNow_173 : decode cX6_lineNow 173 = .ok (.goto 5, 3) := by decide +kernel
theorem dX6_lineNow_176 : decode cX6_lineNow 176 = .ok (.bipush (-4), 2) := by decide +kernel
theorem dX6_lineNow_178 : decode cX6_lineNow 178 = .ok (.ireturn, 1) := by decide +kernel
theorem dX6_takes_0 : decode cX6_takes 0 = .ok (.aload_n 0, 1) := by decide +kernel
theorem dX6_takes_1 : decode cX6_takes 1 = .ok (.getfield 76, 3) := by decide +kernel
theorem dX6_takes_4 : decode cX6_takes 4 = .ok (.ifCond .le 4, 3) := by decide +kernel
theorem dX6_takes_7 : decode cX6_takes 7 = .ok (.return_, 1) := by decide +kernel
theorem dX6_takes_8 : decode cX6_takes 8 = .ok (.aload_n 0, 1) := by decide +kernel
theorem dX6_takes_9 : decode cX6_takes 9 = .ok (.aload_n 0, 1) := by decide +kernel
theorem dX6_takes_10 : decode cX6_takes 10 = .ok (.getfield 85, 3) := by decide +kernel
theorem dX6_takes_13 : decode cX6_takes 13 = .ok (.invokevirtual 88, 3) := by decide +kernel
theorem dX6_takes_16 : decode cX6_takes 16 = .ok (.bipush 32, 2) := by decide +kernel
theorem dX6_takes_18 : decode cX6_takes 18 = .ok (.if_icmp .ne 16, 3) := by decide +kernel
theorem dX6_takes_21 : decode cX6_takes 21 = .ok (.aload_n 0, 1) := by decide +kernel
theorem dX6_takes_22 : decode cX6_takes 22 = .ok (.dup, 1) := by decide +kernel
theorem dX6_takes_23 : decode cX6_takes 23 = .ok (.getfield 85, 3) := by decide +kernel
theorem dX6_takes_26 : decode cX6_takes 26 = .ok (.iconst 1, 1) := by decide +kernel
theorem dX6_takes_27 : decode cX6_takes 27 = .ok (.iadd, 1) := by decide +kernel
theorem dX6_takes_28 : decode cX6_takes 28 = .ok (.putfield 85, 3) := by decide +kernel
theorem dX6_takes_31 : decode cX6_takes 31 = .ok (.goto (-23), 3) := by decide +kernel
theorem dX6_takes_34 : decode cX6_takes 34 = .ok (.aload_n 0, 1) := by decide +kernel
theorem dX6_takes_35 : decode cX6_takes 35 = .ok (.aload_n 0, 1) := by decide +kernel
theorem dX6_takes_36 : decode cX6_takes 36 = .ok (.getfield 85, 3) := by decide +kernel
theorem dX6_takes_39 : decode cX6_takes 39 = .ok (.putfield 79, 3) := by decide +kernel
theorem dX6_takes_42 : decode cX6_takes 42 = .ok (.aload_n 0, 1) := by decide +kernel
theorem dX6_takes_43 : decode cX6_takes 43 = .ok (.aload_n 0, 1) := by decide +kernel
theorem dX6_takes_44 : decode cX6_takes 44 = .ok (.getfield 85, 3) := by decide +kernel
theorem dX6_takes_47 : decode cX6_takes 47 = .ok (.invokevirtual 88, 3) := by decide +kernel
theorem dX6_takes_50 : decode cX6_takes 50 = .ok (.istore_n 1, 1) := by decide +kernel
theorem dX6_takes_51 : decode cX6_takes 51 = .ok (.iload_n 1, 1) := by decide +kernel
theorem dX6_takes_52 : decode cX6_takes 52 = .ok (.ifCond .ge 11, 3) := by decide +kernel
theorem dX6_takes_55 : decode cX6_takes 55 = .ok (.aload_n 0, 1) := by decide +kernel
theorem dX6_takes_56 : decode cX6_takes 56 = .ok (.iconst 0, 1) := by decide +kernel
theorem dX6_takes_57 : decode cX6_takes 57 = .ok (.putfield 100, 3) := by decide +kernel
theorem dX6_takes_60 : decode cX6_takes 60 = .ok (.goto 214, 3) := by decide +kernel
theorem dX6_takes_63 : decode cX6_takes 63 = .ok (.iload_n 1, 1) := by decide +kernel
theorem dX6_takes_64 : decode cX6_takes 64 = .ok (.i2l, 1) := by decide +kernel
theorem dX6_takes_65 : decode cX6_takes 65 = .ok (.ldc2_w 103, 3) := by decide +kernel
theorem dX6_takes_68 : decode cX6_takes 68 = .ok (.ldc2_w 105, 3) := by decide +kernel
theorem dX6_takes_71 : decode cX6_takes 71 = .ok (.invokestatic 69, 3) := by decide +kernel
theorem dX6_takes_74 : decode cX6_takes 74 = .ok (.ifCond .eq 42, 3) := by decide +kernel
theorem dX6_takes_77 : decode cX6_takes 77 = .ok (.aload_n 0, 1) := by decide +kernel
theorem dX6_takes_78 : decode cX6_takes 78 = .ok (.iconst 1, 1) := by decide +kernel
theorem dX6_takes_79 : decode cX6_takes 79 = .ok (.putfield 100, 3) := by decide +kernel
theorem dX6_takes_82 : decode cX6_takes 82 = .ok (.aload_n 0, 1) := by decide +kernel
theorem dX6_takes_83 : decode cX6_takes 83 = .ok (.aload_n 0, 1) := by decide +kernel
theorem dX6_takes_84 : decode cX6_takes 84 = .ok (.getfield 85, 3) := by decide +kernel
theorem dX6_takes_87 : decode cX6_takes 87 = .ok (.invokevirtual 88, 3) := by decide +kernel
theorem dX6_takes_90 : decode cX6_takes 90 = .ok (.i2l, 1) := by decide +kernel
theorem dX6_takes_91 : decode cX6_takes 91 = .ok (.ldc2_w 103, 3) := by decide +kernel
theorem dX6_takes_94 : decode cX6_takes 94 = .ok (.ldc2_w 105, 3) := by decide +kernel
theorem dX6_takes_97 : decode cX6_takes 97 = .ok (.invokestatic 69, 3) := by decide +kernel
theorem dX6_takes_100 : decode cX6_takes 100 = .ok (.ifCond .eq 174, 3) := by decide +kernel
theorem dX6_takes_103 : decode cX6_takes 103 = .ok (.aload_n 0, 1) := by decide +kernel
theorem dX6_takes_104 : decode cX6_takes 104 = .ok (.dup, 1) := by decide +kernel
theorem dX6_takes_105 : decode cX6_takes 105 = .ok (.getfield 85, 3) := by decide +kernel
theorem dX6_takes_108 : decode cX6_takes 108 = .ok (.iconst 1, 1) := by decide +kernel
theorem dX6_takes_109 : decode cX6_takes 109 = .ok (.iadd, 1) := by decide +kernel
theorem dX6_takes_110 : decode cX6_takes 110 = .ok (.putfield 85, 3) := by decide +kernel
theorem dX6_takes_113 : decode cX6_takes 113 = .ok (.goto (-31), 3) := by decide +kernel
theorem dX6_takes_116 : decode cX6_takes 116 = .ok (.iload_n 1, 1) := by decide +kernel
theorem dX6_takes_117 : decode cX6_takes 117 = .ok (.i2l, 1) := by decide +kernel
theorem dX6_takes_118 : decode cX6_takes 118 = .ok (.ldc2_w 107, 3) := by decide +kernel
theorem dX6_takes_121 : decode cX6_takes 121 = .ok (.ldc2_w 109, 3) := by decide +kernel
theorem dX6_takes_124 : decode cX6_takes 124 = .ok (.invokestatic 69, 3) := by decide +kernel
theorem dX6_takes_127 : decode cX6_takes 127 = .ok (.ifCond .eq 116, 3) := by decide +kernel
theorem dX6_takes_130 : decode cX6_takes 130 = .ok (.aload_n 0, 1) := by decide +kernel
theorem dX6_takes_131 : decode cX6_takes 131 = .ok (.iconst 2, 1) := by decide +kernel
theorem dX6_takes_132 : decode cX6_takes 132 = .ok (.putfield 100, 3) := by decide +kernel
theorem dX6_takes_135 : decode cX6_takes 135 = .ok (.aload_n 0, 1) := by decide +kernel
theorem dX6_takes_136 : decode cX6_takes 136 = .ok (.iconst 0, 1) := by decide +kernel
theorem dX6_takes_137 : decode cX6_takes 137 = .ok (.putfield 111, 3) := by decide +kernel
theorem dX6_takes_140 : decode cX6_takes 140 = .ok (.aload_n 0, 1) := by decide +kernel
theorem dX6_takes_141 : decode cX6_takes 141 = .ok (.aload_n 0, 1) := by decide +kernel
theorem dX6_takes_142 : decode cX6_takes 142 = .ok (.getfield 85, 3) := by decide +kernel
theorem dX6_takes_145 : decode cX6_takes 145 = .ok (.invokevirtual 88, 3) := by decide +kernel
theorem dX6_takes_148 : decode cX6_takes 148 = .ok (.i2l, 1) := by decide +kernel
theorem dX6_takes_149 : decode cX6_takes 149 = .ok (.ldc2_w 107, 3) := by decide +kernel
theorem dX6_takes_152 : decode cX6_takes 152 = .ok (.ldc2_w 109, 3) := by decide +kernel
theorem dX6_takes_155 : decode cX6_takes 155 = .ok (.invokestatic 69, 3) := by decide +kernel
theorem dX6_takes_158 : decode cX6_takes 158 = .ok (.ifCond .eq 59, 3) := by decide +kernel
theorem dX6_takes_161 : decode cX6_takes 161 = .ok (.aload_n 0, 1) := by decide +kernel
theorem dX6_takes_162 : decode cX6_takes 162 = .ok (.aload_n 0, 1) := by decide +kernel
theorem dX6_takes_163 : decode cX6_takes 163 = .ok (.getfield 85, 3) := by decide +kernel
theorem dX6_takes_166 : decode cX6_takes 166 = .ok (.aload_n 0, 1) := by decide +kernel
theorem dX6_takes_167 : decode cX6_takes 167 = .ok (.getfield 79, 3) := by decide +kernel
theorem dX6_takes_170 : decode cX6_takes 170 = .ok (.isub, 1) := by decide +kernel
theorem dX6_takes_171 : decode cX6_takes 171 = .ok (.iconst 2, 1) := by decide +kernel
theorem dX6_takes_172 : decode cX6_takes 172 = .ok (.if_icmp .ge 25, 3) := by decide +kernel
theorem dX6_takes_175 : decode cX6_takes 175 = .ok (.bipush 10, 2) := by decide +kernel
theorem dX6_takes_177 : decode cX6_takes 177 = .ok (.aload_n 0, 1) := by decide +kernel
theorem dX6_takes_178 : decode cX6_takes 178 = .ok (.getfield 111, 3) := by decide +kernel
theorem dX6_takes_181 : decode cX6_takes 181 = .ok (.imul, 1) := by decide +kernel
theorem dX6_takes_182 : decode cX6_takes 182 = .ok (.aload_n 0, 1) := by decide +kernel
theorem dX6_takes_183 : decode cX6_takes 183 = .ok (.aload_n 0, 1) := by decide +kernel
theorem dX6_takes_184 : decode cX6_takes 184 = .ok (.getfield 85, 3) := by decide +kernel
theorem dX6_takes_187 : decode cX6_takes 187 = .ok (.invokevirtual 88, 3) := by decide +kernel
theorem dX6_takes_190 : decode cX6_takes 190 = .ok (.iadd, 1) := by decide +kernel
theorem dX6_takes_191 : decode cX6_takes 191 = .ok (.bipush 48, 2) := by decide +kernel
theorem dX6_takes_193 : decode cX6_takes 193 = .ok (.isub, 1) := by decide +kernel
theorem dX6_takes_194 : decode cX6_takes 194 = .ok (.goto 7, 3) := by decide +kernel
theorem dX6_takes_197 : decode cX6_takes 197 = .ok (.aload_n 0, 1) := by decide +kernel
theorem dX6_takes_198 : decode cX6_takes 198 = .ok (.getfield 111, 3) := by decide +kernel
theorem dX6_takes_201 : decode cX6_takes 201 = .ok (.putfield 111, 3) := by decide +kernel
theorem dX6_takes_204 : decode cX6_takes 204 = .ok (.aload_n 0, 1) := by decide +kernel
theorem dX6_takes_205 : decode cX6_takes 205 = .ok (.dup, 1) := by decide +kernel
theorem dX6_takes_206 : decode cX6_takes 206 = .ok (.getfield 85, 3) := by decide +kernel
theorem dX6_takes_209 : decode cX6_takes 209 = .ok (.iconst 1, 1) := by decide +kernel
theorem dX6_takes_210 : decode cX6_takes 210 = .ok (.iadd, 1) := by decide +kernel
theorem dX6_takes_211 : decode cX6_takes 211 = .ok (.putfield 85, 3) := by decide +kernel
theorem dX6_takes_214 : decode cX6_takes 214 = .ok (.goto (-74), 3) := by decide +kernel
theorem dX6_takes_217 : decode cX6_takes 217 = .ok (.aload_n 0, 1) := by decide +kernel
theorem dX6_takes_218 : decode cX6_takes 218 = .ok (.aload_n 0, 1) := by decide +kernel
theorem dX6_takes_219 : decode cX6_takes 219 = .ok (.getfield 85, 3) := by decide +kernel
theorem dX6_takes_222 : decode cX6_takes 222 = .ok (.aload_n 0, 1) := by decide +kernel
theorem dX6_takes_223 : decode cX6_takes 223 = .ok (.getfield 79, 3) := by decide +kernel
theorem dX6_takes_226 : decode cX6_takes 226 = .ok (.isub, 1) := by decide +kernel
theorem dX6_takes_227 : decode cX6_takes 227 = .ok (.iconst 2, 1) := by decide +kernel
theorem dX6_takes_228 : decode cX6_takes 228 = .ok (.if_icmp .gt 7, 3) := by decide +kernel
theorem dX6_takes_231 : decode cX6_takes 231 = .ok (.iconst 1, 1) := by decide +kernel
theorem dX6_takes_232 : decode cX6_takes 232 = .ok (.goto 4, 3) := by decide +kernel
theorem dX6_takes_235 : decode cX6_takes 235 = .ok (.iconst 0, 1) := by decide +kernel
theorem dX6_takes_236 : decode cX6_takes 236 = .ok (.iconst 1, 1) := by decide +kernel
theorem dX6_takes_237 : decode cX6_takes 237 = .ok (.invokevirtual 114, 3) := by decide +kernel
theorem dX6_takes_240 : decode cX6_takes 240 = .ok (.goto 34, 3) := by decide +kernel
theorem dX6_takes_243 : decode cX6_takes 243 = .ok (.aload_n 0, 1) := by decide +kernel
theorem dX6_takes_244 : decode cX6_takes 244 = .ok (.iconst 3, 1) := by decide +kernel
theorem dX6_takes_245 : decode cX6_takes 245 = .ok (.putfield 100, 3) := by decide +kernel
theorem dX6_takes_248 : decode cX6_takes 248 = .ok (.aload_n 0, 1) := by decide +kernel
theorem dX6_takes_249 : decode cX6_takes 249 = .ok (.iload_n 1, 1) := by decide +kernel
theorem dX6_takes_250 : decode cX6_takes 250 = .ok (.bipush 59, 2) := by decide +kernel
theorem dX6_takes_252 : decode cX6_takes 252 = .ok (.if_icmp .ne 7, 3) := by decide +kernel
theorem dX6_takes_255 : decode cX6_takes 255 = .ok (.iconst 1, 1) := by decide +kernel
theorem dX6_takes_256 : decode cX6_takes 256 = .ok (.goto 4, 3) := by decide +kernel
theorem dX6_takes_259 : decode cX6_takes 259 = .ok (.iconst 0, 1) := by decide +kernel
theorem dX6_takes_260 : decode cX6_takes 260 = .ok (.iconst 1, 1) := by decide +kernel
theorem dX6_takes_261 : decode cX6_takes 261 = .ok (.invokevirtual 114, 3) := by decide +kernel
theorem dX6_takes_264 : decode cX6_takes 264 = .ok (.aload_n 0, 1) := by decide +kernel
theorem dX6_takes_265 : decode cX6_takes 265 = .ok (.dup, 1) := by decide +kernel
theorem dX6_takes_266 : decode cX6_takes 266 = .ok (.getfield 85, 3) := by decide +kernel
theorem dX6_takes_269 : decode cX6_takes 269 = .ok (.iconst 1, 1) := by decide +kernel
theorem dX6_takes_270 : decode cX6_takes 270 = .ok (.iadd, 1) := by decide +kernel
theorem dX6_takes_271 : decode cX6_takes 271 = .ok (.putfield 85, 3) := by decide +kernel
theorem dX6_takes_274 : decode cX6_takes 274 = .ok (.return_, 1) := by decide +kernel
theorem dX6_looked_0 : decode cX6_looked 0 = .ok (.aload_n 0, 1) := by decide +kernel
theorem dX6_looked_1 : decode cX6_looked 1 = .ok (.getfield 76, 3) := by decide +kernel
theorem dX6_looked_4 : decode cX6_looked 4 = .ok (.ifCond .ne 21, 3) := by decide +kernel
theorem dX6_looked_7 : decode cX6_looked 7 = .ok (.aload_n 0, 1) := by decide +kernel
theorem dX6_looked_8 : decode cX6_looked 8 = .ok (.aload_n 0, 1) := by decide +kernel
theorem dX6_looked_9 : decode cX6_looked 9 = .ok (.getfield 100, 3) := by decide +kernel
theorem dX6_looked_12 : decode cX6_looked 12 = .ok (.iconst 2, 1) := by decide +kernel
theorem dX6_looked_13 : decode cX6_looked 13 = .ok (.if_icmp .ne 7, 3) := by decide +kernel
theorem dX6_looked_16 : decode cX6_looked 16 = .ok (.iconst 1, 1) := by decide +kernel
theorem dX6_looked_17 : decode cX6_looked 17 = .ok (.goto 4, 3) := by decide +kernel
theorem dX6_looked_20 : decode cX6_looked 20 = .ok (.iconst 0, 1) := by decide +kernel
theorem dX6_looked_21 : decode cX6_looked 21 = .ok (.iconst 2, 1) := by decide +kernel
theorem dX6_looked_22 : decode cX6_looked 22 = .ok (.invokevirtual 114, 3) := by decide +kernel
theorem dX6_looked_25 : decode cX6_looked 25 = .ok (.aload_n 0, 1) := by decide +kernel
theorem dX6_looked_26 : decode cX6_looked 26 = .ok (.getfield 76, 3) := by decide +kernel
theorem dX6_looked_29 : decode cX6_looked 29 = .ok (.ifCond .ne 20, 3) := by decide +kernel
theorem dX6_looked_32 : decode cX6_looked 32 = .ok (.aload_n 0, 1) := by decide +kernel
theorem dX6_looked_33 : decode cX6_looked 33 = .ok (.aload_n 0, 1) := by decide +kernel
theorem dX6_looked_34 : decode cX6_looked 34 = .ok (.getfield 111, 3) := by decide +kernel
theorem dX6_looked_37 : decode cX6_looked 37 = .ok (.i2l, 1) := by decide +kernel
theorem dX6_looked_38 : decode cX6_looked 38 = .ok (.iload_n 1, 1) := by decide +kernel
theorem dX6_looked_39 : decode cX6_looked 39 = .ok (.i2l, 1) := by decide +kernel
theorem dX6_looked_40 : decode cX6_looked 40 = .ok (.iload_n 2, 1) := by decide +kernel
theorem dX6_looked_41 : decode cX6_looked 41 = .ok (.i2l, 1) := by decide +kernel
theorem dX6_looked_42 : decode cX6_looked 42 = .ok (.invokestatic 69, 3) := by decide +kernel
theorem dX6_looked_45 : decode cX6_looked 45 = .ok (.iconst 3, 1) := by decide +kernel
theorem dX6_looked_46 : decode cX6_looked 46 = .ok (.invokevirtual 114, 3) := by decide +kernel
theorem dX6_looked_49 : decode cX6_looked 49 = .ok (.aload_n 0, 1) := by decide +kernel
theorem dX6_looked_50 : decode cX6_looked 50 = .ok (.getfield 76, 3) := by decide +kernel
theorem dX6_looked_53 : decode cX6_looked 53 = .ok (.ifCond .ne 10, 3) := by decide +kernel
theorem dX6_looked_56 : decode cX6_looked 56 = .ok (.aload_n 0, 1) := by decide +kernel
theorem dX6_looked_57 : decode cX6_looked 57 = .ok (.getfield 111, 3) := by decide +kernel
theorem dX6_looked_60 : decode cX6_looked 60 = .ok (.goto 4, 3) := by decide +kernel
theorem dX6_looked_63 : decode cX6_looked 63 = .ok (.iconst 0, 1) := by decide +kernel
theorem dX6_looked_64 : decode cX6_looked 64 = .ok (.ireturn, 1) := by decide +kernel
theorem dX6_readNumber_0 : decode cX6_readNumber 0 = .ok (.aload_n 0, 1) := by decide +kernel
theorem dX6_readNumber_1 : decode cX6_readNumber 1 = .ok (.iload_n 1, 1) := by decide +kernel
theorem dX6_readNumber_2 : decode cX6_readNumber 2 = .ok (.iload_n 2, 1) := by decide +kernel
theorem dX6_readNumber_3 : decode cX6_readNumber 3 = .ok (.invokevirtual 118, 3) := by decide +kernel
theorem dX6_readNumber_6 : decode cX6_readNumber 6 = .ok (.istore_n 3, 1) := by decide +kernel
theorem dX6_readNumber_7 : decode cX6_readNumber 7 = .ok (.aload_n 0, 1) := by decide +kernel
theorem dX6_readNumber_8 : decode cX6_readNumber 8 = .ok (.invokevirtual 122, 3) := by decide +kernel
theorem dX6_readNumber_11 : decode cX6_readNumber 11 = .ok (.iload_n 3, 1) := by decide +kernel
theorem dX6_readNumber_12 : decode cX6_readNumber 12 = .ok (.ireturn, 1) := by decide +kernel
theorem dX6_noteHighest_0 : decode cX6_noteHighest 0 = .ok (.aload_n 0, 1) := by decide +kernel
theorem dX6_noteHighest_1 : decode cX6_noteHighest 1 = .ok (.iload_n 1, 1) := by decide +kernel
theorem dX6_noteHighest_2 : decode cX6_noteHighest 2 = .ok (.aload_n 0, 1) := by decide +kernel
theorem dX6_noteHighest_3 : decode cX6_noteHighest 3 = .ok (.getfield 61, 3) := by decide +kernel
theorem dX6_noteHighest_6 : decode cX6_noteHighest 6 = .ok (.if_icmp .le 7, 3) := by decide +kernel
theorem dX6_noteHighest_9 : decode cX6_noteHighest 9 = .ok (.iload_n 1, 1) := by decide +kernel
theorem dX6_noteHighest_10 : decode cX6_noteHighest 10 = .ok (.goto 7, 3) := by decide +kernel
theorem dX6_noteHighest_13 : decode cX6_noteHighest 13 = .ok (.aload_n 0, 1) := by decide +kernel
theorem dX6_noteHighest_14 : decode cX6_noteHighest 14 = .ok (.getfield 61, 3) := by decide +kernel
theorem dX6_noteHighest_17 : decode cX6_noteHighest 17 = .ok (.putfield 61, 3) := by decide +kernel
theorem dX6_noteHighest_20 : decode cX6_noteHighest 20 = .ok (.return_, 1) := by decide +kernel
theorem dX6_readIsle_0 : decode cX6_readIsle 0 = .ok (.aload_n 0, 1) := by decide +kernel
theorem dX6_readIsle_1 : decode cX6_readIsle 1 = .ok (.iconst 0, 1) := by decide +kernel
theorem dX6_readIsle_2 : decode cX6_readIsle 2 = .ok (.bipush 99, 2) := by decide +kernel
theorem dX6_readIsle_4 : decode cX6_readIsle 4 = .ok (.invokevirtual 118, 3) := by decide +kernel
theorem dX6_readIsle_7 : decode cX6_readIsle 7 = .ok (.istore_n 2, 1) := by decide +kernel
theorem dX6_readIsle_8 : decode cX6_readIsle 8 = .ok (.iconst 0, 1) := by decide +kernel
theorem dX6_readIsle_9 : decode cX6_readIsle 9 = .ok (.istore_n 3, 1) := by decide +kernel
theorem dX6_readIsle_10 : decode cX6_readIsle 10 = .ok (.iload_n 3, 1) := by decide +kernel
theorem dX6_readIsle_11 : decode cX6_readIsle 11 = .ok (.aload_n 0, 1) := by decide +kernel
theorem dX6_readIsle_12 : decode cX6_readIsle 12 = .ok (.getfield 50, 3) := by decide +kernel
theorem dX6_readIsle_15 : decode cX6_readIsle 15 = .ok (.if_icmp .ge 33, 3) := by decide +kernel
theorem dX6_readIsle_18 : decode cX6_readIsle 18 = .ok (.aload_n 0, 1) := by decide +kernel
theorem dX6_readIsle_19 : decode cX6_readIsle 19 = .ok (.aload_n 0, 1) := by decide +kernel
theorem dX6_readIsle_20 : decode cX6_readIsle 20 = .ok (.getfield 20, 3) := by decide +kernel
theorem dX6_readIsle_23 : decode cX6_readIsle 23 = .ok (.iconst 2, 1) := by decide +kernel
theorem dX6_readIsle_24 : decode cX6_readIsle 24 = .ok (.iload_n 3, 1) := by decide +kernel
theorem dX6_readIsle_25 : decode cX6_readIsle 25 = .ok (.imul, 1) := by decide +kernel
theorem dX6_readIsle_26 : decode cX6_readIsle 26 = .ok (.iconst 1, 1) := by decide +kernel
theorem dX6_readIsle_27 : decode cX6_readIsle 27 = .ok (.iadd, 1) := by decide +kernel
theorem dX6_readIsle_28 : decode cX6_readIsle 28 = .ok (.iaload, 1) := by decide +kernel
theorem dX6_readIsle_29 : decode cX6_readIsle 29 = .ok (.iload_n 2, 1) := by decide +kernel
theorem dX6_readIsle_30 : decode cX6_readIsle 30 = .ok (.if_icmp .eq 7, 3) := by decide +kernel
theorem dX6_readIsle_33 : decode cX6_readIsle 33 = .ok (.iconst 1, 1) := by decide +kernel
theorem dX6_readIsle_34 : decode cX6_readIsle 34 = .ok (.goto 4, 3) := by decide +kernel
theorem dX6_readIsle_37 : decode cX6_readIsle 37 = .ok (.iconst 0, 1) := by decide +kernel
theorem dX6_readIsle_38 : decode cX6_readIsle 38 = .ok (.iconst 4, 1) := by decide +kernel
theorem dX6_readIsle_39 : decode cX6_readIsle 39 = .ok (.invokevirtual 114, 3) := by decide +kernel
theorem dX6_readIsle_42 : decode cX6_readIsle 42 = .ok (.iinc 3 1, 3) := by decide +kernel
theorem dX6_readIsle_45 : decode cX6_readIsle 45 = .ok (.goto (-35), 3) := by decide +kernel
theorem dX6_readIsle_48 : decode cX6_readIsle 48 = .ok (.aload_n 0, 1) := by decide +kernel
theorem dX6_readIsle_49 : decode cX6_readIsle 49 = .ok (.getfield 20, 3) := by decide +kernel
theorem dX6_readIsle_52 : decode cX6_readIsle 52 = .ok (.iconst 2, 1) := by decide +kernel
theorem dX6_readIsle_53 : decode cX6_readIsle 53 = .ok (.aload_n 0, 1) := by decide +kernel
theorem dX6_readIsle_54 : decode cX6_readIsle 54 = .ok (.getfield 50, 3) := by decide +kernel
theorem dX6_readIsle_57 : decode cX6_readIsle 57 = .ok (.imul, 1) := by decide +kernel
theorem dX6_readIsle_58 : decode cX6_readIsle 58 = .ok (.iconst 0, 1) := by decide +kernel
theorem dX6_readIsle_59 : decode cX6_readIsle 59 = .ok (.iadd, 1) := by decide +kernel
theorem dX6_readIsle_60 : decode cX6_readIsle 60 = .ok (.iload_n 1, 1) := by decide +kernel
theorem dX6_readIsle_61 : decode cX6_readIsle 61 = .ok (.iastore, 1) := by decide +kernel
theorem dX6_readIsle_62 : decode cX6_readIsle 62 = .ok (.aload_n 0, 1) := by decide +kernel
theorem dX6_readIsle_63 : decode cX6_readIsle 63 = .ok (.getfield 20, 3) := by decide +kernel
theorem dX6_readIsle_66 : decode cX6_readIsle 66 = .ok (.iconst 2, 1) := by decide +kernel
theorem dX6_readIsle_67 : decode cX6_readIsle 67 = .ok (.aload_n 0, 1) := by decide +kernel
theorem dX6_readIsle_68 : decode cX6_readIsle 68 = .ok (.getfield 50, 3) := by decide +kernel
theorem dX6_readIsle_71 : decode cX6_readIsle 71 = .ok (.imul, 1) := by decide +kernel
theorem dX6_readIsle_72 : decode cX6_readIsle 72 = .ok (.iconst 1, 1) := by decide +kernel
theorem dX6_readIsle_73 : decode cX6_readIsle 73 = .ok (.iadd, 1) := by decide +kernel
theorem dX6_readIsle_74 : decode cX6_readIsle 74 = .ok (.iload_n 2, 1) := by decide +kernel
theorem dX6_readIsle_75 : decode cX6_readIsle 75 = .ok (.iastore, 1) := by decide +kernel
theorem dX6_readIsle_76 : decode cX6_readIsle 76 = .ok (.aload_n 0, 1) := by decide +kernel
theorem dX6_readIsle_77 : decode cX6_readIsle 77 = .ok (.dup, 1) := by decide +kernel
theorem dX6_readIsle_78 : decode cX6_readIsle 78 = .ok (.getfield 50, 3) := by decide +kernel
theorem dX6_readIsle_81 : decode cX6_readIsle 81 = .ok (.iconst 1, 1) := by decide +kernel
theorem dX6_readIsle_82 : decode cX6_readIsle 82 = .ok (.iadd, 1) := by decide +kernel
theorem dX6_readIsle_83 : decode cX6_readIsle 83 = .ok (.putfield 50, 3) := by decide +kernel
theorem dX6_readIsle_86 : decode cX6_readIsle 86 = .ok (.aload_n 0, 1) := by decide +kernel
theorem dX6_readIsle_87 : decode cX6_readIsle 87 = .ok (.invokevirtual 122, 3) := by decide +kernel
theorem dX6_readIsle_90 : decode cX6_readIsle 90 = .ok (.return_, 1) := by decide +kernel
theorem dX6_readCross_0 : decode cX6_readCross 0 = .ok (.aload_n 0, 1) := by decide +kernel
theorem dX6_readCross_1 : decode cX6_readCross 1 = .ok (.iconst 0, 1) := by decide +kernel
theorem dX6_readCross_2 : decode cX6_readCross 2 = .ok (.iconst 4, 1) := by decide +kernel
theorem dX6_readCross_3 : decode cX6_readCross 3 = .ok (.invokevirtual 125, 3) := by decide +kernel
theorem dX6_readCross_6 : decode cX6_readCross 6 = .ok (.istore_n 1, 1) := by decide +kernel
theorem dX6_readCross_7 : decode cX6_readCross 7 = .ok (.aload_n 0, 1) := by decide +kernel
theorem dX6_readCross_8 : decode cX6_readCross 8 = .ok (.iconst 0, 1) := by decide +kernel
theorem dX6_readCross_9 : decode cX6_readCross 9 = .ok (.iconst 4, 1) := by decide +kernel
theorem dX6_readCross_10 : decode cX6_readCross 10 = .ok (.invokevirtual 118, 3) := by decide +kernel
theorem dX6_readCross_13 : decode cX6_readCross 13 = .ok (.istore_n 2, 1) := by decide +kernel
theorem dX6_readCross_14 : decode cX6_readCross 14 = .ok (.aload_n 0, 1) := by decide +kernel
theorem dX6_readCross_15 : decode cX6_readCross 15 = .ok (.iload_n 1, 1) := by decide +kernel
theorem dX6_readCross_16 : decode cX6_readCross 16 = .ok (.iload_n 2, 1) := by decide +kernel
theorem dX6_readCross_17 : decode cX6_readCross 17 = .ok (.if_icmp .eq 7, 3) := by decide +kernel
theorem dX6_readCross_20 : decode cX6_readCross 20 = .ok (.iconst 1, 1) := by decide +kernel
theorem dX6_readCross_21 : decode cX6_readCross 21 = .ok (.goto 4, 3) := by decide +kernel
theorem dX6_readCross_24 : decode cX6_readCross 24 = .ok (.iconst 0, 1) := by decide +kernel
theorem dX6_readCross_25 : decode cX6_readCross 25 = .ok (.iconst 3, 1) := by decide +kernel
theorem dX6_readCross_26 : decode cX6_readCross 26 = .ok (.invokevirtual 114, 3) := by decide +kernel
theorem dX6_readCross_29 : decode cX6_readCross 29 = .ok (.aload_n 0, 1) := by decide +kernel
theorem dX6_readCross_30 : decode cX6_readCross 30 = .ok (.aload_n 0, 1) := by decide +kernel
theorem dX6_readCross_31 : decode cX6_readCross 31 = .ok (.getfield 58, 3) := by decide +kernel
theorem dX6_readCross_34 : decode cX6_readCross 34 = .ok (.iconst 5, 1) := by decide +kernel
theorem dX6_readCross_35 : decode cX6_readCross 35 = .ok (.iload_n 1, 1) := by decide +kernel
theorem dX6_readCross_36 : decode cX6_readCross 36 = .ok (.imul, 1) := by decide +kernel
theorem dX6_readCross_37 : decode cX6_readCross 37 = .ok (.iload_n 2, 1) := by decide +kernel
theorem dX6_readCross_38 : decode cX6_readCross 38 = .ok (.iadd, 1) := by decide +kernel
theorem dX6_readCross_39 : decode cX6_readCross 39 = .ok (.ishr, 1) := by decide +kernel
theorem dX6_readCross_40 : decode cX6_readCross 40 = .ok (.iconst 1, 1) := by decide +kernel
theorem dX6_readCross_41 : decode cX6_readCross 41 = .ok (.iand, 1) := by decide +kernel
theorem dX6_readCross_42 : decode cX6_readCross 42 = .ok (.ifCond .ne 7, 3) := by decide +kernel
theorem dX6_readCross_45 : decode cX6_readCross 45 = .ok (.iconst 1, 1) := by decide +kernel
theorem dX6_readCross_46 : decode cX6_readCross 46 = .ok (.goto 4, 3) := by decide +kernel
theorem dX6_readCross_49 : decode cX6_readCross 49 = .ok (.iconst 0, 1) := by decide +kernel
theorem dX6_readCross_50 : decode cX6_readCross 50 = .ok (.iconst 4, 1) := by decide +kernel
theorem dX6_readCross_51 : decode cX6_readCross 51 = .ok (.invokevirtual 114, 3) := by decide +kernel
theorem dX6_readCross_54 : decode cX6_readCross 54 = .ok (.aload_n 0, 1) := by decide +kernel
theorem dX6_readCross_55 : decode cX6_readCross 55 = .ok (.dup, 1) := by decide +kernel
theorem dX6_readCross_56 : decode cX6_readCross 56 = .ok (.getfield 58, 3) := by decide +kernel
theorem dX6_readCross_59 : decode cX6_readCross 59 = .ok (.iconst 1, 1) := by decide +kernel
theorem dX6_readCross_60 : decode cX6_readCross 60 = .ok (.iconst 5, 1) := by decide +kernel
theorem dX6_readCross_61 : decode cX6_readCross 61 = .ok (.iload_n 1, 1) := by decide +kernel
theorem dX6_readCross_62 : decode cX6_readCross 62 = .ok (.imul, 1) := by decide +kernel
theorem dX6_readCross_63 : decode cX6_readCross 63 = .ok (.iload_n 2, 1) := by decide +kernel
theorem dX6_readCross_64 : decode cX6_readCross 64 = .ok (.iadd, 1) := by decide +kernel
theorem dX6_readCross_65 : decode cX6_readCross 65 = .ok (.ishl, 1) := by decide +kernel
theorem dX6_readCross_66 : decode cX6_readCross 66 = .ok (.ior, 1) := by decide +kernel
theorem dX6_readCross_67 : decode cX6_readCross 67 = .ok (.putfield 58, 3) := by decide +kernel
theorem dX6_readCross_70 : decode cX6_readCross 70 = .ok (.aload_n 0, 1) := by decide +kernel
theorem dX6_readCross_71 : decode cX6_readCross 71 = .ok (.iload_n 1, 1) := by decide +kernel
theorem dX6_readCross_72 : decode cX6_readCross 72 = .ok (.invokevirtual 128, 3) := by decide +kernel
theorem dX6_readCross_75 : decode cX6_readCross 75 = .ok (.aload_n 0, 1) := by decide +kernel
theorem dX6_readCross_76 : decode cX6_readCross 76 = .ok (.iload_n 2, 1) := by decide +kernel
theorem dX6_readCross_77 : decode cX6_readCross 77 = .ok (.invokevirtual 128, 3) := by decide +kernel
theorem dX6_readCross_80 : decode cX6_readCross 80 = .ok (.aload_n 0, 1) := by decide +kernel
theorem dX6_readCross_81 : decode cX6_readCross 81 = .ok (.invokevirtual 122, 3) := by decide +kernel
theorem dX6_readCross_84 : decode cX6_readCross 84 = .ok (.aload_n 0, 1) := by decide +kernel
theorem dX6_readCross_85 : decode cX6_readCross 85 = .ok (.getfield 20, 3) := by decide +kernel
theorem dX6_readCross_88 : decode cX6_readCross 88 = .ok (.bipush 10, 2) := by decide +kernel
theorem dX6_readCross_90 : decode cX6_readCross 90 = .ok (.iconst 5, 1) := by decide +kernel
theorem dX6_readCross_91 : decode cX6_readCross 91 = .ok (.iload_n 1, 1) := by decide +kernel
theorem dX6_readCross_92 : decode cX6_readCross 92 = .ok (.imul, 1) := by decide +kernel
theorem dX6_readCross_93 : decode cX6_readCross 93 = .ok (.iadd, 1) := by decide +kernel
theorem dX6_readCross_94 : decode cX6_readCross 94 = .ok (.iload_n 2, 1) := by decide +kernel
theorem dX6_readCross_95 : decode cX6_readCross 95 = .ok (.iadd, 1) := by decide +kernel
theorem dX6_readCross_96 : decode cX6_readCross 96 = .ok (.aload_n 0, 1) := by decide +kernel
theorem dX6_readCross_97 : decode cX6_readCross 97 = .ok (.iconst 0, 1) := by decide +kernel
theorem dX6_readCross_98 : decode cX6_readCross 98 = .ok (.iconst 3, 1) := by decide +kernel
theorem dX6_readCross_99 : decode cX6_readCross 99 = .ok (.invokevirtual 125, 3) := by decide +kernel
theorem dX6_readCross_102 : decode cX6_readCross 102 = .ok (.iastore, 1) := by decide +kernel
theorem dX6_readCross_103 : decode cX6_readCross 103 = .ok (.return_, 1) := by decide +kernel
theorem dX6_readRope_0 : decode cX6_readRope 0 = .ok (.bipush 35, 2) := by decide +kernel
theorem dX6_readRope_2 : decode cX6_readRope 2 = .ok (.iconst 3, 1) := by decide +kernel
theorem dX6_readRope_3 : decode cX6_readRope 3 = .ok (.aload_n 0, 1) := by decide +kernel
theorem dX6_readRope_4 : decode cX6_readRope 4 = .ok (.getfield 20, 3) := by decide +kernel
theorem dX6_readRope_7 : decode cX6_readRope 7 = .ok (.bipush 53, 2) := by decide +kernel
theorem dX6_readRope_9 : decode cX6_readRope 9 = .ok (.iaload, 1) := by decide +kernel
theorem dX6_readRope_10 : decode cX6_readRope 10 = .ok (.imul, 1) := by decide +kernel
theorem dX6_readRope_11 : decode cX6_readRope 11 = .ok (.iadd, 1) := by decide +kernel
theorem dX6_readRope_12 : decode cX6_readRope 12 = .ok (.istore_n 1, 1) := by decide +kernel
theorem dX6_readRope_13 : decode cX6_readRope 13 = .ok (.aload_n 0, 1) := by decide +kernel
theorem dX6_readRope_14 : decode cX6_readRope 14 = .ok (.iconst 0, 1) := by decide +kernel
theorem dX6_readRope_15 : decode cX6_readRope 15 = .ok (.iconst 4, 1) := by decide +kernel
theorem dX6_readRope_16 : decode cX6_readRope 16 = .ok (.invokevirtual 125, 3) := by decide +kernel
theorem dX6_readRope_19 : decode cX6_readRope 19 = .ok (.istore_n 2, 1) := by decide +kernel
theorem dX6_readRope_20 : decode cX6_readRope 20 = .ok (.aload_n 0, 1) := by decide +kernel
theorem dX6_readRope_21 : decode cX6_readRope 21 = .ok (.iconst 0, 1) := by decide +kernel
theorem dX6_readRope_22 : decode cX6_readRope 22 = .ok (.iconst 4, 1) := by decide +kernel
theorem dX6_readRope_23 : decode cX6_readRope 23 = .ok (.invokevirtual 118, 3) := by decide +kernel
theorem dX6_readRope_26 : decode cX6_readRope 26 = .ok (.istore_n 3, 1) := by decide +kernel
theorem dX6_readRope_27 : decode cX6_readRope 27 = .ok (.aload_n 0, 1) := by decide +kernel
theorem dX6_readRope_28 : decode cX6_readRope 28 = .ok (.iload_n 2, 1) := by decide +kernel
theorem dX6_readRope_29 : decode cX6_readRope 29 = .ok (.iload_n 3, 1) := by decide +kernel
theorem dX6_readRope_30 : decode cX6_readRope 30 = .ok (.if_icmp .eq 7, 3) := by decide +kernel
theorem dX6_readRope_33 : decode cX6_readRope 33 = .ok (.iconst 1, 1) := by decide +kernel
theorem dX6_readRope_34 : decode cX6_readRope 34 = .ok (.goto 4, 3) := by decide +kernel
theorem dX6_readRope_37 : decode cX6_readRope 37 = .ok (.iconst 0, 1) := by decide +kernel
theorem dX6_readRope_38 : decode cX6_readRope 38 = .ok (.iconst 3, 1) := by decide +kernel
theorem dX6_readRope_39 : decode cX6_readRope 39 = .ok (.invokevirtual 114, 3) := by decide +kernel
theorem dX6_readRope_42 : decode cX6_readRope 42 = .ok (.aload_n 0, 1) := by decide +kernel
theorem dX6_readRope_43 : decode cX6_readRope 43 = .ok (.iload_n 2, 1) := by decide +kernel
theorem dX6_readRope_44 : decode cX6_readRope 44 = .ok (.invokevirtual 128, 3) := by decide +kernel
theorem dX6_readRope_47 : decode cX6_readRope 47 = .ok (.aload_n 0, 1) := by decide +kernel
theorem dX6_readRope_48 : decode cX6_readRope 48 = .ok (.iload_n 3, 1) := by decide +kernel
theorem dX6_readRope_49 : decode cX6_readRope 49 = .ok (.invokevirtual 128, 3) := by decide +kernel
theorem dX6_readRope_52 : decode cX6_readRope 52 = .ok (.aload_n 0, 1) := by decide +kernel
theorem dX6_readRope_53 : decode cX6_readRope 53 = .ok (.invokevirtual 122, 3) := by decide +kernel
theorem dX6_readRope_56 : decode cX6_readRope 56 = .ok (.aload_n 0, 1) := by decide +kernel
theorem dX6_readRope_57 : decode cX6_readRope 57 = .ok (.getfield 20, 3) := by decide +kernel
theorem dX6_readRope_60 : decode cX6_readRope 60 = .ok (.iload_n 1, 1) := by decide +kernel
theorem dX6_readRope_61 : decode cX6_readRope 61 = .ok (.iload_n 2, 1) := by decide +kernel
theorem dX6_readRope_62 : decode cX6_readRope 62 = .ok (.iastore, 1) := by decide +kernel
theorem dX6_readRope_63 : decode cX6_readRope 63 = .ok (.aload_n 0, 1) := by decide +kernel
theorem dX6_readRope_64 : decode cX6_readRope 64 = .ok (.getfield 20, 3) := by decide +kernel
theorem dX6_readRope_67 : decode cX6_readRope 67 = .ok (.iload_n 1, 1) := by decide +kernel
theorem dX6_readRope_68 : decode cX6_readRope 68 = .ok (.iconst 1, 1) := by decide +kernel
theorem dX6_readRope_69 : decode cX6_readRope 69 = .ok (.iadd, 1) := by decide +kernel
theorem dX6_readRope_70 : decode cX6_readRope 70 = .ok (.iload_n 3, 1) := by decide +kernel
theorem dX6_readRope_71 : decode cX6_readRope 71 = .ok (.iastore, 1) := by decide +kernel
theorem dX6_readRope_72 : decode cX6_readRope 72 = .ok (.aload_n 0, 1) := by decide +kernel
theorem dX6_readRope_73 : decode cX6_readRope 73 = .ok (.getfield 20, 3) := by decide +kernel
theorem dX6_readRope_76 : decode cX6_readRope 76 = .ok (.iload_n 1, 1) := by decide +kernel
theorem dX6_readRope_77 : decode cX6_readRope 77 = .ok (.iconst 2, 1) := by decide +kernel
theorem dX6_readRope_78 : decode cX6_readRope 78 = .ok (.iadd, 1) := by decide +kernel
theorem dX6_readRope_79 : decode cX6_readRope 79 = .ok (.aload_n 0, 1) := by decide +kernel
theorem dX6_readRope_80 : decode cX6_readRope 80 = .ok (.iconst 1, 1) := by decide +kernel
theorem dX6_readRope_81 : decode cX6_readRope 81 = .ok (.bipush 30, 2) := by decide +kernel
theorem dX6_readRope_83 : decode cX6_readRope 83 = .ok (.invokevirtual 125, 3) := by decide +kernel
theorem dX6_readRope_86 : decode cX6_readRope 86 = .ok (.iastore, 1) := by decide +kernel
theorem dX6_readRope_87 : decode cX6_readRope 87 = .ok (.aload_n 0, 1) := by decide +kernel
theorem dX6_readRope_88 : decode cX6_readRope 88 = .ok (.getfield 20, 3) := by decide +kernel
theorem dX6_readRope_91 : decode cX6_readRope 91 = .ok (.bipush 53, 2) := by decide +kernel
theorem dX6_readRope_93 : decode cX6_readRope 93 = .ok (.dup2, 1) := by decide +kernel
theorem dX6_readRope_94 : decode cX6_readRope 94 = .ok (.iaload, 1) := by decide +kernel
theorem dX6_readRope_95 : decode cX6_readRope 95 = .ok (.iconst 1, 1) := by decide +kernel
theorem dX6_readRope_96 : decode cX6_readRope 96 = .ok (.iadd, 1) := by decide +kernel
theorem dX6_readRope_97 : decode cX6_readRope 97 = .ok (.iastore, 1) := by decide +kernel
theorem dX6_readRope_98 : decode cX6_readRope 98 = .ok (.return_, 1) := by decide +kernel
theorem dX6_readLineOf_0 : decode cX6_readLineOf 0 = .ok (.iload_n 1, 1) := by decide +kernel
theorem dX6_readLineOf_1 : decode cX6_readLineOf 1 = .ok (.tableswitch 58 4 6 #[27, 34, 41], 27) := by decide +kernel
theorem dX6_readLineOf_28 : decode cX6_readLineOf 28 = .ok (.aload_n 0, 1) := by decide +kernel
theorem dX6_readLineOf_29 : decode cX6_readLineOf 29 = .ok (.invokevirtual 132, 3) := by decide +kernel
theorem dX6_readLineOf_32 : decode cX6_readLineOf 32 = .ok (.goto 32, 3) := by decide +kernel
theorem dX6_readLineOf_35 : decode cX6_readLineOf 35 = .ok (.aload_n 0, 1) := by decide +kernel
theorem dX6_readLineOf_36 : decode cX6_readLineOf 36 = .ok (.invokevirtual 135, 3) := by decide +kernel
theorem dX6_readLineOf_39 : decode cX6_readLineOf 39 = .ok (.goto 25, 3) := by decide +kernel
theorem dX6_readLineOf_42 : decode cX6_readLineOf 42 = .ok (.aload_n 0, 1) := by decide +kernel
theorem dX6_readLineOf_43 : decode cX6_readLineOf 43 = .ok (.getfield 20, 3) := by decide +kernel
theorem dX6_readLineOf_46 : decode cX6_readLineOf 46 = .ok (.bipush 55, 2) := by decide +kernel
theorem dX6_readLineOf_48 : decode cX6_readLineOf 48 = .ok (.aload_n 0, 1) := by decide +kernel
theorem dX6_readLineOf_49 : decode cX6_readLineOf 49 = .ok (.iconst 0, 1) := by decide +kernel
theorem dX6_readLineOf_50 : decode cX6_readLineOf 50 = .ok (.bipush 6, 2) := by decide +kernel
theorem dX6_readLineOf_52 : decode cX6_readLineOf 52 = .ok (.invokevirtual 125, 3) := by decide +kernel
theorem dX6_readLineOf_55 : decode cX6_readLineOf 55 = .ok (.iastore, 1) := by decide +kernel
theorem dX6_readLineOf_56 : decode cX6_readLineOf 56 = .ok (.goto 8, 3) := by decide +kernel
theorem dX6_readLineOf_59 : decode cX6_readLineOf 59 = .ok (.aload_n 0, 1) := by decide +kernel
theorem dX6_readLineOf_60 : decode cX6_readLineOf 60 = .ok (.iload_n 1, 1) := by decide +kernel
theorem dX6_readLineOf_61 : decode cX6_readLineOf 61 = .ok (.invokevirtual 138, 3) := by decide +kernel
theorem dX6_readLineOf_64 : decode cX6_readLineOf 64 = .ok (.return_, 1) := by decide +kernel
theorem dX6_readLine_0 : decode cX6_readLine 0 = .ok (.aload_n 0, 1) := by decide +kernel
theorem dX6_readLine_1 : decode cX6_readLine 1 = .ok (.getfield 100, 3) := by decide +kernel
theorem dX6_readLine_4 : decode cX6_readLine 4 = .ok (.iconst 1, 1) := by decide +kernel
theorem dX6_readLine_5 : decode cX6_readLine 5 = .ok (.if_icmp .ne 10, 3) := by decide +kernel
theorem dX6_readLine_8 : decode cX6_readLine 8 = .ok (.aload_n 0, 1) := by decide +kernel
theorem dX6_readLine_9 : decode cX6_readLine 9 = .ok (.invokevirtual 141, 3) := by decide +kernel
theorem dX6_readLine_12 : decode cX6_readLine 12 = .ok (.goto 5, 3) := by decide +kernel
theorem dX6_readLine_15 : decode cX6_readLine 15 = .ok (.bipush (-4), 2) := by decide +kernel
theorem dX6_readLine_17 : decode cX6_readLine 17 = .ok (.istore_n 1, 1) := by decide +kernel
theorem dX6_readLine_18 : decode cX6_readLine 18 = .ok (.aload_n 0, 1) := by decide +kernel
theorem dX6_readLine_19 : decode cX6_readLine 19 = .ok (.iload_n 1, 1) := by decide +kernel
theorem dX6_readLine_20 : decode cX6_readLine 20 = .ok (.bipush (-4), 2) := by decide +kernel
theorem dX6_readLine_22 : decode cX6_readLine 22 = .ok (.if_icmp .eq 7, 3) := by decide +kernel
theorem dX6_readLine_25 : decode cX6_readLine 25 = .ok (.iconst 1, 1) := by decide +kernel
theorem dX6_readLine_26 : decode cX6_readLine 26 = .ok (.goto 4, 3) := by decide +kernel
theorem dX6_readLine_29 : decode cX6_readLine 29 = .ok (.iconst 0, 1) := by decide +kernel
theorem dX6_readLine_30 : decode cX6_readLine 30 = .ok (.iconst 2, 1) := by decide +kernel
theorem dX6_readLine_31 : decode cX6_readLine 31 = .ok (.invokevirtual 114, 3) := by decide +kernel
theorem dX6_readLine_34 : decode cX6_readLine 34 = .ok (.aload_n 0, 1) := by decide +kernel
theorem dX6_readLine_35 : decode cX6_readLine 35 = .ok (.iload_n 1, 1) := by decide +kernel
theorem dX6_readLine_36 : decode cX6_readLine 36 = .ok (.iconst 4, 1) := by decide +kernel
theorem dX6_readLine_37 : decode cX6_readLine 37 = .ok (.if_icmp .ge 19, 3) := by decide +kernel
theorem dX6_readLine_40 : decode cX6_readLine 40 = .ok (.aload_n 0, 1) := by decide +kernel
theorem dX6_readLine_41 : decode cX6_readLine 41 = .ok (.getfield 50, 3) := by decide +kernel
theorem dX6_readLine_44 : decode cX6_readLine 44 = .ok (.iconst 5, 1) := by decide +kernel
theorem dX6_readLine_45 : decode cX6_readLine 45 = .ok (.if_icmp .ge 7, 3) := by decide +kernel
theorem dX6_readLine_48 : decode cX6_readLine 48 = .ok (.iconst 1, 1) := by decide +kernel
theorem dX6_readLine_49 : decode cX6_readLine 49 = .ok (.goto 29, 3) := by decide +kernel
theorem dX6_readLine_52 : decode cX6_readLine 52 = .ok (.iconst 0, 1) := by decide +kernel
theorem dX6_readLine_53 : decode cX6_readLine 53 = .ok (.goto 25, 3) := by decide +kernel
theorem dX6_readLine_56 : decode cX6_readLine 56 = .ok (.iload_n 1, 1) := by decide +kernel
theorem dX6_readLine_57 : decode cX6_readLine 57 = .ok (.iconst 5, 1) := by decide +kernel
theorem dX6_readLine_58 : decode cX6_readLine 58 = .ok (.if_icmp .ne 15, 3) := by decide +kernel
theorem dX6_readLine_61 : decode cX6_readLine 61 = .ok (.aload_n 0, 1) := by decide +kernel
theorem dX6_readLine_62 : decode cX6_readLine 62 = .ok (.getfield 20, 3) := by decide +kernel
theorem dX6_readLine_65 : decode cX6_readLine 65 = .ok (.bipush 53, 2) := by decide +kernel
theorem dX6_readLine_67 : decode cX6_readLine 67 = .ok (.iaload, 1) := by decide +kernel
theorem dX6_readLine_68 : decode cX6_readLine 68 = .ok (.bipush 6, 2) := by decide +kernel
theorem dX6_readLine_70 : decode cX6_readLine 70 = .ok (.if_icmp .ge 7, 3) := by decide +kernel
theorem dX6_readLine_73 : decode cX6_readLine 73 = .ok (.iconst 1, 1) := by decide +kernel
theorem dX6_readLine_74 : decode cX6_readLine 74 = .ok (.goto 4, 3) := by decide +kernel
theorem dX6_readLine_77 : decode cX6_readLine 77 = .ok (.iconst 0, 1) := by decide +kernel
theorem dX6_readLine_78 : decode cX6_readLine 78 = .ok (.iconst 5, 1) := by decide +kernel
theorem dX6_readLine_79 : decode cX6_readLine 79 = .ok (.invokevirtual 114, 3) := by decide +kernel
theorem dX6_readLine_82 : decode cX6_readLine 82 = .ok (.aload_n 0, 1) := by decide +kernel
theorem dX6_readLine_83 : decode cX6_readLine 83 = .ok (.iload_n 1, 1) := by decide +kernel
theorem dX6_readLine_84 : decode cX6_readLine 84 = .ok (.bipush 6, 2) := by decide +kernel
theorem dX6_readLine_86 : decode cX6_readLine 86 = .ok (.if_icmp .ne 10, 3) := by decide +kernel
theorem dX6_readLine_89 : decode cX6_readLine 89 = .ok (.aload_n 0, 1) := by decide +kernel
theorem dX6_readLine_90 : decode cX6_readLine 90 = .ok (.getfield 54, 3) := by decide +kernel
theorem dX6_readLine_93 : decode cX6_readLine 93 = .ok (.ifCond .ne 7, 3) := by decide +kernel
theorem dX6_readLine_96 : decode cX6_readLine 96 = .ok (.iconst 1, 1) := by decide +kernel
theorem dX6_readLine_97 : decode cX6_readLine 97 = .ok (.goto 4, 3) := by decide +kernel
theorem dX6_readLine_100 : decode cX6_readLine 100 = .ok (.iconst 0, 1) := by decide +kernel
theorem dX6_readLine_101 : decode cX6_readLine 101 = .ok (.iconst 4, 1) := by decide +kernel
theorem dX6_readLine_102 : decode cX6_readLine 102 = .ok (.invokevirtual 114, 3) := by decide +kernel
theorem dX6_readLine_105 : decode cX6_readLine 105 = .ok (.aload_n 0, 1) := by decide +kernel
theorem dX6_readLine_106 : decode cX6_readLine 106 = .ok (.aload_n 0, 1) := by decide +kernel
theorem dX6_readLine_107 : decode cX6_readLine 107 = .ok (.getfield 54, 3) := by decide +kernel
theorem dX6_readLine_110 : decode cX6_readLine 110 = .ok (.ifCond .ne 9, 3) := by decide +kernel
theorem dX6_readLine_113 : decode cX6_readLine 113 = .ok (.iload_n 1, 1) := by decide +kernel
theorem dX6_readLine_114 : decode cX6_readLine 114 = .ok (.bipush 6, 2) := by decide +kernel
theorem dX6_readLine_116 : decode cX6_readLine 116 = .ok (.if_icmp .ne 7, 3) := by decide +kernel
theorem dX6_readLine_119 : decode cX6_readLine 119 = .ok (.iconst 1, 1) := by decide +kernel
theorem dX6_readLine_120 : decode cX6_readLine 120 = .ok (.goto 4, 3) := by decide +kernel
theorem dX6_readLine_123 : decode cX6_readLine 123 = .ok (.iconst 0, 1) := by decide +kernel
theorem dX6_readLine_124 : decode cX6_readLine 124 = .ok (.putfield 54, 3) := by decide +kernel
theorem dX6_readLine_127 : decode cX6_readLine 127 = .ok (.aload_n 0, 1) := by decide +kernel
theorem dX6_readLine_128 : decode cX6_readLine 128 = .ok (.invokevirtual 122, 3) := by decide +kernel
theorem dX6_readLine_131 : decode cX6_readLine 131 = .ok (.aload_n 0, 1) := by decide +kernel
theorem dX6_readLine_132 : decode cX6_readLine 132 = .ok (.getfield 76, 3) := by decide +kernel
theorem dX6_readLine_135 : decode cX6_readLine 135 = .ok (.ifCond .le 4, 3) := by decide +kernel
theorem dX6_readLine_138 : decode cX6_readLine 138 = .ok (.return_, 1) := by decide +kernel
theorem dX6_readLine_139 : decode cX6_readLine 139 = .ok (.aload_n 0, 1) := by decide +kernel
theorem dX6_readLine_140 : decode cX6_readLine 140 = .ok (.iload_n 1, 1) := by decide +kernel
theorem dX6_readLine_141 : decode cX6_readLine 141 = .ok (.invokevirtual 145, 3) := by decide +kernel
theorem dX6_readLine_144 : decode cX6_readLine 144 = .ok (.aload_n 0, 1) := by decide +kernel
theorem dX6_readLine_145 : decode cX6_readLine 145 = .ok (.getfield 76, 3) := by decide +kernel
theorem dX6_readLine_148 : decode cX6_readLine 148 = .ok (.ifCond .ne 21, 3) := by decide +kernel
theorem dX6_readLine_151 : decode cX6_readLine 151 = .ok (.aload_n 0, 1) := by decide +kernel
theorem dX6_readLine_152 : decode cX6_readLine 152 = .ok (.aload_n 0, 1) := by decide +kernel
theorem dX6_readLine_153 : decode cX6_readLine 153 = .ok (.getfield 100, 3) := by decide +kernel
theorem dX6_readLine_156 : decode cX6_readLine 156 = .ok (.iconst 3, 1) := by decide +kernel
theorem dX6_readLine_157 : decode cX6_readLine 157 = .ok (.if_icmp .ne 7, 3) := by decide +kernel
theorem dX6_readLine_160 : decode cX6_readLine 160 = .ok (.iconst 1, 1) := by decide +kernel
theorem dX6_readLine_161 : decode cX6_readLine 161 = .ok (.goto 4, 3) := by decide +kernel
theorem dX6_readLine_164 : decode cX6_readLine 164 = .ok (.iconst 0, 1) := by decide +kernel
theorem dX6_readLine_165 : decode cX6_readLine 165 = .ok (.iconst 2, 1) := by decide +kernel
theorem dX6_readLine_166 : decode cX6_readLine 166 = .ok (.invokevirtual 114, 3) := by decide +kernel
theorem dX6_readLine_169 : decode cX6_readLine 169 = .ok (.aload_n 0, 1) := by decide +kernel
theorem dX6_readLine_170 : decode cX6_readLine 170 = .ok (.invokevirtual 122, 3) := by decide +kernel
theorem dX6_readLine_173 : decode cX6_readLine 173 = .ok (.return_, 1) := by decide +kernel
theorem dX6_text_0 : decode cX6_text 0 = .ok (.iconst 0, 1) := by decide +kernel
theorem dX6_text_1 : decode cX6_text 1 = .ok (.istore_n 1, 1) := by decide +kernel
theorem dX6_text_2 : decode cX6_text 2 = .ok (.aload_n 0, 1) := by decide +kernel
theorem dX6_text_3 : decode cX6_text 3 = .ok (.iconst 0, 1) := by decide +kernel
theorem dX6_text_4 : decode cX6_text 4 = .ok (.putfield 76, 3) := by decide +kernel
theorem dX6_text_7 : decode cX6_text 7 = .ok (.aload_n 0, 1) := by decide +kernel
theorem dX6_text_8 : decode cX6_text 8 = .ok (.iconst 0, 1) := by decide +kernel
theorem dX6_text_9 : decode cX6_text 9 = .ok (.putfield 85, 3) := by decide +kernel
theorem dX6_text_12 : decode cX6_text 12 = .ok (.aload_n 0, 1) := by decide +kernel
theorem dX6_text_13 : decode cX6_text 13 = .ok (.invokevirtual 44, 3) := by decide +kernel
theorem dX6_text_16 : decode cX6_text 16 = .ok (.aload_n 0, 1) := by decide +kernel
theorem dX6_text_17 : decode cX6_text 17 = .ok (.invokevirtual 122, 3) := by decide +kernel
theorem dX6_text_20 : decode cX6_text 20 = .ok (.aload_n 0, 1) := by decide +kernel
theorem dX6_text_21 : decode cX6_text 21 = .ok (.getfield 76, 3) := by decide +kernel
theorem dX6_text_24 : decode cX6_text 24 = .ok (.ifCond .ne 20, 3) := by decide +kernel
theorem dX6_text_27 : decode cX6_text 27 = .ok (.aload_n 0, 1) := by decide +kernel
theorem dX6_text_28 : decode cX6_text 28 = .ok (.getfield 100, 3) := by decide +kernel
theorem dX6_text_31 : decode cX6_text 31 = .ok (.ifCond .eq 13, 3) := by decide +kernel
theorem dX6_text_34 : decode cX6_text 34 = .ok (.aload_n 0, 1) := by decide +kernel
theorem dX6_text_35 : decode cX6_text 35 = .ok (.invokevirtual 148, 3) := by decide +kernel
theorem dX6_text_38 : decode cX6_text 38 = .ok (.iinc 1 1, 3) := by decide +kernel
theorem dX6_text_41 : decode cX6_text 41 = .ok (.goto (-21), 3) := by decide +kernel
theorem dX6_text_44 : decode cX6_text 44 = .ok (.aload_n 0, 1) := by decide +kernel
theorem dX6_text_45 : decode cX6_text 45 = .ok (.getfield 76, 3) := by decide +kernel
theorem dX6_text_48 : decode cX6_text 48 = .ok (.ifCond .ne 25, 3) := by decide +kernel
theorem dX6_text_51 : decode cX6_text 51 = .ok (.aload_n 0, 1) := by decide +kernel
theorem dX6_text_52 : decode cX6_text 52 = .ok (.aload_n 0, 1) := by decide +kernel
theorem dX6_text_53 : decode cX6_text 53 = .ok (.getfield 61, 3) := by decide +kernel
theorem dX6_text_56 : decode cX6_text 56 = .ok (.aload_n 0, 1) := by decide +kernel
theorem dX6_text_57 : decode cX6_text 57 = .ok (.getfield 50, 3) := by decide +kernel
theorem dX6_text_60 : decode cX6_text 60 = .ok (.if_icmp .ge 7, 3) := by decide +kernel
theorem dX6_text_63 : decode cX6_text 63 = .ok (.iconst 1, 1) := by decide +kernel
theorem dX6_text_64 : decode cX6_text 64 = .ok (.goto 4, 3) := by decide +kernel
theorem dX6_text_67 : decode cX6_text 67 = .ok (.iconst 0, 1) := by decide +kernel
theorem dX6_text_68 : decode cX6_text 68 = .ok (.bipush 6, 2) := by decide +kernel
theorem dX6_text_70 : decode cX6_text 70 = .ok (.invokevirtual 114, 3) := by decide +kernel
theorem dX6_text_73 : decode cX6_text 73 = .ok (.aload_n 0, 1) := by decide +kernel
theorem dX6_text_74 : decode cX6_text 74 = .ok (.iconst 0, 1) := by decide +kernel
theorem dX6_text_75 : decode cX6_text 75 = .ok (.putfield 73, 3) := by decide +kernel
theorem dX6_text_78 : decode cX6_text 78 = .ok (.aload_n 0, 1) := by decide +kernel
theorem dX6_text_79 : decode cX6_text 79 = .ok (.getfield 76, 3) := by decide +kernel
theorem dX6_text_82 : decode cX6_text 82 = .ok (.ifCond .le 11, 3) := by decide +kernel
theorem dX6_text_85 : decode cX6_text 85 = .ok (.bipush (-10), 2) := by decide +kernel
theorem dX6_text_87 : decode cX6_text 87 = .ok (.aload_n 0, 1) := by decide +kernel
theorem dX6_text_88 : decode cX6_text 88 = .ok (.getfield 82, 3) := by decide +kernel
theorem dX6_text_91 : decode cX6_text 91 = .ok (.isub, 1) := by decide +kernel
theorem dX6_text_92 : decode cX6_text 92 = .ok (.ireturn, 1) := by decide +kernel
theorem dX6_text_93 : decode cX6_text 93 = .ok (.aload_n 0, 1) := by decide +kernel
theorem dX6_text_94 : decode cX6_text 94 = .ok (.invokevirtual 47, 3) := by decide +kernel
theorem dX6_text_97 : decode cX6_text 97 = .ok (.iload_n 1, 1) := by decide +kernel
theorem dX6_text_98 : decode cX6_text 98 = .ok (.ireturn, 1) := by decide +kernel
theorem dX6_fault_0 : decode cX6_fault 0 = .ok (.aload_n 0, 1) := by decide +kernel
theorem dX6_fault_1 : decode cX6_fault 1 = .ok (.getfield 76, 3) := by decide +kernel
theorem dX6_fault_4 : decode cX6_fault 4 = .ok (.ireturn, 1) := by decide +kernel
theorem dX6_isIsle_0 : decode cX6_isIsle 0 = .ok (.iload_n 1, 1) := by decide +kernel
theorem dX6_isIsle_1 : decode cX6_isIsle 1 = .ok (.i2l, 1) := by decide +kernel
theorem dX6_isIsle_2 : decode cX6_isIsle 2 = .ok (.lconst 0, 1) := by decide +kernel
theorem dX6_isIsle_3 : decode cX6_isIsle 3 = .ok (.aload_n 0, 1) := by decide +kernel
theorem dX6_isIsle_4 : decode cX6_isIsle 4 = .ok (.getfield 64, 3) := by decide +kernel
theorem dX6_isIsle_7 : decode cX6_isIsle 7 = .ok (.iconst 1, 1) := by decide +kernel
theorem dX6_isIsle_8 : decode cX6_isIsle 8 = .ok (.isub, 1) := by decide +kernel
theorem dX6_isIsle_9 : decode cX6_isIsle 9 = .ok (.i2l, 1) := by decide +kernel
theorem dX6_isIsle_10 : decode cX6_isIsle 10 = .ok (.invokestatic 69, 3) := by decide +kernel
theorem dX6_isIsle_13 : decode cX6_isIsle 13 = .ok (.ireturn, 1) := by decide +kernel
theorem dX6_areTwo_0 : decode cX6_areTwo 0 = .ok (.aload_n 0, 1) := by decide +kernel
theorem dX6_areTwo_1 : decode cX6_areTwo 1 = .ok (.iload_n 1, 1) := by decide +kernel
theorem dX6_areTwo_2 : decode cX6_areTwo 2 = .ok (.invokevirtual 151, 3) := by decide +kernel
theorem dX6_areTwo_5 : decode cX6_areTwo 5 = .ok (.ifCond .eq 20, 3) := by decide +kernel
theorem dX6_areTwo_8 : decode cX6_areTwo 8 = .ok (.aload_n 0, 1) := by decide +kernel
theorem dX6_areTwo_9 : decode cX6_areTwo 9 = .ok (.iload_n 2, 1) := by decide +kernel
theorem dX6_areTwo_10 : decode cX6_areTwo 10 = .ok (.invokevirtual 151, 3) := by decide +kernel
theorem dX6_areTwo_13 : decode cX6_areTwo 13 = .ok (.ifCond .eq 12, 3) := by decide +kernel
theorem dX6_areTwo_16 : decode cX6_areTwo 16 = .ok (.iload_n 1, 1) := by decide +kernel
theorem dX6_areTwo_17 : decode cX6_areTwo 17 = .ok (.iload_n 2, 1) := by decide +kernel
theorem dX6_areTwo_18 : decode cX6_areTwo 18 = .ok (.if_icmp .eq 7, 3) := by decide +kernel
theorem dX6_areTwo_21 : decode cX6_areTwo 21 = .ok (.iconst 1, 1) := by decide +kernel
theorem dX6_areTwo_22 : decode cX6_areTwo 22 = .ok (.goto 4, 3) := by decide +kernel
theorem dX6_areTwo_25 : decode cX6_areTwo 25 = .ok (.iconst 0, 1) := by decide +kernel
theorem dX6_areTwo_26 : decode cX6_areTwo 26 = .ok (.ireturn, 1) := by decide +kernel
theorem dX6_isRope_0 : decode cX6_isRope 0 = .ok (.iload_n 1, 1) := by decide +kernel
theorem dX6_isRope_1 : decode cX6_isRope 1 = .ok (.i2l, 1) := by decide +kernel
theorem dX6_isRope_2 : decode cX6_isRope 2 = .ok (.lconst 0, 1) := by decide +kernel
theorem dX6_isRope_3 : decode cX6_isRope 3 = .ok (.aload_n 0, 1) := by decide +kernel
theorem dX6_isRope_4 : decode cX6_isRope 4 = .ok (.getfield 7, 3) := by decide +kernel
theorem dX6_isRope_7 : decode cX6_isRope 7 = .ok (.bipush 53, 2) := by decide +kernel
theorem dX6_isRope_9 : decode cX6_isRope 9 = .ok (.iaload, 1) := by decide +kernel
theorem dX6_isRope_10 : decode cX6_isRope 10 = .ok (.iconst 1, 1) := by decide +kernel
theorem dX6_isRope_11 : decode cX6_isRope 11 = .ok (.isub, 1) := by decide +kernel
theorem dX6_isRope_12 : decode cX6_isRope 12 = .ok (.i2l, 1) := by decide +kernel
theorem dX6_isRope_13 : decode cX6_isRope 13 = .ok (.invokestatic 69, 3) := by decide +kernel
theorem dX6_isRope_16 : decode cX6_isRope 16 = .ok (.ireturn, 1) := by decide +kernel
theorem dX6_isFathom_0 : decode cX6_isFathom 0 = .ok (.iload_n 0, 1) := by decide +kernel
theorem dX6_isFathom_1 : decode cX6_isFathom 1 = .ok (.i2l, 1) := by decide +kernel
theorem dX6_isFathom_2 : decode cX6_isFathom 2 = .ok (.lconst 0, 1) := by decide +kernel
theorem dX6_isFathom_3 : decode cX6_isFathom 3 = .ok (.ldc2_w 154, 3) := by decide +kernel
theorem dX6_isFathom_6 : decode cX6_isFathom 6 = .ok (.invokestatic 69, 3) := by decide +kernel
theorem dX6_isFathom_9 : decode cX6_isFathom 9 = .ok (.ireturn, 1) := by decide +kernel
theorem dX6_isPart_0 : decode cX6_isPart 0 = .ok (.iload_n 0, 1) := by decide +kernel
theorem dX6_isPart_1 : decode cX6_isPart 1 = .ok (.i2l, 1) := by decide +kernel
theorem dX6_isPart_2 : decode cX6_isPart 2 = .ok (.lconst 0, 1) := by decide +kernel
theorem dX6_isPart_3 : decode cX6_isPart 3 = .ok (.lconst 1, 1) := by decide +kernel
theorem dX6_isPart_4 : decode cX6_isPart 4 = .ok (.invokestatic 69, 3) := by decide +kernel
theorem dX6_isPart_7 : decode cX6_isPart 7 = .ok (.ireturn, 1) := by decide +kernel
theorem dX6_starts_0 : decode cX6_starts 0 = .ok (.iconst 0, 1) := by decide +kernel
theorem dX6_starts_1 : decode cX6_starts 1 = .ok (.istore_n 1, 1) := by decide +kernel
theorem dX6_starts_2 : decode cX6_starts 2 = .ok (.iload_n 1, 1) := by decide +kernel
theorem dX6_starts_3 : decode cX6_starts 3 = .ok (.bipush 76, 2) := by decide +kernel
theorem dX6_starts_5 : decode cX6_starts 5 = .ok (.if_icmp .ge 21, 3) := by decide +kernel
theorem dX6_starts_8 : decode cX6_starts 8 = .ok (.aload_n 0, 1) := by decide +kernel
theorem dX6_starts_9 : decode cX6_starts 9 = .ok (.getfield 13, 3) := by decide +kernel
theorem dX6_starts_12 : decode cX6_starts 12 = .ok (.iload_n 1, 1) := by decide +kernel
theorem dX6_starts_13 : decode cX6_starts 13 = .ok (.aload_n 0, 1) := by decide +kernel
theorem dX6_starts_14 : decode cX6_starts 14 = .ok (.getfield 7, 3) := by decide +kernel
theorem dX6_starts_17 : decode cX6_starts 17 = .ok (.iload_n 1, 1) := by decide +kernel
theorem dX6_starts_18 : decode cX6_starts 18 = .ok (.iaload, 1) := by decide +kernel
theorem dX6_starts_19 : decode cX6_starts 19 = .ok (.iastore, 1) := by decide +kernel
theorem dX6_starts_20 : decode cX6_starts 20 = .ok (.iinc 1 1, 3) := by decide +kernel
theorem dX6_starts_23 : decode cX6_starts 23 = .ok (.goto (-21), 3) := by decide +kernel
theorem dX6_starts_26 : decode cX6_starts 26 = .ok (.return_, 1) := by decide +kernel
theorem dX6_settles_0 : decode cX6_settles 0 = .ok (.iconst 0, 1) := by decide +kernel
theorem dX6_settles_1 : decode cX6_settles 1 = .ok (.istore_n 1, 1) := by decide +kernel
theorem dX6_settles_2 : decode cX6_settles 2 = .ok (.iload_n 1, 1) := by decide +kernel
theorem dX6_settles_3 : decode cX6_settles 3 = .ok (.bipush 76, 2) := by decide +kernel
theorem dX6_settles_5 : decode cX6_settles 5 = .ok (.if_icmp .ge 21, 3) := by decide +kernel
theorem dX6_settles_8 : decode cX6_settles 8 = .ok (.aload_n 0, 1) := by decide +kernel
theorem dX6_settles_9 : decode cX6_settles 9 = .ok (.getfield 7, 3) := by decide +kernel
theorem dX6_settles_12 : decode cX6_settles 12 = .ok (.iload_n 1, 1) := by decide +kernel
theorem dX6_settles_13 : decode cX6_settles 13 = .ok (.aload_n 0, 1) := by decide +kernel
theorem dX6_settles_14 : decode cX6_settles 14 = .ok (.getfield 13, 3) := by decide +kernel
theorem dX6_settles_17 : decode cX6_settles 17 = .ok (.iload_n 1, 1) := by decide +kernel
theorem dX6_settles_18 : decode cX6_settles 18 = .ok (.iaload, 1) := by decide +kernel
theorem dX6_settles_19 : decode cX6_settles 19 = .ok (.iastore, 1) := by decide +kernel
theorem dX6_settles_20 : decode cX6_settles 20 = .ok (.iinc 1 1, 3) := by decide +kernel
theorem dX6_settles_23 : decode cX6_settles 23 = .ok (.goto (-21), 3) := by decide +kernel
theorem dX6_settles_26 : decode cX6_settles 26 = .ok (.return_, 1) := by decide +kernel
theorem dX6_place_0 : decode cX6_place 0 = .ok (.aload_n 0, 1) := by decide +kernel
theorem dX6_place_1 : decode cX6_place 1 = .ok (.getfield 13, 3) := by decide +kernel
theorem dX6_place_4 : decode cX6_place 4 = .ok (.iconst 2, 1) := by decide +kernel
theorem dX6_place_5 : decode cX6_place 5 = .ok (.iload_n 1, 1) := by decide +kernel
theorem dX6_place_6 : decode cX6_place 6 = .ok (.imul, 1) := by decide +kernel
theorem dX6_place_7 : decode cX6_place 7 = .ok (.iconst 1, 1) := by decide +kernel
theorem dX6_place_8 : decode cX6_place 8 = .ok (.iadd, 1) := by decide +kernel
theorem dX6_place_9 : decode cX6_place 9 = .ok (.iaload, 1) := by decide +kernel
theorem dX6_place_10 : decode cX6_place 10 = .ok (.ireturn, 1) := by decide +kernel
theorem dX6_apart_0 : decode cX6_apart 0 = .ok (.aload_n 0, 1) := by decide +kernel
theorem dX6_apart_1 : decode cX6_apart 1 = .ok (.iload_n 1, 1) := by decide +kernel
theorem dX6_apart_2 : decode cX6_apart 2 = .ok (.invokevirtual 156, 3) := by decide +kernel
theorem dX6_apart_5 : decode cX6_apart 5 = .ok (.aload_n 0, 1) := by decide +kernel
theorem dX6_apart_6 : decode cX6_apart 6 = .ok (.iload_n 2, 1) := by decide +kernel
theorem dX6_apart_7 : decode cX6_apart 7 = .ok (.invokevirtual 156, 3) := by decide +kernel
theorem dX6_apart_10 : decode cX6_apart 10 = .ok (.isub, 1) := by decide +kernel
theorem dX6_apart_11 : decode cX6_apart 11 = .ok (.invokestatic 159, 3) := by decide +kernel
theorem dX6_apart_14 : decode cX6_apart 14 = .ok (.ireturn, 1) := by decide +kernel
theorem dX6_spread_0 : decode cX6_spread 0 = .ok (.iconst 0, 1) := by decide +kernel
theorem dX6_spread_1 : decode cX6_spread 1 = .ok (.istore_n 1, 1) := by decide +kernel
theorem dX6_spread_2 : decode cX6_spread 2 = .ok (.iconst 0, 1) := by decide +kernel
theorem dX6_spread_3 : decode cX6_spread 3 = .ok (.istore_n 2, 1) := by decide +kernel
theorem dX6_spread_4 : decode cX6_spread 4 = .ok (.iload_n 2, 1) := by decide +kernel
theorem dX6_spread_5 : decode cX6_spread 5 = .ok (.aload_n 0, 1) := by decide +kernel
theorem dX6_spread_6 : decode cX6_spread 6 = .ok (.getfield 64, 3) := by decide +kernel
theorem dX6_spread_9 : decode cX6_spread 9 = .ok (.if_icmp .ge 43, 3) := by decide +kernel
theorem dX6_spread_12 : decode cX6_spread 12 = .ok (.iconst 0, 1) := by decide +kernel
theorem dX6_spread_13 : decode cX6_spread 13 = .ok (.istore_n 3, 1) := by decide +kernel
theorem dX6_spread_14 : decode cX6_spread 14 = .ok (.iload_n 3, 1) := by decide +kernel
theorem dX6_spread_15 : decode cX6_spread 15 = .ok (.iload_n 2, 1) := by decide +kernel
theorem dX6_spread_16 : decode cX6_spread 16 = .ok (.if_icmp .ge 30, 3) := by decide +kernel
theorem dX6_spread_19 : decode cX6_spread 19 = .ok (.aload_n 0, 1) := by decide +kernel
theorem dX6_spread_20 : decode cX6_spread 20 = .ok (.iload_n 2, 1) := by decide +kernel
theorem dX6_spread_21 : decode cX6_spread 21 = .ok (.iload_n 3, 1) := by decide +kernel
theorem dX6_spread_22 : decode cX6_spread 22 = .ok (.invokevirtual 162, 3) := by decide +kernel
theorem dX6_spread_25 : decode cX6_spread 25 = .ok (.iload_n 1, 1) := by decide +kernel
theorem dX6_spread_26 : decode cX6_spread 26 = .ok (.if_icmp .le 12, 3) := by decide +kernel
theorem dX6_spread_29 : decode cX6_spread 29 = .ok (.aload_n 0, 1) := by decide +kernel
theorem dX6_spread_30 : decode cX6_spread 30 = .ok (.iload_n 2, 1) := by decide +kernel
theorem dX6_spread_31 : decode cX6_spread 31 = .ok (.iload_n 3, 1) := by decide +kernel
theorem dX6_spread_32 : decode cX6_spread 32 = .ok (.invokevirtual 162, 3) := by decide +kernel
theorem dX6_spread_35 : decode cX6_spread 35 = .ok (.goto 4, 3) := by decide +kernel
theorem dX6_spread_38 : decode cX6_spread 38 = .ok (.iload_n 1, 1) := by decide +kernel
theorem dX6_spread_39 : decode cX6_spread 39 = .ok (.istore_n 1, 1) := by decide +kernel
theorem dX6_spread_40 : decode cX6_spread 40 = .ok (.iinc 3 1, 3) := by decide +kernel
theorem dX6_spread_43 : decode cX6_spread 43 = .ok (.goto (-29), 3) := by decide +kernel
theorem dX6_spread_46 : decode cX6_spread 46 = .ok (.iinc 2 1, 3) := by decide +kernel
theorem dX6_spread_49 : decode cX6_spread 49 = .ok (.goto (-45), 3) := by decide +kernel
theorem dX6_spread_52 : decode cX6_spread 52 = .ok (.iload_n 1, 1) := by decide +kernel
theorem dX6_spread_53 : decode cX6_spread 53 = .ok (.ireturn, 1) := by decide +kernel
theorem dX6_sulkOf_0 : decode cX6_sulkOf 0 = .ok (.iconst 0, 1) := by decide +kernel
theorem dX6_sulkOf_1 : decode cX6_sulkOf 1 = .ok (.istore_n 2, 1) := by decide +kernel
theorem dX6_sulkOf_2 : decode cX6_sulkOf 2 = .ok (.iconst 0, 1) := by decide +kernel
theorem dX6_sulkOf_3 : decode cX6_sulkOf 3 = .ok (.istore_n 3, 1) := by decide +kernel
theorem dX6_sulkOf_4 : decode cX6_sulkOf 4 = .ok (.iload_n 3, 1) := by decide +kernel
theorem dX6_sulkOf_5 : decode cX6_sulkOf 5 = .ok (.aload_n 0, 1) := by decide +kernel
theorem dX6_sulkOf_6 : decode cX6_sulkOf 6 = .ok (.getfield 64, 3) := by decide +kernel
theorem dX6_sulkOf_9 : decode cX6_sulkOf 9 = .ok (.if_icmp .ge 57, 3) := by decide +kernel
theorem dX6_sulkOf_12 : decode cX6_sulkOf 12 = .ok (.aload_n 0, 1) := by decide +kernel
theorem dX6_sulkOf_13 : decode cX6_sulkOf 13 = .ok (.getfield 13, 3) := by decide +kernel
theorem dX6_sulkOf_16 : decode cX6_sulkOf 16 = .ok (.bipush 10, 2) := by decide +kernel
theorem dX6_sulkOf_18 : decode cX6_sulkOf 18 = .ok (.iconst 5, 1) := by decide +kernel
theorem dX6_sulkOf_19 : decode cX6_sulkOf 19 = .ok (.iload_n 1, 1) := by decide +kernel
theorem dX6_sulkOf_20 : decode cX6_sulkOf 20 = .ok (.imul, 1) := by decide +kernel
theorem dX6_sulkOf_21 : decode cX6_sulkOf 21 = .ok (.iadd, 1) := by decide +kernel
theorem dX6_sulkOf_22 : decode cX6_sulkOf 22 = .ok (.iload_n 3, 1) := by decide +kernel
theorem dX6_sulkOf_23 : decode cX6_sulkOf 23 = .ok (.iadd, 1) := by decide +kernel
theorem dX6_sulkOf_24 : decode cX6_sulkOf 24 = .ok (.iaload, 1) := by decide +kernel
theorem dX6_sulkOf_25 : decode cX6_sulkOf 25 = .ok (.istore 4, 2) := by decide +kernel
theorem dX6_sulkOf_27 : decode cX6_sulkOf 27 = .ok (.iload_n 2, 1) := by decide +kernel
theorem dX6_sulkOf_28 : decode cX6_sulkOf 28 = .ok (.iload_n 3, 1) := by decide +kernel
theorem dX6_sulkOf_29 : decode cX6_sulkOf 29 = .ok (.iload_n 1, 1) := by decide +kernel
theorem dX6_sulkOf_30 : decode cX6_sulkOf 30 = .ok (.if_icmp .ne 7, 3) := by decide +kernel
theorem dX6_sulkOf_33 : decode cX6_sulkOf 33 = .ok (.iconst 0, 1) := by decide +kernel
theorem dX6_sulkOf_34 : decode cX6_sulkOf 34 = .ok (.goto 24, 3) := by decide +kernel
theorem dX6_sulkOf_37 : decode cX6_sulkOf 37 = .ok (.aload_n 0, 1) := by decide +kernel
theorem dX6_sulkOf_38 : decode cX6_sulkOf 38 = .ok (.iload_n 1, 1) := by decide +kernel
theorem dX6_sulkOf_39 : decode cX6_sulkOf 39 = .ok (.invokevirtual 156, 3) := by decide +kernel
theorem dX6_sulkOf_42 : decode cX6_sulkOf 42 = .ok (.aload_n 0, 1) := by decide +kernel
theorem dX6_sulkOf_43 : decode cX6_sulkOf 43 = .ok (.iload_n 3, 1) := by decide +kernel
theorem dX6_sulkOf_44 : decode cX6_sulkOf 44 = .ok (.invokevirtual 156, 3) := by decide +kernel
theorem dX6_sulkOf_47 : decode cX6_sulkOf 47 = .ok (.if_icmp .le 8, 3) := by decide +kernel
theorem dX6_sulkOf_50 : decode cX6_sulkOf 50 = .ok (.iload 4, 2) := by decide +kernel
theorem dX6_sulkOf_52 : decode cX6_sulkOf 52 = .ok (.goto 6, 3) := by decide +kernel
theorem dX6_sulkOf_55 : decode cX6_sulkOf 55 = .ok (.iload 4, 2) := by decide +kernel
theorem dX6_sulkOf_57 : decode cX6_sulkOf 57 = .ok (.ineg, 1) := by decide +kernel
theorem dX6_sulkOf_58 : decode cX6_sulkOf 58 = .ok (.iadd, 1) := by decide +kernel
theorem dX6_sulkOf_59 : decode cX6_sulkOf 59 = .ok (.istore_n 2, 1) := by decide +kernel
theorem dX6_sulkOf_60 : decode cX6_sulkOf 60 = .ok (.iinc 3 1, 3) := by decide +kernel
theorem dX6_sulkOf_63 : decode cX6_sulkOf 63 = .ok (.goto (-59), 3) := by decide +kernel
theorem dX6_sulkOf_66 : decode cX6_sulkOf 66 = .ok (.iload_n 2, 1) := by decide +kernel
theorem dX6_sulkOf_67 : decode cX6_sulkOf 67 = .ok (.ireturn, 1) := by decide +kernel
theorem dX6_driftOf_0 : decode cX6_driftOf 0 = .ok (.aload_n 0, 1) := by decide +kernel
theorem dX6_driftOf_1 : decode cX6_driftOf 1 = .ok (.iload_n 1, 1) := by decide +kernel
theorem dX6_driftOf_2 : decode cX6_driftOf 2 = .ok (.invokevirtual 165, 3) := by decide +kernel
theorem dX6_driftOf_5 : decode cX6_driftOf 5 = .ok (.istore_n 2, 1) := by decide +kernel
theorem dX6_driftOf_6 : decode cX6_driftOf 6 = .ok (.iconst 2, 1) := by decide +kernel
theorem dX6_driftOf_7 : decode cX6_driftOf 7 = .ok (.iload_n 2, 1) := by decide +kernel
theorem dX6_driftOf_8 : decode cX6_driftOf 8 = .ok (.imul, 1) := by decide +kernel
theorem dX6_driftOf_9 : decode cX6_driftOf 9 = .ok (.istore_n 3, 1) := by decide +kernel
theorem dX6_driftOf_10 : decode cX6_driftOf 10 = .ok (.aload_n 0, 1) := by decide +kernel
theorem dX6_driftOf_11 : decode cX6_driftOf 11 = .ok (.getfield 13, 3) := by decide +kernel
theorem dX6_driftOf_14 : decode cX6_driftOf 14 = .ok (.iconst 2, 1) := by decide +kernel
theorem dX6_driftOf_15 : decode cX6_driftOf 15 = .ok (.iload_n 1, 1) := by decide +kernel
theorem dX6_driftOf_16 : decode cX6_driftOf 16 = .ok (.imul, 1) := by decide +kernel
theorem dX6_driftOf_17 : decode cX6_driftOf 17 = .ok (.iconst 0, 1) := by decide +kernel
theorem dX6_driftOf_18 : decode cX6_driftOf 18 = .ok (.iadd, 1) := by decide +kernel
theorem dX6_driftOf_19 : decode cX6_driftOf 19 = .ok (.iaload, 1) := by decide +kernel
theorem dX6_driftOf_20 : decode cX6_driftOf 20 = .ok (.tableswitch 68 1 3 #[28, 30, 46], 28) := by decide +kernel
theorem dX6_driftOf_48 : decode cX6_driftOf 48 = .ok (.iload_n 3, 1) := by decide +kernel
theorem dX6_driftOf_49 : decode cX6_driftOf 49 = .ok (.ireturn, 1) := by decide +kernel
theorem dX6_driftOf_50 : decode cX6_driftOf 50 = .ok (.iload_n 2, 1) := by decide +kernel
theorem dX6_driftOf_51 : decode cX6_driftOf 51 = .ok (.ifCond .ge 11, 3) := by decide +kernel
theorem dX6_driftOf_54 : decode cX6_driftOf 54 = .ok (.iload_n 2, 1) := by decide +kernel
theorem dX6_driftOf_55 : decode cX6_driftOf 55 = .ok (.ineg, 1) := by decide +kernel
theorem dX6_driftOf_56 : decode cX6_driftOf 56 = .ok (.iconst 2, 1) := by decide +kernel
theorem dX6_driftOf_57 : decode cX6_driftOf 57 = .ok (.idiv, 1) := by decide +kernel
theorem dX6_driftOf_58 : decode cX6_driftOf 58 = .ok (.ineg, 1) := by decide +kernel
theorem dX6_driftOf_59 : decode cX6_driftOf 59 = .ok (.goto 6, 3) := by decide +kernel
theorem dX6_driftOf_62 : decode cX6_driftOf 62 = .ok (.iload_n 2, 1) := by decide +kernel
theorem dX6_driftOf_63 : decode cX6_driftOf 63 = .ok (.iconst 2, 1) := by decide +kernel
theorem dX6_driftOf_64 : decode cX6_driftOf 64 = .ok (.idiv, 1) := by decide +kernel
theorem dX6_driftOf_65 : decode cX6_driftOf 65 = .ok (.ireturn, 1) := by decide +kernel
theorem dX6_driftOf_66 : decode cX6_driftOf 66 = .ok (.iload_n 3, 1) := by decide +kernel
theorem dX6_driftOf_67 : decode cX6_driftOf 67 = .ok (.ifCond .le 9, 3) := by decide +kernel
theorem dX6_driftOf_70 : decode cX6_driftOf 70 = .ok (.iload_n 3, 1) := by decide +kernel
theorem dX6_driftOf_71 : decode cX6_driftOf 71 = .ok (.iconst 1, 1) := by decide +kernel
theorem dX6_driftOf_72 : decode cX6_driftOf 72 = .ok (.isub, 1) := by decide +kernel
theorem dX6_driftOf_73 : decode cX6_driftOf 73 = .ok (.goto 14, 3) := by decide +kernel
theorem dX6_driftOf_76 : decode cX6_driftOf 76 = .ok (.iload_n 3, 1) := by decide +kernel
theorem dX6_driftOf_77 : decode cX6_driftOf 77 = .ok (.ifCond .ge 9, 3) := by decide +kernel
theorem dX6_driftOf_80 : decode cX6_driftOf 80 = .ok (.iload_n 3, 1) := by decide +kernel
theorem dX6_driftOf_81 : decode cX6_driftOf 81 = .ok (.iconst 1, 1) := by decide +kernel
theorem dX6_driftOf_82 : decode cX6_driftOf 82 = .ok (.iadd, 1) := by decide +kernel
theorem dX6_driftOf_83 : decode cX6_driftOf 83 = .ok (.goto 4, 3) := by decide +kernel
theorem dX6_driftOf_86 : decode cX6_driftOf 86 = .ok (.iconst 0, 1) := by decide +kernel
theorem dX6_driftOf_87 : decode cX6_driftOf 87 = .ok (.ireturn, 1) := by decide +kernel
theorem dX6_driftOf_88 : decode cX6_driftOf 88 = .ok (.iload_n 2, 1) := by decide +kernel
theorem dX6_driftOf_89 : decode cX6_driftOf 89 = .ok (.ireturn, 1) := by decide +kernel
theorem dX6_isHeld_0 : decode cX6_isHeld 0 = .ok (.iconst 0, 1) := by decide +kernel
theorem dX6_isHeld_1 : decode cX6_isHeld 1 = .ok (.istore_n 3, 1) := by decide +kernel
theorem dX6_isHeld_2 : decode cX6_isHeld 2 = .ok (.iconst 0, 1) := by decide +kernel
theorem dX6_isHeld_3 : decode cX6_isHeld 3 = .ok (.istore 4, 2) := by decide +kernel
theorem dX6_isHeld_5 : decode cX6_isHeld 5 = .ok (.iload 4, 2) := by decide +kernel
theorem dX6_isHeld_7 : decode cX6_isHeld 7 = .ok (.aload_n 0, 1) := by decide +kernel
theorem dX6_isHeld_8 : decode cX6_isHeld 8 = .ok (.getfield 13, 3) := by decide +kernel
theorem dX6_isHeld_11 : decode cX6_isHeld 11 = .ok (.bipush 53, 2) := by decide +kernel
theorem dX6_isHeld_13 : decode cX6_isHeld 13 = .ok (.iaload, 1) := by decide +kernel
theorem dX6_isHeld_14 : decode cX6_isHeld 14 = .ok (.if_icmp .ge 124, 3) := by decide +kernel
theorem dX6_isHeld_17 : decode cX6_isHeld 17 = .ok (.bipush 35, 2) := by decide +kernel
theorem dX6_isHeld_19 : decode cX6_isHeld 19 = .ok (.iconst 3, 1) := by decide +kernel
theorem dX6_isHeld_20 : decode cX6_isHeld 20 = .ok (.iload 4, 2) := by decide +kernel
theorem dX6_isHeld_22 : decode cX6_isHeld 22 = .ok (.imul, 1) := by decide +kernel
theorem dX6_isHeld_23 : decode cX6_isHeld 23 = .ok (.iadd, 1) := by decide +kernel
theorem dX6_isHeld_24 : decode cX6_isHeld 24 = .ok (.istore 5, 2) := by decide +kernel
theorem dX6_isHeld_26 : decode cX6_isHeld 26 = .ok (.aload_n 0, 1) := by decide +kernel
theorem dX6_isHeld_27 : decode cX6_isHeld 27 = .ok (.getfield 13, 3) := by decide +kernel
theorem dX6_isHeld_30 : decode cX6_isHeld 30 = .ok (.iload 5, 2) := by decide +kernel
theorem dX6_isHeld_32 : decode cX6_isHeld 32 = .ok (.iaload, 1) := by decide +kernel
theorem dX6_isHeld_33 : decode cX6_isHeld 33 = .ok (.iload_n 1, 1) := by decide +kernel
theorem dX6_isHeld_34 : decode cX6_isHeld 34 = .ok (.if_icmp .ne 15, 3) := by decide +kernel
theorem dX6_isHeld_37 : decode cX6_isHeld 37 = .ok (.aload_n 0, 1) := by decide +kernel
theorem dX6_isHeld_38 : decode cX6_isHeld 38 = .ok (.getfield 13, 3) := by decide +kernel
theorem dX6_isHeld_41 : decode cX6_isHeld 41 = .ok (.iload 5, 2) := by decide +kernel
theorem dX6_isHeld_43 : decode cX6_isHeld 43 = .ok (.iconst 1, 1) := by decide +kernel
theorem dX6_isHeld_44 : decode cX6_isHeld 44 = .ok (.iadd, 1) := by decide +kernel
theorem dX6_isHeld_45 : decode cX6_isHeld 45 = .ok (.iaload, 1) := by decide +kernel
theorem dX6_isHeld_46 : decode cX6_isHeld 46 = .ok (.goto 28, 3) := by decide +kernel
theorem dX6_isHeld_49 : decode cX6_isHeld 49 = .ok (.aload_n 0, 1) := by decide +kernel
theorem dX6_isHeld_50 : decode cX6_isHeld 50 = .ok (.getfield 13, 3) := by decide +kernel
theorem dX6_isHeld_53 : decode cX6_isHeld 53 = .ok (.iload 5, 2) := by decide +kernel
theorem dX6_isHeld_55 : decode cX6_isHeld 55 = .ok (.iconst 1, 1) := by decide +kernel
theorem dX6_isHeld_56 : decode cX6_isHeld 56 = .ok (.iadd, 1) := by decide +kernel
theorem dX6_isHeld_57 : decode cX6_isHeld 57 = .ok (.iaload, 1) := by decide +kernel
theorem dX6_isHeld_58 : decode cX6_isHeld 58 = .ok (.iload_n 1, 1) := by decide +kernel
theorem dX6_isHeld_59 : decode cX6_isHeld 59 = .ok (.if_icmp .ne 13, 3) := by decide +kernel
theorem dX6_isHeld_62 : decode cX6_isHeld 62 = .ok (.aload_n 0, 1) := by decide +kernel
theorem dX6_isHeld_63 : decode cX6_isHeld 63 = .ok (.getfield 13, 3) := by decide +kernel
theorem dX6_isHeld_66 : decode cX6_isHeld 66 = .ok (.iload 5, 2) := by decide +kernel
theorem dX6_isHeld_68 : decode cX6_isHeld 68 = .ok (.iaload, 1) := by decide +kernel
theorem dX6_isHeld_69 : decode cX6_isHeld 69 = .ok (.goto 5, 3) := by decide +kernel
theorem dX6_isHeld_72 : decode cX6_isHeld 72 = .ok (.bipush (-4), 2) := by decide +kernel
theorem dX6_isHeld_74 : decode cX6_isHeld 74 = .ok (.istore 6, 2) := by decide +kernel
theorem dX6_isHeld_76 : decode cX6_isHeld 76 = .ok (.iload 6, 2) := by decide +kernel
theorem dX6_isHeld_78 : decode cX6_isHeld 78 = .ok (.bipush (-4), 2) := by decide +kernel
theorem dX6_isHeld_80 : decode cX6_isHeld 80 = .ok (.if_icmp .eq 52, 3) := by decide +kernel
theorem dX6_isHeld_83 : decode cX6_isHeld 83 = .ok (.iload_n 2, 1) := by decide +kernel
theorem dX6_isHeld_84 : decode cX6_isHeld 84 = .ok (.aload_n 0, 1) := by decide +kernel
theorem dX6_isHeld_85 : decode cX6_isHeld 85 = .ok (.iload 6, 2) := by decide +kernel
theorem dX6_isHeld_87 : decode cX6_isHeld 87 = .ok (.invokevirtual 156, 3) := by decide +kernel
theorem dX6_isHeld_90 : decode cX6_isHeld 90 = .ok (.isub, 1) := by decide +kernel
theorem dX6_isHeld_91 : decode cX6_isHeld 91 = .ok (.invokestatic 159, 3) := by decide +kernel
theorem dX6_isHeld_94 : decode cX6_isHeld 94 = .ok (.istore 7, 2) := by decide +kernel
theorem dX6_isHeld_96 : decode cX6_isHeld 96 = .ok (.iload_n 3, 1) := by decide +kernel
theorem dX6_isHeld_97 : decode cX6_isHeld 97 = .ok (.ifCond .ne 29, 3) := by decide +kernel
theorem dX6_isHeld_100 : decode cX6_isHeld 100 = .ok (.iload 7, 2) := by decide +kernel
theorem dX6_isHeld_102 : decode cX6_isHeld 102 = .ok (.aload_n 0, 1) := by decide +kernel
theorem dX6_isHeld_103 : decode cX6_isHeld 103 = .ok (.getfield 13, 3) := by decide +kernel
theorem dX6_isHeld_106 : decode cX6_isHeld 106 = .ok (.iload 5, 2) := by decide +kernel
theorem dX6_isHeld_108 : decode cX6_isHeld 108 = .ok (.iconst 2, 1) := by decide +kernel
theorem dX6_isHeld_109 : decode cX6_isHeld 109 = .ok (.iadd, 1) := by decide +kernel
theorem dX6_isHeld_110 : decode cX6_isHeld 110 = .ok (.iaload, 1) := by decide +kernel
theorem dX6_isHeld_111 : decode cX6_isHeld 111 = .ok (.if_icmp .le 19, 3) := by decide +kernel
theorem dX6_isHeld_114 : decode cX6_isHeld 114 = .ok (.iload 7, 2) := by decide +kernel
theorem dX6_isHeld_116 : decode cX6_isHeld 116 = .ok (.aload_n 0, 1) := by decide +kernel
theorem dX6_isHeld_117 : decode cX6_isHeld 117 = .ok (.iload_n 1, 1) := by decide +kernel
theorem dX6_isHeld_118 : decode cX6_isHeld 118 = .ok (.iload 6, 2) := by decide +kernel
theorem dX6_isHeld_120 : decode cX6_isHeld 120 = .ok (.invokevirtual 162, 3) := by decide +kernel
theorem dX6_isHeld_123 : decode cX6_isHeld 123 = .ok (.if_icmp .le 7, 3) := by decide +kernel
theorem dX6_isHeld_126 : decode cX6_isHeld 126 = .ok (.iconst 1, 1) := by decide +kernel
theorem dX6_isHeld_127 : decode cX6_isHeld 127 = .ok (.goto 4, 3) := by decide +kernel
theorem dX6_isHeld_130 : decode cX6_isHeld 130 = .ok (.iconst 0, 1) := by decide +kernel
theorem dX6_isHeld_131 : decode cX6_isHeld 131 = .ok (.istore_n 3, 1) := by decide +kernel
theorem dX6_isHeld_132 : decode cX6_isHeld 132 = .ok (.iinc 4 1, 3) := by decide +kernel
theorem dX6_isHeld_135 : decode cX6_isHeld 135 = .ok (.goto (-130), 3) := by decide +kernel
theorem dX6_isHeld_138 : decode cX6_isHeld 138 = .ok (.iload_n 3, 1) := by decide +kernel
theorem dX6_isHeld_139 : decode cX6_isHeld 139 = .ok (.ireturn, 1) := by decide +kernel
theorem dX6_isTaken_0 : decode cX6_isTaken 0 = .ok (.iconst 0, 1) := by decide +kernel
theorem dX6_isTaken_1 : decode cX6_isTaken 1 = .ok (.istore_n 2, 1) := by decide +kernel
theorem dX6_isTaken_2 : decode cX6_isTaken 2 = .ok (.iconst 0, 1) := by decide +kernel
theorem dX6_isTaken_3 : decode cX6_isTaken 3 = .ok (.istore_n 3, 1) := by decide +kernel
theorem dX6_isTaken_4 : decode cX6_isTaken 4 = .ok (.iload_n 3, 1) := by decide +kernel
theorem dX6_isTaken_5 : decode cX6_isTaken 5 = .ok (.aload_n 0, 1) := by decide +kernel
theorem dX6_isTaken_6 : decode cX6_isTaken 6 = .ok (.getfield 64, 3) := by decide +kernel
theorem dX6_isTaken_9 : decode cX6_isTaken 9 = .ok (.if_icmp .ge 28, 3) := by decide +kernel
theorem dX6_isTaken_12 : decode cX6_isTaken 12 = .ok (.iload_n 2, 1) := by decide +kernel
theorem dX6_isTaken_13 : decode cX6_isTaken 13 = .ok (.ifCond .ne 12, 3) := by decide +kernel
theorem dX6_isTaken_16 : decode cX6_isTaken 16 = .ok (.aload_n 0, 1) := by decide +kernel
theorem dX6_isTaken_17 : decode cX6_isTaken 17 = .ok (.iload_n 3, 1) := by decide +kernel
theorem dX6_isTaken_18 : decode cX6_isTaken 18 = .ok (.invokevirtual 156, 3) := by decide +kernel
theorem dX6_isTaken_21 : decode cX6_isTaken 21 = .ok (.iload_n 1, 1) := by decide +kernel
theorem dX6_isTaken_22 : decode cX6_isTaken 22 = .ok (.if_icmp .ne 7, 3) := by decide +kernel
theorem dX6_isTaken_25 : decode cX6_isTaken 25 = .ok (.iconst 1, 1) := by decide +kernel
theorem dX6_isTaken_26 : decode cX6_isTaken 26 = .ok (.goto 4, 3) := by decide +kernel
theorem dX6_isTaken_29 : decode cX6_isTaken 29 = .ok (.iconst 0, 1) := by decide +kernel
theorem dX6_isTaken_30 : decode cX6_isTaken 30 = .ok (.istore_n 2, 1) := by decide +kernel
theorem dX6_isTaken_31 : decode cX6_isTaken 31 = .ok (.iinc 3 1, 3) := by decide +kernel
theorem dX6_isTaken_34 : decode cX6_isTaken 34 = .ok (.goto (-30), 3) := by decide +kernel
theorem dX6_isTaken_37 : decode cX6_isTaken 37 = .ok (.iload_n 2, 1) := by decide +kernel
theorem dX6_isTaken_38 : decode cX6_isTaken 38 = .ok (.ireturn, 1) := by decide +kernel
theorem dX6_nearest_0 : decode cX6_nearest 0 = .ok (.bipush (-4), 2) := by decide +kernel
theorem dX6_nearest_2 : decode cX6_nearest 2 = .ok (.istore_n 2, 1) := by decide +kernel
theorem dX6_nearest_3 : decode cX6_nearest 3 = .ok (.iconst 0, 1) := by decide +kernel
theorem dX6_nearest_4 : decode cX6_nearest 4 = .ok (.istore_n 3, 1) := by decide +kernel
theorem dX6_nearest_5 : decode cX6_nearest 5 = .ok (.iload_n 3, 1) := by decide +kernel
theorem dX6_nearest_6 : decode cX6_nearest 6 = .ok (.aload_n 0, 1) := by decide +kernel
theorem dX6_nearest_7 : decode cX6_nearest 7 = .ok (.getfield 64, 3) := by decide +kernel
theorem dX6_nearest_10 : decode cX6_nearest 10 = .ok (.if_icmp .ge 41, 3) := by decide +kernel
theorem dX6_nearest_13 : decode cX6_nearest 13 = .ok (.iload_n 3, 1) := by decide +kernel
theorem dX6_nearest_14 : decode cX6_nearest 14 = .ok (.iload_n 1, 1) := by decide +kernel
theorem dX6_nearest_15 : decode cX6_nearest 15 = .ok (.if_icmp .eq 28, 3) := by decide +kernel
theorem dX6_nearest_18 : decode cX6_nearest 18 = .ok (.iload_n 2, 1) := by decide +kernel
theorem dX6_nearest_19 : decode cX6_nearest 19 = .ok (.bipush (-4), 2) := by decide +kernel
theorem dX6_nearest_21 : decode cX6_nearest 21 = .ok (.if_icmp .eq 18, 3) := by decide +kernel
theorem dX6_nearest_24 : decode cX6_nearest 24 = .ok (.aload_n 0, 1) := by decide +kernel
theorem dX6_nearest_25 : decode cX6_nearest 25 = .ok (.iload_n 1, 1) := by decide +kernel
theorem dX6_nearest_26 : decode cX6_nearest 26 = .ok (.iload_n 3, 1) := by decide +kernel
theorem dX6_nearest_27 : decode cX6_nearest 27 = .ok (.invokevirtual 162, 3) := by decide +kernel
theorem dX6_nearest_30 : decode cX6_nearest 30 = .ok (.aload_n 0, 1) := by decide +kernel
theorem dX6_nearest_31 : decode cX6_nearest 31 = .ok (.iload_n 1, 1) := by decide +kernel
theorem dX6_nearest_32 : decode cX6_nearest 32 = .ok (.iload_n 2, 1) := by decide +kernel
theorem dX6_nearest_33 : decode cX6_nearest 33 = .ok (.invokevirtual 162, 3) := by decide +kernel
theorem dX6_nearest_36 : decode cX6_nearest 36 = .ok (.if_icmp .ge 7, 3) := by decide +kernel
theorem dX6_nearest_39 : decode cX6_nearest 39 = .ok (.iload_n 3, 1) := by decide +kernel
theorem dX6_nearest_40 : decode cX6_nearest 40 = .ok (.goto 4, 3) := by decide +kernel
theorem dX6_nearest_43 : decode cX6_nearest 43 = .ok (.iload_n 2, 1) := by decide +kernel
theorem dX6_nearest_44 : decode cX6_nearest 44 = .ok (.istore_n 2, 1) := by decide +kernel
theorem dX6_nearest_45 : decode cX6_nearest 45 = .ok (.iinc 3 1, 3) := by decide +kernel
theorem dX6_nearest_48 : decode cX6_nearest 48 = .ok (.goto (-43), 3) := by decide +kernel
theorem dX6_nearest_51 : decode cX6_nearest 51 = .ok (.iload_n 2, 1) := by decide +kernel
theorem dX6_nearest_52 : decode cX6_nearest 52 = .ok (.ireturn, 1) := by decide +kernel
theorem dX6_drifts_0 : decode cX6_drifts 0 = .ok (.aload_n 0, 1) := by decide +kernel
theorem dX6_drifts_1 : decode cX6_drifts 1 = .ok (.iload_n 1, 1) := by decide +kernel
theorem dX6_drifts_2 : decode cX6_drifts 2 = .ok (.invokevirtual 168, 3) := by decide +kernel
theorem dX6_drifts_5 : decode cX6_drifts 5 = .ok (.istore_n 2, 1) := by decide +kernel
theorem dX6_drifts_6 : decode cX6_drifts 6 = .ok (.iload_n 2, 1) := by decide +kernel
theorem dX6_drifts_7 : decode cX6_drifts 7 = .ok (.ifCond .ge 7, 3) := by decide +kernel
theorem dX6_drifts_10 : decode cX6_drifts 10 = .ok (.iconst (-1), 1) := by decide +kernel
theorem dX6_drifts_11 : decode cX6_drifts 11 = .ok (.goto 4, 3) := by decide +kernel
theorem dX6_drifts_14 : decode cX6_drifts 14 = .ok (.iconst 1, 1) := by decide +kernel
theorem dX6_drifts_15 : decode cX6_drifts 15 = .ok (.istore_n 3, 1) := by decide +kernel
theorem dX6_drifts_16 : decode cX6_drifts 16 = .ok (.iconst 0, 1) := by decide +kernel
theorem dX6_drifts_17 : decode cX6_drifts 17 = .ok (.istore 4, 2) := by decide +kernel
theorem dX6_drifts_19 : decode cX6_drifts 19 = .ok (.iconst 0, 1) := by decide +kernel
theorem dX6_drifts_20 : decode cX6_drifts 20 = .ok (.istore 5, 2) := by decide +kernel
theorem dX6_drifts_22 : decode cX6_drifts 22 = .ok (.iload 5, 2) := by decide +kernel
theorem dX6_drifts_24 : decode cX6_drifts 24 = .ok (.iload_n 2, 1) := by decide +kernel
theorem dX6_drifts_25 : decode cX6_drifts 25 = .ok (.invokestatic 159, 3) := by decide +kernel
theorem dX6_drifts_28 : decode cX6_drifts 28 = .ok (.if_icmp .ge 99, 3) := by decide +kernel
theorem dX6_drifts_31 : decode cX6_drifts 31 = .ok (.iload 4, 2) := by decide +kernel
theorem dX6_drifts_33 : decode cX6_drifts 33 = .ok (.ifCond .ne 94, 3) := by decide +kernel
theorem dX6_drifts_36 : decode cX6_drifts 36 = .ok (.aload_n 0, 1) := by decide +kernel
theorem dX6_drifts_37 : decode cX6_drifts 37 = .ok (.iload_n 1, 1) := by decide +kernel
theorem dX6_drifts_38 : decode cX6_drifts 38 = .ok (.invokevirtual 156, 3) := by decide +kernel
theorem dX6_drifts_41 : decode cX6_drifts 41 = .ok (.iload_n 3, 1) := by decide +kernel
theorem dX6_drifts_42 : decode cX6_drifts 42 = .ok (.iadd, 1) := by decide +kernel
theorem dX6_drifts_43 : decode cX6_drifts 43 = .ok (.istore 6, 2) := by decide +kernel
theorem dX6_drifts_45 : decode cX6_drifts 45 = .ok (.iload 6, 2) := by decide +kernel
theorem dX6_drifts_47 : decode cX6_drifts 47 = .ok (.invokestatic 171, 3) := by decide +kernel
theorem dX6_drifts_50 : decode cX6_drifts 50 = .ok (.ifCond .eq 13, 3) := by decide +kernel
theorem dX6_drifts_53 : decode cX6_drifts 53 = .ok (.aload_n 0, 1) := by decide +kernel
theorem dX6_drifts_54 : decode cX6_drifts 54 = .ok (.iload_n 1, 1) := by decide +kernel
theorem dX6_drifts_55 : decode cX6_drifts 55 = .ok (.iload 6, 2) := by decide +kernel
theorem dX6_drifts_57 : decode cX6_drifts 57 = .ok (.invokevirtual 174, 3) := by decide +kernel
theorem dX6_drifts_60 : decode cX6_drifts 60 = .ok (.ifCond .eq 7, 3) := by decide +kernel
theorem dX6_drifts_63 : decode cX6_drifts 63 = .ok (.iconst 1, 1) := by decide +kernel
theorem dX6_drifts_64 : decode cX6_drifts 64 = .ok (.goto 4, 3) := by decide +kernel
theorem dX6_drifts_67 : decode cX6_drifts 67 = .ok (.iconst 0, 1) := by decide +kernel
theorem dX6_drifts_68 : decode cX6_drifts 68 = .ok (.istore 4, 2) := by decide +kernel
theorem dX6_drifts_70 : decode cX6_drifts 70 = .ok (.iload 4, 2) := by decide +kernel
theorem dX6_drifts_72 : decode cX6_drifts 72 = .ok (.ifCond .ne 26, 3) := by decide +kernel
theorem dX6_drifts_75 : decode cX6_drifts 75 = .ok (.aload_n 0, 1) := by decide +kernel
theorem dX6_drifts_76 : decode cX6_drifts 76 = .ok (.iload 6, 2) := by decide +kernel
theorem dX6_drifts_78 : decode cX6_drifts 78 = .ok (.invokevirtual 178, 3) := by decide +kernel
theorem dX6_drifts_81 : decode cX6_drifts 81 = .ok (.ifCond .eq 17, 3) := by decide +kernel
theorem dX6_drifts_84 : decode cX6_drifts 84 = .ok (.iconst 1, 1) := by decide +kernel
theorem dX6_drifts_85 : decode cX6_drifts 85 = .ok (.istore 4, 2) := by decide +kernel
theorem dX6_drifts_87 : decode cX6_drifts 87 = .ok (.aload_n 0, 1) := by decide +kernel
theorem dX6_drifts_88 : decode cX6_drifts 88 = .ok (.getfield 13, 3) := by decide +kernel
theorem dX6_drifts_91 : decode cX6_drifts 91 = .ok (.bipush 56, 2) := by decide +kernel
theorem dX6_drifts_93 : decode cX6_drifts 93 = .ok (.dup2, 1) := by decide +kernel
theorem dX6_drifts_94 : decode cX6_drifts 94 = .ok (.iaload, 1) := by decide +kernel
theorem dX6_drifts_95 : decode cX6_drifts 95 = .ok (.iconst 1, 1) := by decide +kernel
theorem dX6_drifts_96 : decode cX6_drifts 96 = .ok (.iadd, 1) := by decide +kernel
theorem dX6_drifts_97 : decode cX6_drifts 97 = .ok (.iastore, 1) := by decide +kernel
theorem dX6_drifts_98 : decode cX6_drifts 98 = .ok (.aload_n 0, 1) := by decide +kernel
theorem dX6_drifts_99 : decode cX6_drifts 99 = .ok (.getfield 13, 3) := by decide +kernel
theorem dX6_drifts_102 : decode cX6_drifts 102 = .ok (.iconst 2, 1) := by decide +kernel
theorem dX6_drifts_103 : decode cX6_drifts 103 = .ok (.iload_n 1, 1) := by decide +kernel
theorem dX6_drifts_104 : decode cX6_drifts 104 = .ok (.imul, 1) := by decide +kernel
theorem dX6_drifts_105 : decode cX6_drifts 105 = .ok (.iconst 1, 1) := by decide +kernel
theorem dX6_drifts_106 : decode cX6_drifts 106 = .ok (.iadd, 1) := by decide +kernel
theorem dX6_drifts_107 : decode cX6_drifts 107 = .ok (.dup2, 1) := by decide +kernel
theorem dX6_drifts_108 : decode cX6_drifts 108 = .ok (.iaload, 1) := by decide +kernel
theorem dX6_drifts_109 : decode cX6_drifts 109 = .ok (.iload 4, 2) := by decide +kernel
theorem dX6_drifts_111 : decode cX6_drifts 111 = .ok (.ifCond .eq 7, 3) := by decide +kernel
theorem dX6_drifts_114 : decode cX6_drifts 114 = .ok (.iconst 0, 1) := by decide +kernel
theorem dX6_drifts_115 : decode cX6_drifts 115 = .ok (.goto 4, 3) := by decide +kernel
theorem dX6_drifts_118 : decode cX6_drifts 118 = .ok (.iload_n 3, 1) := by decide +kernel
theorem dX6_drifts_119 : decode cX6_drifts 119 = .ok (.iadd, 1) := by decide +kernel
theorem dX6_drifts_120 : decode cX6_drifts 120 = .ok (.iastore, 1) := by decide +kernel
theorem dX6_drifts_121 : decode cX6_drifts 121 = .ok (.iinc 5 1, 3) := by decide +kernel
theorem dX6_drifts_124 : decode cX6_drifts 124 = .ok (.goto (-102), 3) := by decide +kernel
theorem dX6_drifts_127 : decode cX6_drifts 127 = .ok (.return_, 1) := by decide +kernel
theorem dX6_feasts_0 : decode cX6_feasts 0 = .ok (.aload_n 0, 1) := by decide +kernel
theorem dX6_feasts_1 : decode cX6_feasts 1 = .ok (.iload_n 1, 1) := by decide +kernel
theorem dX6_feasts_2 : decode cX6_feasts 2 = .ok (.invokevirtual 181, 3) := by decide +kernel
theorem dX6_feasts_5 : decode cX6_feasts 5 = .ok (.istore_n 2, 1) := by decide +kernel
theorem dX6_feasts_6 : decode cX6_feasts 6 = .ok (.iload_n 2, 1) := by decide +kernel
theorem dX6_feasts_7 : decode cX6_feasts 7 = .ok (.bipush (-4), 2) := by decide +kernel
theorem dX6_feasts_9 : decode cX6_feasts 9 = .ok (.if_icmp .eq 66, 3) := by decide +kernel
theorem dX6_feasts_12 : decode cX6_feasts 12 = .ok (.aload_n 0, 1) := by decide +kernel
theorem dX6_feasts_13 : decode cX6_feasts 13 = .ok (.iload_n 1, 1) := by decide +kernel
theorem dX6_feasts_14 : decode cX6_feasts 14 = .ok (.iload_n 2, 1) := by decide +kernel
theorem dX6_feasts_15 : decode cX6_feasts 15 = .ok (.invokevirtual 162, 3) := by decide +kernel
theorem dX6_feasts_18 : decode cX6_feasts 18 = .ok (.iconst 1, 1) := by decide +kernel
theorem dX6_feasts_19 : decode cX6_feasts 19 = .ok (.if_icmp .le 56, 3) := by decide +kernel
theorem dX6_feasts_22 : decode cX6_feasts 22 = .ok (.aload_n 0, 1) := by decide +kernel
theorem dX6_feasts_23 : decode cX6_feasts 23 = .ok (.iload_n 1, 1) := by decide +kernel
theorem dX6_feasts_24 : decode cX6_feasts 24 = .ok (.invokevirtual 156, 3) := by decide +kernel
theorem dX6_feasts_27 : decode cX6_feasts 27 = .ok (.aload_n 0, 1) := by decide +kernel
theorem dX6_feasts_28 : decode cX6_feasts 28 = .ok (.iload_n 2, 1) := by decide +kernel
theorem dX6_feasts_29 : decode cX6_feasts 29 = .ok (.invokevirtual 156, 3) := by decide +kernel
theorem dX6_feasts_32 : decode cX6_feasts 32 = .ok (.aload_n 0, 1) := by decide +kernel
theorem dX6_feasts_33 : decode cX6_feasts 33 = .ok (.iload_n 1, 1) := by decide +kernel
theorem dX6_feasts_34 : decode cX6_feasts 34 = .ok (.invokevirtual 156, 3) := by decide +kernel
theorem dX6_feasts_37 : decode cX6_feasts 37 = .ok (.if_icmp .le 7, 3) := by decide +kernel
theorem dX6_feasts_40 : decode cX6_feasts 40 = .ok (.iconst 1, 1) := by decide +kernel
theorem dX6_feasts_41 : decode cX6_feasts 41 = .ok (.goto 4, 3) := by decide +kernel
theorem dX6_feasts_44 : decode cX6_feasts 44 = .ok (.iconst (-1), 1) := by decide +kernel
theorem dX6_feasts_45 : decode cX6_feasts 45 = .ok (.iadd, 1) := by decide +kernel
theorem dX6_feasts_46 : decode cX6_feasts 46 = .ok (.istore_n 3, 1) := by decide +kernel
theorem dX6_feasts_47 : decode cX6_feasts 47 = .ok (.aload_n 0, 1) := by decide +kernel
theorem dX6_feasts_48 : decode cX6_feasts 48 = .ok (.getfield 13, 3) := by decide +kernel
theorem dX6_feasts_51 : decode cX6_feasts 51 = .ok (.iconst 2, 1) := by decide +kernel
theorem dX6_feasts_52 : decode cX6_feasts 52 = .ok (.iload_n 1, 1) := by decide +kernel
theorem dX6_feasts_53 : decode cX6_feasts 53 = .ok (.imul, 1) := by decide +kernel
theorem dX6_feasts_54 : decode cX6_feasts 54 = .ok (.iconst 1, 1) := by decide +kernel
theorem dX6_feasts_55 : decode cX6_feasts 55 = .ok (.iadd, 1) := by decide +kernel
theorem dX6_feasts_56 : decode cX6_feasts 56 = .ok (.aload_n 0, 1) := by decide +kernel
theorem dX6_feasts_57 : decode cX6_feasts 57 = .ok (.iload_n 1, 1) := by decide +kernel
theorem dX6_feasts_58 : decode cX6_feasts 58 = .ok (.iload_n 3, 1) := by decide +kernel
theorem dX6_feasts_59 : decode cX6_feasts 59 = .ok (.invokevirtual 174, 3) := by decide +kernel
theorem dX6_feasts_62 : decode cX6_feasts 62 = .ok (.ifCond .eq 11, 3) := by decide +kernel
theorem dX6_feasts_65 : decode cX6_feasts 65 = .ok (.aload_n 0, 1) := by decide +kernel
theorem dX6_feasts_66 : decode cX6_feasts 66 = .ok (.iload_n 1, 1) := by decide +kernel
theorem dX6_feasts_67 : decode cX6_feasts 67 = .ok (.invokevirtual 156, 3) := by decide +kernel
theorem dX6_feasts_70 : decode cX6_feasts 70 = .ok (.goto 4, 3) := by decide +kernel
theorem dX6_feasts_73 : decode cX6_feasts 73 = .ok (.iload_n 3, 1) := by decide +kernel
theorem dX6_feasts_74 : decode cX6_feasts 74 = .ok (.iastore, 1) := by decide +kernel
theorem dX6_feasts_75 : decode cX6_feasts 75 = .ok (.return_, 1) := by decide +kernel
theorem dX6_dayGoes_0 : decode cX6_dayGoes 0 = .ok (.aload_n 0, 1) := by decide +kernel
theorem dX6_dayGoes_1 : decode cX6_dayGoes 1 = .ok (.getfield 13, 3) := by decide +kernel
theorem dX6_dayGoes_4 : decode cX6_dayGoes 4 = .ok (.bipush 54, 2) := by decide +kernel
theorem dX6_dayGoes_6 : decode cX6_dayGoes 6 = .ok (.iaload, 1) := by decide +kernel
theorem dX6_dayGoes_7 : decode cX6_dayGoes 7 = .ok (.bipush 7, 2) := by decide +kernel
theorem dX6_dayGoes_9 : decode cX6_dayGoes 9 = .ok (.irem, 1) := by decide +kernel
theorem dX6_dayGoes_10 : decode cX6_dayGoes 10 = .ok (.aload_n 0, 1) := by decide +kernel
theorem dX6_dayGoes_11 : decode cX6_dayGoes 11 = .ok (.getfield 13, 3) := by decide +kernel
theorem dX6_dayGoes_14 : decode cX6_dayGoes 14 = .ok (.bipush 55, 2) := by decide +kernel
theorem dX6_dayGoes_16 : decode cX6_dayGoes 16 = .ok (.iaload, 1) := by decide +kernel
theorem dX6_dayGoes_17 : decode cX6_dayGoes 17 = .ok (.if_icmp .ne 7, 3) := by decide +kernel
theorem dX6_dayGoes_20 : decode cX6_dayGoes 20 = .ok (.iconst 1, 1) := by decide +kernel
theorem dX6_dayGoes_21 : decode cX6_dayGoes 21 = .ok (.goto 4, 3) := by decide +kernel
theorem dX6_dayGoes_24 : decode cX6_dayGoes 24 = .ok (.iconst 0, 1) := by decide +kernel
theorem dX6_dayGoes_25 : decode cX6_dayGoes 25 = .ok (.istore_n 2, 1) := by decide +kernel
theorem dX6_dayGoes_26 : decode cX6_dayGoes 26 = .ok (.iconst 0, 1) := by decide +kernel
theorem dX6_dayGoes_27 : decode cX6_dayGoes 27 = .ok (.istore_n 3, 1) := by decide +kernel
theorem dX6_dayGoes_28 : decode cX6_dayGoes 28 = .ok (.iload_n 3, 1) := by decide +kernel
theorem dX6_dayGoes_29 : decode cX6_dayGoes 29 = .ok (.aload_n 0, 1) := by decide +kernel
theorem dX6_dayGoes_30 : decode cX6_dayGoes 30 = .ok (.getfield 64, 3) := by decide +kernel
theorem dX6_dayGoes_33 : decode cX6_dayGoes 33 = .ok (.if_icmp .ge 30, 3) := by decide +kernel
theorem dX6_dayGoes_36 : decode cX6_dayGoes 36 = .ok (.iload_n 1, 1) := by decide +kernel
theorem dX6_dayGoes_37 : decode cX6_dayGoes 37 = .ok (.ifCond .ne 26, 3) := by decide +kernel
theorem dX6_dayGoes_40 : decode cX6_dayGoes 40 = .ok (.iload_n 2, 1) := by decide +kernel
theorem dX6_dayGoes_41 : decode cX6_dayGoes 41 = .ok (.ifCond .eq 11, 3) := by decide +kernel
theorem dX6_dayGoes_44 : decode cX6_dayGoes 44 = .ok (.aload_n 0, 1) := by decide +kernel
theorem dX6_dayGoes_45 : decode cX6_dayGoes 45 = .ok (.iload_n 3, 1) := by decide +kernel
theorem dX6_dayGoes_46 : decode cX6_dayGoes 46 = .ok (.invokevirtual 184, 3) := by decide +kernel
theorem dX6_dayGoes_49 : decode cX6_dayGoes 49 = .ok (.goto 8, 3) := by decide +kernel
theorem dX6_dayGoes_52 : decode cX6_dayGoes 52 = .ok (.aload_n 0, 1) := by decide +kernel
theorem dX6_dayGoes_53 : decode cX6_dayGoes 53 = .ok (.iload_n 3, 1) := by decide +kernel
theorem dX6_dayGoes_54 : decode cX6_dayGoes 54 = .ok (.invokevirtual 187, 3) := by decide +kernel
theorem dX6_dayGoes_57 : decode cX6_dayGoes 57 = .ok (.iinc 3 1, 3) := by decide +kernel
theorem dX6_dayGoes_60 : decode cX6_dayGoes 60 = .ok (.goto (-32), 3) := by decide +kernel
theorem dX6_dayGoes_63 : decode cX6_dayGoes 63 = .ok (.aload_n 0, 1) := by decide +kernel
theorem dX6_dayGoes_64 : decode cX6_dayGoes 64 = .ok (.getfield 13, 3) := by decide +kernel
theorem dX6_dayGoes_67 : decode cX6_dayGoes 67 = .ok (.bipush 54, 2) := by decide +kernel
theorem dX6_dayGoes_69 : decode cX6_dayGoes 69 = .ok (.dup2, 1) := by decide +kernel
theorem dX6_dayGoes_70 : decode cX6_dayGoes 70 = .ok (.iaload, 1) := by decide +kernel
theorem dX6_dayGoes_71 : decode cX6_dayGoes 71 = .ok (.iconst 1, 1) := by decide +kernel
theorem dX6_dayGoes_72 : decode cX6_dayGoes 72 = .ok (.iadd, 1) := by decide +kernel
theorem dX6_dayGoes_73 : decode cX6_dayGoes 73 = .ok (.iastore, 1) := by decide +kernel
theorem dX6_dayGoes_74 : decode cX6_dayGoes 74 = .ok (.return_, 1) := by decide +kernel
theorem dX6_daysGo_0 : decode cX6_daysGo 0 = .ok (.iconst 0, 1) := by decide +kernel
theorem dX6_daysGo_1 : decode cX6_daysGo 1 = .ok (.istore_n 2, 1) := by decide +kernel
theorem dX6_daysGo_2 : decode cX6_daysGo 2 = .ok (.iload_n 2, 1) := by decide +kernel
theorem dX6_daysGo_3 : decode cX6_daysGo 3 = .ok (.iload_n 1, 1) := by decide +kernel
theorem dX6_daysGo_4 : decode cX6_daysGo 4 = .ok (.if_icmp .ge 14, 3) := by decide +kernel
theorem dX6_daysGo_7 : decode cX6_daysGo 7 = .ok (.aload_n 0, 1) := by decide +kernel
theorem dX6_daysGo_8 : decode cX6_daysGo 8 = .ok (.iconst 0, 1) := by decide +kernel
theorem dX6_daysGo_9 : decode cX6_daysGo 9 = .ok (.invokevirtual 190, 3) := by decide +kernel
theorem dX6_daysGo_12 : decode cX6_daysGo 12 = .ok (.iinc 2 1, 3) := by decide +kernel
theorem dX6_daysGo_15 : decode cX6_daysGo 15 = .ok (.goto (-13), 3) := by decide +kernel
theorem dX6_daysGo_18 : decode cX6_daysGo 18 = .ok (.return_, 1) := by decide +kernel
theorem dX6_bumpsSince_0 : decode cX6_bumpsSince 0 = .ok (.aload_n 0, 1) := by decide +kernel
theorem dX6_bumpsSince_1 : decode cX6_bumpsSince 1 = .ok (.getfield 13, 3) := by decide +kernel
theorem dX6_bumpsSince_4 : decode cX6_bumpsSince 4 = .ok (.bipush 56, 2) := by decide +kernel
theorem dX6_bumpsSince_6 : decode cX6_bumpsSince 6 = .ok (.iaload, 1) := by decide +kernel
theorem dX6_bumpsSince_7 : decode cX6_bumpsSince 7 = .ok (.aload_n 0, 1) := by decide +kernel
theorem dX6_bumpsSince_8 : decode cX6_bumpsSince 8 = .ok (.getfield 7, 3) := by decide +kernel
theorem dX6_bumpsSince_11 : decode cX6_bumpsSince 11 = .ok (.bipush 56, 2) := by decide +kernel
theorem dX6_bumpsSince_13 : decode cX6_bumpsSince 13 = .ok (.iaload, 1) := by decide +kernel
theorem dX6_bumpsSince_14 : decode cX6_bumpsSince 14 = .ok (.isub, 1) := by decide +kernel
theorem dX6_bumpsSince_15 : decode cX6_bumpsSince 15 = .ok (.ireturn, 1) := by decide +kernel
theorem dX6_rule_0 : decode cX6_rule 0 = .ok (.aload_n 0, 1) := by decide +kernel
theorem dX6_rule_1 : decode cX6_rule 1 = .ok (.invokevirtual 194, 3) := by decide +kernel
theorem dX6_rule_4 : decode cX6_rule 4 = .ok (.iload_n 1, 1) := by decide +kernel
theorem dX6_rule_5 : decode cX6_rule 5 = .ok (.tableswitch 81 0 5 #[39, 44, 52, 60, 68, 76], 39) := by decide +kernel
theorem dX6_rule_44 : decode cX6_rule 44 = .ok (.aload_n 0, 1) := by decide +kernel
theorem dX6_rule_45 : decode cX6_rule 45 = .ok (.getfield 64, 3) := by decide +kernel
theorem dX6_rule_48 : decode cX6_rule 48 = .ok (.ireturn, 1) := by decide +kernel
theorem dX6_rule_49 : decode cX6_rule 49 = .ok (.aload_n 0, 1) := by decide +kernel
theorem dX6_rule_50 : decode cX6_rule 50 = .ok (.getfield 7, 3) := by decide +kernel
theorem dX6_rule_53 : decode cX6_rule 53 = .ok (.bipush 53, 2) := by decide +kernel
theorem dX6_rule_55 : decode cX6_rule 55 = .ok (.iaload, 1) := by decide +kernel
theorem dX6_rule_56 : decode cX6_rule 56 = .ok (.ireturn, 1) := by decide +kernel
theorem dX6_rule_57 : decode cX6_rule 57 = .ok (.aload_n 0, 1) := by decide +kernel
theorem dX6_rule_58 : decode cX6_rule 58 = .ok (.getfield 7, 3) := by decide +kernel
theorem dX6_rule_61 : decode cX6_rule 61 = .ok (.bipush 54, 2) := by decide +kernel
theorem dX6_rule_63 : decode cX6_rule 63 = .ok (.iaload, 1) := by decide +kernel
theorem dX6_rule_64 : decode cX6_rule 64 = .ok (.ireturn, 1) := by decide +kernel
theorem dX6_rule_65 : decode cX6_rule 65 = .ok (.aload_n 0, 1) := by decide +kernel
theorem dX6_rule_66 : decode cX6_rule 66 = .ok (.getfield 7, 3) := by decide +kernel
theorem dX6_rule_69 : decode cX6_rule 69 = .ok (.bipush 55, 2) := by decide +kernel
theorem dX6_rule_71 : decode cX6_rule 71 = .ok (.iaload, 1) := by decide +kernel
theorem dX6_rule_72 : decode cX6_rule 72 = .ok (.ireturn, 1) := by decide +kernel
theorem dX6_rule_73 : decode cX6_rule 73 = .ok (.aload_n 0, 1) := by decide +kernel
theorem dX6_rule_74 : decode cX6_rule 74 = .ok (.getfield 7, 3) := by decide +kernel
theorem dX6_rule_77 : decode cX6_rule 77 = .ok (.bipush 56, 2) := by decide +kernel
theorem dX6_rule_79 : decode cX6_rule 79 = .ok (.iaload, 1) := by decide +kernel
theorem dX6_rule_80 : decode cX6_rule 80 = .ok (.ireturn, 1) := by decide +kernel
theorem dX6_rule_81 : decode cX6_rule 81 = .ok (.aload_n 0, 1) := by decide +kernel
theorem dX6_rule_82 : decode cX6_rule 82 = .ok (.invokevirtual 197, 3) := by decide +kernel
theorem dX6_rule_85 : decode cX6_rule 85 = .ok (.ireturn, 1) := by decide +kernel
theorem dX6_rule_86 : decode cX6_rule 86 = .ok (.iconst (-1), 1) := by decide +kernel
theorem dX6_rule_87 : decode cX6_rule 87 = .ok (.ireturn, 1) := by decide +kernel
theorem dX6_ropesOf_0 : decode cX6_ropesOf 0 = .ok (.iconst 0, 1) := by decide +kernel
theorem dX6_ropesOf_1 : decode cX6_ropesOf 1 = .ok (.istore_n 2, 1) := by decide +kernel
theorem dX6_ropesOf_2 : decode cX6_ropesOf 2 = .ok (.iconst 0, 1) := by decide +kernel
theorem dX6_ropesOf_3 : decode cX6_ropesOf 3 = .ok (.istore_n 3, 1) := by decide +kernel
theorem dX6_ropesOf_4 : decode cX6_ropesOf 4 = .ok (.iload_n 3, 1) := by decide +kernel
theorem dX6_ropesOf_5 : decode cX6_ropesOf 5 = .ok (.aload_n 0, 1) := by decide +kernel
theorem dX6_ropesOf_6 : decode cX6_ropesOf 6 = .ok (.getfield 7, 3) := by decide +kernel
theorem dX6_ropesOf_9 : decode cX6_ropesOf 9 = .ok (.bipush 53, 2) := by decide +kernel
theorem dX6_ropesOf_11 : decode cX6_ropesOf 11 = .ok (.iaload, 1) := by decide +kernel
theorem dX6_ropesOf_12 : decode cX6_ropesOf 12 = .ok (.if_icmp .ge 52, 3) := by decide +kernel
theorem dX6_ropesOf_15 : decode cX6_ropesOf 15 = .ok (.bipush 35, 2) := by decide +kernel
theorem dX6_ropesOf_17 : decode cX6_ropesOf 17 = .ok (.iconst 3, 1) := by decide +kernel
theorem dX6_ropesOf_18 : decode cX6_ropesOf 18 = .ok (.iload_n 3, 1) := by decide +kernel
theorem dX6_ropesOf_19 : decode cX6_ropesOf 19 = .ok (.imul, 1) := by decide +kernel
theorem dX6_ropesOf_20 : decode cX6_ropesOf 20 = .ok (.iadd, 1) := by decide +kernel
theorem dX6_ropesOf_21 : decode cX6_ropesOf 21 = .ok (.istore 4, 2) := by decide +kernel
theorem dX6_ropesOf_23 : decode cX6_ropesOf 23 = .ok (.iload_n 2, 1) := by decide +kernel
theorem dX6_ropesOf_24 : decode cX6_ropesOf 24 = .ok (.aload_n 0, 1) := by decide +kernel
theorem dX6_ropesOf_25 : decode cX6_ropesOf 25 = .ok (.getfield 7, 3) := by decide +kernel
theorem dX6_ropesOf_28 : decode cX6_ropesOf 28 = .ok (.iload 4, 2) := by decide +kernel
theorem dX6_ropesOf_30 : decode cX6_ropesOf 30 = .ok (.iaload, 1) := by decide +kernel
theorem dX6_ropesOf_31 : decode cX6_ropesOf 31 = .ok (.iload_n 1, 1) := by decide +kernel
theorem dX6_ropesOf_32 : decode cX6_ropesOf 32 = .ok (.if_icmp .eq 16, 3) := by decide +kernel
theorem dX6_ropesOf_35 : decode cX6_ropesOf 35 = .ok (.aload_n 0, 1) := by decide +kernel
theorem dX6_ropesOf_36 : decode cX6_ropesOf 36 = .ok (.getfield 7, 3) := by decide +kernel
theorem dX6_ropesOf_39 : decode cX6_ropesOf 39 = .ok (.iload 4, 2) := by decide +kernel
theorem dX6_ropesOf_41 : decode cX6_ropesOf 41 = .ok (.iconst 1, 1) := by decide +kernel
theorem dX6_ropesOf_42 : decode cX6_ropesOf 42 = .ok (.iadd, 1) := by decide +kernel
theorem dX6_ropesOf_43 : decode cX6_ropesOf 43 = .ok (.iaload, 1) := by decide +kernel
theorem dX6_ropesOf_44 : decode cX6_ropesOf 44 = .ok (.iload_n 1, 1) := by decide +kernel
theorem dX6_ropesOf_45 : decode cX6_ropesOf 45 = .ok (.if_icmp .ne 7, 3) := by decide +kernel
theorem dX6_ropesOf_48 : decode cX6_ropesOf 48 = .ok (.iconst 1, 1) := by decide +kernel
theorem dX6_ropesOf_49 : decode cX6_ropesOf 49 = .ok (.goto 4, 3) := by decide +kernel
theorem dX6_ropesOf_52 : decode cX6_ropesOf 52 = .ok (.iconst 0, 1) := by decide +kernel
theorem dX6_ropesOf_53 : decode cX6_ropesOf 53 = .ok (.invokestatic 200, 3) := by decide +kernel
theorem dX6_ropesOf_56 : decode cX6_ropesOf 56 = .ok (.iadd, 1) := by decide +kernel
theorem dX6_ropesOf_57 : decode cX6_ropesOf 57 = .ok (.istore_n 2, 1) := by decide +kernel
theorem dX6_ropesOf_58 : decode cX6_ropesOf 58 = .ok (.iinc 3 1, 3) := by decide +kernel
theorem dX6_ropesOf_61 : decode cX6_ropesOf 61 = .ok (.goto (-57), 3) := by decide +kernel
theorem dX6_ropesOf_64 : decode cX6_ropesOf 64 = .ok (.iload_n 2, 1) := by decide +kernel
theorem dX6_ropesOf_65 : decode cX6_ropesOf 65 = .ok (.ireturn, 1) := by decide +kernel
theorem dX6_isle_0 : decode cX6_isle 0 = .ok (.aload_n 0, 1) := by decide +kernel
theorem dX6_isle_1 : decode cX6_isle 1 = .ok (.iload_n 1, 1) := by decide +kernel
theorem dX6_isle_2 : decode cX6_isle 2 = .ok (.invokevirtual 151, 3) := by decide +kernel
theorem dX6_isle_5 : decode cX6_isle 5 = .ok (.ifCond .ne 5, 3) := by decide +kernel
theorem dX6_isle_8 : decode cX6_isle 8 = .ok (.iconst (-1), 1) := by decide +kernel
theorem dX6_isle_9 : decode cX6_isle 9 = .ok (.ireturn, 1) := by decide +kernel
theorem dX6_isle_10 : decode cX6_isle 10 = .ok (.aload_n 0, 1) := by decide +kernel
theorem dX6_isle_11 : decode cX6_isle 11 = .ok (.invokevirtual 194, 3) := by decide +kernel
theorem dX6_isle_14 : decode cX6_isle 14 = .ok (.iload_n 2, 1) := by decide +kernel
theorem dX6_isle_15 : decode cX6_isle 15 = .ok (.tableswitch 86 0 5 #[37, 37, 48, 54, 63, 80], 37) := by decide +kernel
theorem dX6_isle_52 : decode cX6_isle 52 = .ok (.aload_n 0, 1) := by decide +kernel
theorem dX6_isle_53 : decode cX6_isle 53 = .ok (.getfield 13, 3) := by decide +kernel
theorem dX6_isle_56 : decode cX6_isle 56 = .ok (.iconst 2, 1) := by decide +kernel
theorem dX6_isle_57 : decode cX6_isle 57 = .ok (.iload_n 1, 1) := by decide +kernel
theorem dX6_isle_58 : decode cX6_isle 58 = .ok (.imul, 1) := by decide +kernel
theorem dX6_isle_59 : decode cX6_isle 59 = .ok (.iload_n 2, 1) := by decide +kernel
theorem dX6_isle_60 : decode cX6_isle 60 = .ok (.iadd, 1) := by decide +kernel
theorem dX6_isle_61 : decode cX6_isle 61 = .ok (.iaload, 1) := by decide +kernel
theorem dX6_isle_62 : decode cX6_isle 62 = .ok (.ireturn, 1) := by decide +kernel
theorem dX6_isle_63 : decode cX6_isle 63 = .ok (.aload_n 0, 1) := by decide +kernel
theorem dX6_isle_64 : decode cX6_isle 64 = .ok (.iload_n 1, 1) := by decide +kernel
theorem dX6_isle_65 : decode cX6_isle 65 = .ok (.invokevirtual 204, 3) := by decide +kernel
theorem dX6_isle_68 : decode cX6_isle 68 = .ok (.ireturn, 1) := by decide +kernel
theorem dX6_isle_69 : decode cX6_isle 69 = .ok (.aload_n 0, 1) := by decide +kernel
theorem dX6_isle_70 : decode cX6_isle 70 = .ok (.iload_n 1, 1) := by decide +kernel
theorem dX6_isle_71 : decode cX6_isle 71 = .ok (.invokevirtual 168, 3) := by decide +kernel
theorem dX6_isle_74 : decode cX6_isle 74 = .ok (.invokestatic 159, 3) := by decide +kernel
theorem dX6_isle_77 : decode cX6_isle 77 = .ok (.ireturn, 1) := by decide +kernel
theorem dX6_isle_78 : decode cX6_isle 78 = .ok (.aload_n 0, 1) := by decide +kernel
theorem dX6_isle_79 : decode cX6_isle 79 = .ok (.iload_n 1, 1) := by decide +kernel
theorem dX6_isle_80 : decode cX6_isle 80 = .ok (.invokevirtual 168, 3) := by decide +kernel
theorem dX6_isle_83 : decode cX6_isle 83 = .ok (.ifCond .le 7, 3) := by decide +kernel
theorem dX6_isle_86 : decode cX6_isle 86 = .ok (.iconst 1, 1) := by decide +kernel
theorem dX6_isle_87 : decode cX6_isle 87 = .ok (.goto 4, 3) := by decide +kernel
theorem dX6_isle_90 : decode cX6_isle 90 = .ok (.iconst 0, 1) := by decide +kernel
theorem dX6_isle_91 : decode cX6_isle 91 = .ok (.invokestatic 200, 3) := by decide +kernel
theorem dX6_isle_94 : decode cX6_isle 94 = .ok (.ireturn, 1) := by decide +kernel
theorem dX6_isle_95 : decode cX6_isle 95 = .ok (.aload_n 0, 1) := by decide +kernel
theorem dX6_isle_96 : decode cX6_isle 96 = .ok (.iload_n 1, 1) := by decide +kernel
theorem dX6_isle_97 : decode cX6_isle 97 = .ok (.invokevirtual 181, 3) := by decide +kernel
theorem dX6_isle_100 : decode cX6_isle 100 = .ok (.ireturn, 1) := by decide +kernel
theorem dX6_isle_101 : decode cX6_isle 101 = .ok (.iconst (-1), 1) := by decide +kernel
theorem dX6_isle_102 : decode cX6_isle 102 = .ok (.ireturn, 1) := by decide +kernel
theorem dX6_cross_0 : decode cX6_cross 0 = .ok (.aload_n 0, 1) := by decide +kernel
theorem dX6_cross_1 : decode cX6_cross 1 = .ok (.iload_n 1, 1) := by decide +kernel
theorem dX6_cross_2 : decode cX6_cross 2 = .ok (.iload_n 2, 1) := by decide +kernel
theorem dX6_cross_3 : decode cX6_cross 3 = .ok (.invokevirtual 207, 3) := by decide +kernel
theorem dX6_cross_6 : decode cX6_cross 6 = .ok (.ifCond .eq 19, 3) := by decide +kernel
theorem dX6_cross_9 : decode cX6_cross 9 = .ok (.aload_n 0, 1) := by decide +kernel
theorem dX6_cross_10 : decode cX6_cross 10 = .ok (.getfield 7, 3) := by decide +kernel
theorem dX6_cross_13 : decode cX6_cross 13 = .ok (.bipush 10, 2) := by decide +kernel
theorem dX6_cross_15 : decode cX6_cross 15 = .ok (.iconst 5, 1) := by decide +kernel
theorem dX6_cross_16 : decode cX6_cross 16 = .ok (.iload_n 1, 1) := by decide +kernel
theorem dX6_cross_17 : decode cX6_cross 17 = .ok (.imul, 1) := by decide +kernel
theorem dX6_cross_18 : decode cX6_cross 18 = .ok (.iadd, 1) := by decide +kernel
theorem dX6_cross_19 : decode cX6_cross 19 = .ok (.iload_n 2, 1) := by decide +kernel
theorem dX6_cross_20 : decode cX6_cross 20 = .ok (.iadd, 1) := by decide +kernel
theorem dX6_cross_21 : decode cX6_cross 21 = .ok (.iaload, 1) := by decide +kernel
theorem dX6_cross_22 : decode cX6_cross 22 = .ok (.goto 4, 3) := by decide +kernel
theorem dX6_cross_25 : decode cX6_cross 25 = .ok (.iconst (-1), 1) := by decide +kernel
theorem dX6_cross_26 : decode cX6_cross 26 = .ok (.ireturn, 1) := by decide +kernel
theorem dX6_rope_0 : decode cX6_rope 0 = .ok (.aload_n 0, 1) := by decide +kernel
theorem dX6_rope_1 : decode cX6_rope 1 = .ok (.iload_n 1, 1) := by decide +kernel
theorem dX6_rope_2 : decode cX6_rope 2 = .ok (.invokevirtual 210, 3) := by decide +kernel
theorem dX6_rope_5 : decode cX6_rope 5 = .ok (.ifCond .eq 31, 3) := by decide +kernel
theorem dX6_rope_8 : decode cX6_rope 8 = .ok (.iload_n 2, 1) := by decide +kernel
theorem dX6_rope_9 : decode cX6_rope 9 = .ok (.i2l, 1) := by decide +kernel
theorem dX6_rope_10 : decode cX6_rope 10 = .ok (.lconst 0, 1) := by decide +kernel
theorem dX6_rope_11 : decode cX6_rope 11 = .ok (.ldc2_w 213, 3) := by decide +kernel
theorem dX6_rope_14 : decode cX6_rope 14 = .ok (.invokestatic 69, 3) := by decide +kernel
theorem dX6_rope_17 : decode cX6_rope 17 = .ok (.ifCond .eq 19, 3) := by decide +kernel
theorem dX6_rope_20 : decode cX6_rope 20 = .ok (.aload_n 0, 1) := by decide +kernel
theorem dX6_rope_21 : decode cX6_rope 21 = .ok (.getfield 7, 3) := by decide +kernel
theorem dX6_rope_24 : decode cX6_rope 24 = .ok (.bipush 35, 2) := by decide +kernel
theorem dX6_rope_26 : decode cX6_rope 26 = .ok (.iconst 3, 1) := by decide +kernel
theorem dX6_rope_27 : decode cX6_rope 27 = .ok (.iload_n 1, 1) := by decide +kernel
theorem dX6_rope_28 : decode cX6_rope 28 = .ok (.imul, 1) := by decide +kernel
theorem dX6_rope_29 : decode cX6_rope 29 = .ok (.iadd, 1) := by decide +kernel
theorem dX6_rope_30 : decode cX6_rope 30 = .ok (.iload_n 2, 1) := by decide +kernel
theorem dX6_rope_31 : decode cX6_rope 31 = .ok (.iadd, 1) := by decide +kernel
theorem dX6_rope_32 : decode cX6_rope 32 = .ok (.iaload, 1) := by decide +kernel
theorem dX6_rope_33 : decode cX6_rope 33 = .ok (.goto 4, 3) := by decide +kernel
theorem dX6_rope_36 : decode cX6_rope 36 = .ok (.iconst (-1), 1) := by decide +kernel
theorem dX6_rope_37 : decode cX6_rope 37 = .ok (.ireturn, 1) := by decide +kernel
theorem dX6_far_0 : decode cX6_far 0 = .ok (.aload_n 0, 1) := by decide +kernel
theorem dX6_far_1 : decode cX6_far 1 = .ok (.iload_n 1, 1) := by decide +kernel
theorem dX6_far_2 : decode cX6_far 2 = .ok (.iload_n 2, 1) := by decide +kernel
theorem dX6_far_3 : decode cX6_far 3 = .ok (.invokevirtual 207, 3) := by decide +kernel
theorem dX6_far_6 : decode cX6_far 6 = .ok (.ifCond .ne 5, 3) := by decide +kernel
theorem dX6_far_9 : decode cX6_far 9 = .ok (.iconst (-1), 1) := by decide +kernel
theorem dX6_far_10 : decode cX6_far 10 = .ok (.ireturn, 1) := by decide +kernel
theorem dX6_far_11 : decode cX6_far 11 = .ok (.aload_n 0, 1) := by decide +kernel
theorem dX6_far_12 : decode cX6_far 12 = .ok (.invokevirtual 194, 3) := by decide +kernel
theorem dX6_far_15 : decode cX6_far 15 = .ok (.aload_n 0, 1) := by decide +kernel
theorem dX6_far_16 : decode cX6_far 16 = .ok (.iload_n 1, 1) := by decide +kernel
theorem dX6_far_17 : decode cX6_far 17 = .ok (.iload_n 2, 1) := by decide +kernel
theorem dX6_far_18 : decode cX6_far 18 = .ok (.invokevirtual 162, 3) := by decide +kernel
theorem dX6_far_21 : decode cX6_far 21 = .ok (.ireturn, 1) := by decide +kernel
theorem dX6_becomes_0 : decode cX6_becomes 0 = .ok (.aload_n 0, 1) := by decide +kernel
theorem dX6_becomes_1 : decode cX6_becomes 1 = .ok (.getfield 7, 3) := by decide +kernel
theorem dX6_becomes_4 : decode cX6_becomes 4 = .ok (.iload_n 1, 1) := by decide +kernel
theorem dX6_becomes_5 : decode cX6_becomes 5 = .ok (.iaload, 1) := by decide +kernel
theorem dX6_becomes_6 : decode cX6_becomes 6 = .ok (.istore_n 3, 1) := by decide +kernel
theorem dX6_becomes_7 : decode cX6_becomes 7 = .ok (.aload_n 0, 1) := by decide +kernel
theorem dX6_becomes_8 : decode cX6_becomes 8 = .ok (.getfield 7, 3) := by decide +kernel
theorem dX6_becomes_11 : decode cX6_becomes 11 = .ok (.iload_n 1, 1) := by decide +kernel
theorem dX6_becomes_12 : decode cX6_becomes 12 = .ok (.iload_n 2, 1) := by decide +kernel
theorem dX6_becomes_13 : decode cX6_becomes 13 = .ok (.iastore, 1) := by decide +kernel
theorem dX6_becomes_14 : decode cX6_becomes 14 = .ok (.iload_n 3, 1) := by decide +kernel
theorem dX6_becomes_15 : decode cX6_becomes 15 = .ok (.ireturn, 1) := by decide +kernel
theorem dX6_alter_0 : decode cX6_alter 0 = .ok (.aload_n 0, 1) := by decide +kernel
theorem dX6_alter_1 : decode cX6_alter 1 = .ok (.invokevirtual 194, 3) := by decide +kernel
theorem dX6_alter_4 : decode cX6_alter 4 = .ok (.iload_n 2, 1) := by decide +kernel
theorem dX6_alter_5 : decode cX6_alter 5 = .ok (.ifCond .ne 15, 3) := by decide +kernel
theorem dX6_alter_8 : decode cX6_alter 8 = .ok (.iload_n 3, 1) := by decide +kernel
theorem dX6_alter_9 : decode cX6_alter 9 = .ok (.i2l, 1) := by decide +kernel
theorem dX6_alter_10 : decode cX6_alter 10 = .ok (.lconst 0, 1) := by decide +kernel
theorem dX6_alter_11 : decode cX6_alter 11 = .ok (.ldc2_w 215, 3) := by decide +kernel
theorem dX6_alter_14 : decode cX6_alter 14 = .ok (.invokestatic 69, 3) := by decide +kernel
theorem dX6_alter_17 : decode cX6_alter 17 = .ok (.goto 20, 3) := by decide +kernel
theorem dX6_alter_20 : decode cX6_alter 20 = .ok (.iload_n 2, 1) := by decide +kernel
theorem dX6_alter_21 : decode cX6_alter 21 = .ok (.iconst 1, 1) := by decide +kernel
theorem dX6_alter_22 : decode cX6_alter 22 = .ok (.if_icmp .ne 14, 3) := by decide +kernel
theorem dX6_alter_25 : decode cX6_alter 25 = .ok (.iload_n 3, 1) := by decide +kernel
theorem dX6_alter_26 : decode cX6_alter 26 = .ok (.invokestatic 171, 3) := by decide +kernel
theorem dX6_alter_29 : decode cX6_alter 29 = .ok (.ifCond .eq 7, 3) := by decide +kernel
theorem dX6_alter_32 : decode cX6_alter 32 = .ok (.iconst 1, 1) := by decide +kernel
theorem dX6_alter_33 : decode cX6_alter 33 = .ok (.goto 4, 3) := by decide +kernel
theorem dX6_alter_36 : decode cX6_alter 36 = .ok (.iconst 0, 1) := by decide +kernel
theorem dX6_alter_37 : decode cX6_alter 37 = .ok (.istore 4, 2) := by decide +kernel
theorem dX6_alter_39 : decode cX6_alter 39 = .ok (.aload_n 0, 1) := by decide +kernel
theorem dX6_alter_40 : decode cX6_alter 40 = .ok (.iload_n 1, 1) := by decide +kernel
theorem dX6_alter_41 : decode cX6_alter 41 = .ok (.invokevirtual 151, 3) := by decide +kernel
theorem dX6_alter_44 : decode cX6_alter 44 = .ok (.ifCond .eq 30, 3) := by decide +kernel
theorem dX6_alter_47 : decode cX6_alter 47 = .ok (.iload 4, 2) := by decide +kernel
theorem dX6_alter_49 : decode cX6_alter 49 = .ok (.ifCond .eq 25, 3) := by decide +kernel
theorem dX6_alter_52 : decode cX6_alter 52 = .ok (.iload_n 2, 1) := by decide +kernel
theorem dX6_alter_53 : decode cX6_alter 53 = .ok (.iconst 1, 1) := by decide +kernel
theorem dX6_alter_54 : decode cX6_alter 54 = .ok (.if_icmp .ne 22, 3) := by decide +kernel
theorem dX6_alter_57 : decode cX6_alter 57 = .ok (.aload_n 0, 1) := by decide +kernel
theorem dX6_alter_58 : decode cX6_alter 58 = .ok (.iload_n 1, 1) := by decide +kernel
theorem dX6_alter_59 : decode cX6_alter 59 = .ok (.invokevirtual 156, 3) := by decide +kernel
theorem dX6_alter_62 : decode cX6_alter 62 = .ok (.iload_n 3, 1) := by decide +kernel
theorem dX6_alter_63 : decode cX6_alter 63 = .ok (.if_icmp .eq 13, 3) := by decide +kernel
theorem dX6_alter_66 : decode cX6_alter 66 = .ok (.aload_n 0, 1) := by decide +kernel
theorem dX6_alter_67 : decode cX6_alter 67 = .ok (.iload_n 3, 1) := by decide +kernel
theorem dX6_alter_68 : decode cX6_alter 68 = .ok (.invokevirtual 178, 3) := by decide +kernel
theorem dX6_alter_71 : decode cX6_alter 71 = .ok (.ifCond .eq 5, 3) := by decide +kernel
theorem dX6_alter_74 : decode cX6_alter 74 = .ok (.iconst (-1), 1) := by decide +kernel
theorem dX6_alter_75 : decode cX6_alter 75 = .ok (.ireturn, 1) := by decide +kernel
theorem dX6_alter_76 : decode cX6_alter 76 = .ok (.aload_n 0, 1) := by decide +kernel
theorem dX6_alter_77 : decode cX6_alter 77 = .ok (.iconst 2, 1) := by decide +kernel
theorem dX6_alter_78 : decode cX6_alter 78 = .ok (.iload_n 1, 1) := by decide +kernel
theorem dX6_alter_79 : decode cX6_alter 79 = .ok (.imul, 1) := by decide +kernel
theorem dX6_alter_80 : decode cX6_alter 80 = .ok (.iload_n 2, 1) := by decide +kernel
theorem dX6_alter_81 : decode cX6_alter 81 = .ok (.iadd, 1) := by decide +kernel
theorem dX6_alter_82 : decode cX6_alter 82 = .ok (.iload_n 3, 1) := by decide +kernel
theorem dX6_alter_83 : decode cX6_alter 83 = .ok (.invokevirtual 217, 3) := by decide +kernel
theorem dX6_alter_86 : decode cX6_alter 86 = .ok (.ireturn, 1) := by decide +kernel
theorem dX6_sulk_0 : decode cX6_sulk 0 = .ok (.aload_n 0, 1) := by decide +kernel
theorem dX6_sulk_1 : decode cX6_sulk 1 = .ok (.iload_n 1, 1) := by decide +kernel
theorem dX6_sulk_2 : decode cX6_sulk 2 = .ok (.iload_n 2, 1) := by decide +kernel
theorem dX6_sulk_3 : decode cX6_sulk 3 = .ok (.invokevirtual 207, 3) := by decide +kernel
theorem dX6_sulk_6 : decode cX6_sulk 6 = .ok (.ifCond .eq 31, 3) := by decide +kernel
theorem dX6_sulk_9 : decode cX6_sulk 9 = .ok (.iload_n 3, 1) := by decide +kernel
theorem dX6_sulk_10 : decode cX6_sulk 10 = .ok (.i2l, 1) := by decide +kernel
end
section
theorem dX6_sulk_11 : decode cX6_sulk 11 = .ok (.lconst 0, 1) := by decide +kernel
theorem dX6_sulk_12 : decode cX6_sulk 12 = .ok (.ldc2_w 215, 3) := by decide +kernel
theorem dX6_sulk_15 : decode cX6_sulk 15 = .ok (.invokestatic 69, 3) := by decide +kernel
theorem dX6_sulk_18 : decode cX6_sulk 18 = .ok (.ifCond .eq 19, 3) := by decide +kernel
theorem dX6_sulk_21 : decode cX6_sulk 21 = .ok (.aload_n 0, 1) := by decide +kernel
theorem dX6_sulk_22 : decode cX6_sulk 22 = .ok (.bipush 10, 2) := by decide +kernel
theorem dX6_sulk_24 : decode cX6_sulk 24 = .ok (.iconst 5, 1) := by decide +kernel
theorem dX6_sulk_25 : decode cX6_sulk 25 = .ok (.iload_n 1, 1) := by decide +kernel
theorem dX6_sulk_26 : decode cX6_sulk 26 = .ok (.imul, 1) := by decide +kernel
theorem dX6_sulk_27 : decode cX6_sulk 27 = .ok (.iadd, 1) := by decide +kernel
theorem dX6_sulk_28 : decode cX6_sulk 28 = .ok (.iload_n 2, 1) := by decide +kernel
theorem dX6_sulk_29 : decode cX6_sulk 29 = .ok (.iadd, 1) := by decide +kernel
theorem dX6_sulk_30 : decode cX6_sulk 30 = .ok (.iload_n 3, 1) := by decide +kernel
theorem dX6_sulk_31 : decode cX6_sulk 31 = .ok (.invokevirtual 217, 3) := by decide +kernel
theorem dX6_sulk_34 : decode cX6_sulk 34 = .ok (.goto 4, 3) := by decide +kernel
theorem dX6_sulk_37 : decode cX6_sulk 37 = .ok (.iconst (-1), 1) := by decide +kernel
theorem dX6_sulk_38 : decode cX6_sulk 38 = .ok (.ireturn, 1) := by decide +kernel
theorem dX6_haul_0 : decode cX6_haul 0 = .ok (.aload_n 0, 1) := by decide +kernel
theorem dX6_haul_1 : decode cX6_haul 1 = .ok (.iload_n 1, 1) := by decide +kernel
theorem dX6_haul_2 : decode cX6_haul 2 = .ok (.invokevirtual 210, 3) := by decide +kernel
theorem dX6_haul_5 : decode cX6_haul 5 = .ok (.ifCond .eq 31, 3) := by decide +kernel
theorem dX6_haul_8 : decode cX6_haul 8 = .ok (.iload_n 2, 1) := by decide +kernel
theorem dX6_haul_9 : decode cX6_haul 9 = .ok (.i2l, 1) := by decide +kernel
theorem dX6_haul_10 : decode cX6_haul 10 = .ok (.lconst 1, 1) := by decide +kernel
theorem dX6_haul_11 : decode cX6_haul 11 = .ok (.ldc2_w 220, 3) := by decide +kernel
theorem dX6_haul_14 : decode cX6_haul 14 = .ok (.invokestatic 69, 3) := by decide +kernel
theorem dX6_haul_17 : decode cX6_haul 17 = .ok (.ifCond .eq 19, 3) := by decide +kernel
theorem dX6_haul_20 : decode cX6_haul 20 = .ok (.aload_n 0, 1) := by decide +kernel
theorem dX6_haul_21 : decode cX6_haul 21 = .ok (.bipush 35, 2) := by decide +kernel
theorem dX6_haul_23 : decode cX6_haul 23 = .ok (.iconst 3, 1) := by decide +kernel
theorem dX6_haul_24 : decode cX6_haul 24 = .ok (.iload_n 1, 1) := by decide +kernel
theorem dX6_haul_25 : decode cX6_haul 25 = .ok (.imul, 1) := by decide +kernel
theorem dX6_haul_26 : decode cX6_haul 26 = .ok (.iadd, 1) := by decide +kernel
theorem dX6_haul_27 : decode cX6_haul 27 = .ok (.iconst 2, 1) := by decide +kernel
theorem dX6_haul_28 : decode cX6_haul 28 = .ok (.iadd, 1) := by decide +kernel
theorem dX6_haul_29 : decode cX6_haul 29 = .ok (.iload_n 2, 1) := by decide +kernel
theorem dX6_haul_30 : decode cX6_haul 30 = .ok (.invokevirtual 217, 3) := by decide +kernel
theorem dX6_haul_33 : decode cX6_haul 33 = .ok (.goto 4, 3) := by decide +kernel
theorem dX6_haul_36 : decode cX6_haul 36 = .ok (.iconst (-1), 1) := by decide +kernel
theorem dX6_haul_37 : decode cX6_haul 37 = .ok (.ireturn, 1) := by decide +kernel
theorem dX6_ties_0 : decode cX6_ties 0 = .ok (.bipush 35, 2) := by decide +kernel
theorem dX6_ties_2 : decode cX6_ties 2 = .ok (.iconst 3, 1) := by decide +kernel
theorem dX6_ties_3 : decode cX6_ties 3 = .ok (.aload_n 0, 1) := by decide +kernel
theorem dX6_ties_4 : decode cX6_ties 4 = .ok (.getfield 13, 3) := by decide +kernel
theorem dX6_ties_7 : decode cX6_ties 7 = .ok (.bipush 53, 2) := by decide +kernel
theorem dX6_ties_9 : decode cX6_ties 9 = .ok (.iaload, 1) := by decide +kernel
theorem dX6_ties_10 : decode cX6_ties 10 = .ok (.imul, 1) := by decide +kernel
theorem dX6_ties_11 : decode cX6_ties 11 = .ok (.iadd, 1) := by decide +kernel
theorem dX6_ties_12 : decode cX6_ties 12 = .ok (.istore 4, 2) := by decide +kernel
theorem dX6_ties_14 : decode cX6_ties 14 = .ok (.aload_n 0, 1) := by decide +kernel
theorem dX6_ties_15 : decode cX6_ties 15 = .ok (.getfield 13, 3) := by decide +kernel
theorem dX6_ties_18 : decode cX6_ties 18 = .ok (.iload 4, 2) := by decide +kernel
theorem dX6_ties_20 : decode cX6_ties 20 = .ok (.iload_n 1, 1) := by decide +kernel
theorem dX6_ties_21 : decode cX6_ties 21 = .ok (.iastore, 1) := by decide +kernel
theorem dX6_ties_22 : decode cX6_ties 22 = .ok (.aload_n 0, 1) := by decide +kernel
theorem dX6_ties_23 : decode cX6_ties 23 = .ok (.getfield 13, 3) := by decide +kernel
theorem dX6_ties_26 : decode cX6_ties 26 = .ok (.iload 4, 2) := by decide +kernel
theorem dX6_ties_28 : decode cX6_ties 28 = .ok (.iconst 1, 1) := by decide +kernel
theorem dX6_ties_29 : decode cX6_ties 29 = .ok (.iadd, 1) := by decide +kernel
theorem dX6_ties_30 : decode cX6_ties 30 = .ok (.iload_n 2, 1) := by decide +kernel
theorem dX6_ties_31 : decode cX6_ties 31 = .ok (.iastore, 1) := by decide +kernel
theorem dX6_ties_32 : decode cX6_ties 32 = .ok (.aload_n 0, 1) := by decide +kernel
theorem dX6_ties_33 : decode cX6_ties 33 = .ok (.getfield 13, 3) := by decide +kernel
theorem dX6_ties_36 : decode cX6_ties 36 = .ok (.iload 4, 2) := by decide +kernel
theorem dX6_ties_38 : decode cX6_ties 38 = .ok (.iconst 2, 1) := by decide +kernel
theorem dX6_ties_39 : decode cX6_ties 39 = .ok (.iadd, 1) := by decide +kernel
theorem dX6_ties_40 : decode cX6_ties 40 = .ok (.iload_n 3, 1) := by decide +kernel
theorem dX6_ties_41 : decode cX6_ties 41 = .ok (.iastore, 1) := by decide +kernel
theorem dX6_ties_42 : decode cX6_ties 42 = .ok (.aload_n 0, 1) := by decide +kernel
theorem dX6_ties_43 : decode cX6_ties 43 = .ok (.getfield 13, 3) := by decide +kernel
theorem dX6_ties_46 : decode cX6_ties 46 = .ok (.bipush 53, 2) := by decide +kernel
theorem dX6_ties_48 : decode cX6_ties 48 = .ok (.dup2, 1) := by decide +kernel
theorem dX6_ties_49 : decode cX6_ties 49 = .ok (.iaload, 1) := by decide +kernel
theorem dX6_ties_50 : decode cX6_ties 50 = .ok (.iconst 1, 1) := by decide +kernel
theorem dX6_ties_51 : decode cX6_ties 51 = .ok (.iadd, 1) := by decide +kernel
theorem dX6_ties_52 : decode cX6_ties 52 = .ok (.iastore, 1) := by decide +kernel
theorem dX6_ties_53 : decode cX6_ties 53 = .ok (.return_, 1) := by decide +kernel
theorem dX6_wed_0 : decode cX6_wed 0 = .ok (.aload_n 0, 1) := by decide +kernel
theorem dX6_wed_1 : decode cX6_wed 1 = .ok (.iload_n 1, 1) := by decide +kernel
theorem dX6_wed_2 : decode cX6_wed 2 = .ok (.iload_n 2, 1) := by decide +kernel
theorem dX6_wed_3 : decode cX6_wed 3 = .ok (.invokevirtual 207, 3) := by decide +kernel
theorem dX6_wed_6 : decode cX6_wed 6 = .ok (.ifCond .eq 15, 3) := by decide +kernel
theorem dX6_wed_9 : decode cX6_wed 9 = .ok (.iload_n 3, 1) := by decide +kernel
theorem dX6_wed_10 : decode cX6_wed 10 = .ok (.i2l, 1) := by decide +kernel
theorem dX6_wed_11 : decode cX6_wed 11 = .ok (.lconst 1, 1) := by decide +kernel
theorem dX6_wed_12 : decode cX6_wed 12 = .ok (.ldc2_w 220, 3) := by decide +kernel
theorem dX6_wed_15 : decode cX6_wed 15 = .ok (.invokestatic 69, 3) := by decide +kernel
theorem dX6_wed_18 : decode cX6_wed 18 = .ok (.ifCond .ne 5, 3) := by decide +kernel
theorem dX6_wed_21 : decode cX6_wed 21 = .ok (.iconst (-1), 1) := by decide +kernel
theorem dX6_wed_22 : decode cX6_wed 22 = .ok (.ireturn, 1) := by decide +kernel
theorem dX6_wed_23 : decode cX6_wed 23 = .ok (.aload_n 0, 1) := by decide +kernel
theorem dX6_wed_24 : decode cX6_wed 24 = .ok (.getfield 7, 3) := by decide +kernel
theorem dX6_wed_27 : decode cX6_wed 27 = .ok (.bipush 53, 2) := by decide +kernel
theorem dX6_wed_29 : decode cX6_wed 29 = .ok (.iaload, 1) := by decide +kernel
theorem dX6_wed_30 : decode cX6_wed 30 = .ok (.bipush 6, 2) := by decide +kernel
theorem dX6_wed_32 : decode cX6_wed 32 = .ok (.if_icmp .ne 6, 3) := by decide +kernel
theorem dX6_wed_35 : decode cX6_wed 35 = .ok (.bipush (-3), 2) := by decide +kernel
theorem dX6_wed_37 : decode cX6_wed 37 = .ok (.ireturn, 1) := by decide +kernel
theorem dX6_wed_38 : decode cX6_wed 38 = .ok (.aload_n 0, 1) := by decide +kernel
theorem dX6_wed_39 : decode cX6_wed 39 = .ok (.invokevirtual 194, 3) := by decide +kernel
theorem dX6_wed_42 : decode cX6_wed 42 = .ok (.aload_n 0, 1) := by decide +kernel
theorem dX6_wed_43 : decode cX6_wed 43 = .ok (.iload_n 1, 1) := by decide +kernel
theorem dX6_wed_44 : decode cX6_wed 44 = .ok (.iload_n 2, 1) := by decide +kernel
theorem dX6_wed_45 : decode cX6_wed 45 = .ok (.iload_n 3, 1) := by decide +kernel
theorem dX6_wed_46 : decode cX6_wed 46 = .ok (.invokevirtual 222, 3) := by decide +kernel
theorem dX6_wed_49 : decode cX6_wed 49 = .ok (.aload_n 0, 1) := by decide +kernel
theorem dX6_wed_50 : decode cX6_wed 50 = .ok (.invokevirtual 226, 3) := by decide +kernel
theorem dX6_wed_53 : decode cX6_wed 53 = .ok (.aload_n 0, 1) := by decide +kernel
theorem dX6_wed_54 : decode cX6_wed 54 = .ok (.getfield 7, 3) := by decide +kernel
theorem dX6_wed_57 : decode cX6_wed 57 = .ok (.bipush 53, 2) := by decide +kernel
theorem dX6_wed_59 : decode cX6_wed 59 = .ok (.iaload, 1) := by decide +kernel
theorem dX6_wed_60 : decode cX6_wed 60 = .ok (.ireturn, 1) := by decide +kernel
theorem dX6_loose_0 : decode cX6_loose 0 = .ok (.iload_n 1, 1) := by decide +kernel
theorem dX6_loose_1 : decode cX6_loose 1 = .ok (.i2l, 1) := by decide +kernel
theorem dX6_loose_2 : decode cX6_loose 2 = .ok (.lconst 0, 1) := by decide +kernel
theorem dX6_loose_3 : decode cX6_loose 3 = .ok (.aload_n 0, 1) := by decide +kernel
theorem dX6_loose_4 : decode cX6_loose 4 = .ok (.getfield 7, 3) := by decide +kernel
theorem dX6_loose_7 : decode cX6_loose 7 = .ok (.bipush 53, 2) := by decide +kernel
theorem dX6_loose_9 : decode cX6_loose 9 = .ok (.iaload, 1) := by decide +kernel
theorem dX6_loose_10 : decode cX6_loose 10 = .ok (.i2l, 1) := by decide +kernel
theorem dX6_loose_11 : decode cX6_loose 11 = .ok (.invokestatic 69, 3) := by decide +kernel
theorem dX6_loose_14 : decode cX6_loose 14 = .ok (.ifCond .eq 13, 3) := by decide +kernel
theorem dX6_loose_17 : decode cX6_loose 17 = .ok (.aload_n 0, 1) := by decide +kernel
theorem dX6_loose_18 : decode cX6_loose 18 = .ok (.bipush 53, 2) := by decide +kernel
theorem dX6_loose_20 : decode cX6_loose 20 = .ok (.iload_n 1, 1) := by decide +kernel
theorem dX6_loose_21 : decode cX6_loose 21 = .ok (.invokevirtual 217, 3) := by decide +kernel
theorem dX6_loose_24 : decode cX6_loose 24 = .ok (.goto 4, 3) := by decide +kernel
theorem dX6_loose_27 : decode cX6_loose 27 = .ok (.iconst (-1), 1) := by decide +kernel
theorem dX6_loose_28 : decode cX6_loose 28 = .ok (.ireturn, 1) := by decide +kernel
theorem dX6_feast_0 : decode cX6_feast 0 = .ok (.iload_n 1, 1) := by decide +kernel
theorem dX6_feast_1 : decode cX6_feast 1 = .ok (.i2l, 1) := by decide +kernel
theorem dX6_feast_2 : decode cX6_feast 2 = .ok (.lconst 0, 1) := by decide +kernel
theorem dX6_feast_3 : decode cX6_feast 3 = .ok (.ldc2_w 229, 3) := by decide +kernel
theorem dX6_feast_6 : decode cX6_feast 6 = .ok (.invokestatic 69, 3) := by decide +kernel
theorem dX6_feast_9 : decode cX6_feast 9 = .ok (.ifCond .eq 13, 3) := by decide +kernel
theorem dX6_feast_12 : decode cX6_feast 12 = .ok (.aload_n 0, 1) := by decide +kernel
theorem dX6_feast_13 : decode cX6_feast 13 = .ok (.bipush 55, 2) := by decide +kernel
theorem dX6_feast_15 : decode cX6_feast 15 = .ok (.iload_n 1, 1) := by decide +kernel
theorem dX6_feast_16 : decode cX6_feast 16 = .ok (.invokevirtual 217, 3) := by decide +kernel
theorem dX6_feast_19 : decode cX6_feast 19 = .ok (.goto 4, 3) := by decide +kernel
theorem dX6_feast_22 : decode cX6_feast 22 = .ok (.iconst (-1), 1) := by decide +kernel
theorem dX6_feast_23 : decode cX6_feast 23 = .ok (.ireturn, 1) := by decide +kernel
theorem dX6_days_0 : decode cX6_days 0 = .ok (.iload_n 1, 1) := by decide +kernel
theorem dX6_days_1 : decode cX6_days 1 = .ok (.i2l, 1) := by decide +kernel
theorem dX6_days_2 : decode cX6_days 2 = .ok (.lconst 0, 1) := by decide +kernel
theorem dX6_days_3 : decode cX6_days 3 = .ok (.ldc2_w 220, 3) := by decide +kernel
theorem dX6_days_6 : decode cX6_days 6 = .ok (.invokestatic 69, 3) := by decide +kernel
theorem dX6_days_9 : decode cX6_days 9 = .ok (.ifCond .ne 5, 3) := by decide +kernel
theorem dX6_days_12 : decode cX6_days 12 = .ok (.iconst (-1), 1) := by decide +kernel
theorem dX6_days_13 : decode cX6_days 13 = .ok (.ireturn, 1) := by decide +kernel
theorem dX6_days_14 : decode cX6_days 14 = .ok (.aload_n 0, 1) := by decide +kernel
theorem dX6_days_15 : decode cX6_days 15 = .ok (.getfield 7, 3) := by decide +kernel
theorem dX6_days_18 : decode cX6_days 18 = .ok (.bipush 54, 2) := by decide +kernel
theorem dX6_days_20 : decode cX6_days 20 = .ok (.iaload, 1) := by decide +kernel
theorem dX6_days_21 : decode cX6_days 21 = .ok (.iload_n 1, 1) := by decide +kernel
theorem dX6_days_22 : decode cX6_days 22 = .ok (.iadd, 1) := by decide +kernel
theorem dX6_days_23 : decode cX6_days 23 = .ok (.sipush 999, 3) := by decide +kernel
theorem dX6_days_26 : decode cX6_days 26 = .ok (.if_icmp .le 6, 3) := by decide +kernel
theorem dX6_days_29 : decode cX6_days 29 = .ok (.bipush (-3), 2) := by decide +kernel
theorem dX6_days_31 : decode cX6_days 31 = .ok (.ireturn, 1) := by decide +kernel
theorem dX6_days_32 : decode cX6_days 32 = .ok (.aload_n 0, 1) := by decide +kernel
theorem dX6_days_33 : decode cX6_days 33 = .ok (.invokevirtual 194, 3) := by decide +kernel
theorem dX6_days_36 : decode cX6_days 36 = .ok (.aload_n 0, 1) := by decide +kernel
theorem dX6_days_37 : decode cX6_days 37 = .ok (.iload_n 1, 1) := by decide +kernel
theorem dX6_days_38 : decode cX6_days 38 = .ok (.invokevirtual 231, 3) := by decide +kernel
theorem dX6_days_41 : decode cX6_days 41 = .ok (.aload_n 0, 1) := by decide +kernel
theorem dX6_days_42 : decode cX6_days 42 = .ok (.invokevirtual 234, 3) := by decide +kernel
theorem dX6_days_45 : decode cX6_days 45 = .ok (.istore_n 2, 1) := by decide +kernel
theorem dX6_days_46 : decode cX6_days 46 = .ok (.aload_n 0, 1) := by decide +kernel
theorem dX6_days_47 : decode cX6_days 47 = .ok (.invokevirtual 226, 3) := by decide +kernel
theorem dX6_days_50 : decode cX6_days 50 = .ok (.iload_n 2, 1) := by decide +kernel
theorem dX6_days_51 : decode cX6_days 51 = .ok (.ireturn, 1) := by decide +kernel
theorem dX6_isFar_0 : decode cX6_isFar 0 = .ok (.iload_n 0, 1) := by decide +kernel
theorem dX6_isFar_1 : decode cX6_isFar 1 = .ok (.i2l, 1) := by decide +kernel
theorem dX6_isFar_2 : decode cX6_isFar 2 = .ok (.lconst 0, 1) := by decide +kernel
theorem dX6_isFar_3 : decode cX6_isFar 3 = .ok (.ldc2_w 237, 3) := by decide +kernel
theorem dX6_isFar_6 : decode cX6_isFar 6 = .ok (.invokestatic 69, 3) := by decide +kernel
theorem dX6_isFar_9 : decode cX6_isFar 9 = .ok (.ireturn, 1) := by decide +kernel
theorem dX6_runs_0 : decode cX6_runs 0 = .ok (.iload_n 1, 1) := by decide +kernel
theorem dX6_runs_1 : decode cX6_runs 1 = .ok (.invokestatic 239, 3) := by decide +kernel
theorem dX6_runs_4 : decode cX6_runs 4 = .ok (.ifCond .eq 15, 3) := by decide +kernel
theorem dX6_runs_7 : decode cX6_runs 7 = .ok (.iload_n 2, 1) := by decide +kernel
theorem dX6_runs_8 : decode cX6_runs 8 = .ok (.i2l, 1) := by decide +kernel
theorem dX6_runs_9 : decode cX6_runs 9 = .ok (.lconst 0, 1) := by decide +kernel
theorem dX6_runs_10 : decode cX6_runs 10 = .ok (.ldc2_w 215, 3) := by decide +kernel
theorem dX6_runs_13 : decode cX6_runs 13 = .ok (.invokestatic 69, 3) := by decide +kernel
theorem dX6_runs_16 : decode cX6_runs 16 = .ok (.ifCond .ne 5, 3) := by decide +kernel
theorem dX6_runs_19 : decode cX6_runs 19 = .ok (.iconst (-1), 1) := by decide +kernel
theorem dX6_runs_20 : decode cX6_runs 20 = .ok (.ireturn, 1) := by decide +kernel
theorem dX6_runs_21 : decode cX6_runs 21 = .ok (.aload_n 0, 1) := by decide +kernel
theorem dX6_runs_22 : decode cX6_runs 22 = .ok (.invokevirtual 194, 3) := by decide +kernel
theorem dX6_runs_25 : decode cX6_runs 25 = .ok (.aload_n 0, 1) := by decide +kernel
theorem dX6_runs_26 : decode cX6_runs 26 = .ok (.invokevirtual 197, 3) := by decide +kernel
theorem dX6_runs_29 : decode cX6_runs 29 = .ok (.istore_n 3, 1) := by decide +kernel
theorem dX6_runs_30 : decode cX6_runs 30 = .ok (.iconst 0, 1) := by decide +kernel
theorem dX6_runs_31 : decode cX6_runs 31 = .ok (.istore 4, 2) := by decide +kernel
theorem dX6_runs_33 : decode cX6_runs 33 = .ok (.iconst 0, 1) := by decide +kernel
theorem dX6_runs_34 : decode cX6_runs 34 = .ok (.istore 5, 2) := by decide +kernel
theorem dX6_runs_36 : decode cX6_runs 36 = .ok (.iload 5, 2) := by decide +kernel
theorem dX6_runs_38 : decode cX6_runs 38 = .ok (.iload_n 1, 1) := by decide +kernel
theorem dX6_runs_39 : decode cX6_runs 39 = .ok (.if_icmp .ge 23, 3) := by decide +kernel
theorem dX6_runs_42 : decode cX6_runs 42 = .ok (.aload_n 0, 1) := by decide +kernel
theorem dX6_runs_43 : decode cX6_runs 43 = .ok (.iconst 0, 1) := by decide +kernel
theorem dX6_runs_44 : decode cX6_runs 44 = .ok (.invokevirtual 190, 3) := by decide +kernel
theorem dX6_runs_47 : decode cX6_runs 47 = .ok (.iload_n 3, 1) := by decide +kernel
theorem dX6_runs_48 : decode cX6_runs 48 = .ok (.aload_n 0, 1) := by decide +kernel
theorem dX6_runs_49 : decode cX6_runs 49 = .ok (.invokevirtual 197, 3) := by decide +kernel
theorem dX6_runs_52 : decode cX6_runs 52 = .ok (.invokestatic 242, 3) := by decide +kernel
theorem dX6_runs_55 : decode cX6_runs 55 = .ok (.istore_n 3, 1) := by decide +kernel
theorem dX6_runs_56 : decode cX6_runs 56 = .ok (.iinc 5 1, 3) := by decide +kernel
theorem dX6_runs_59 : decode cX6_runs 59 = .ok (.goto (-23), 3) := by decide +kernel
theorem dX6_runs_62 : decode cX6_runs 62 = .ok (.iconst 0, 1) := by decide +kernel
theorem dX6_runs_63 : decode cX6_runs 63 = .ok (.istore 5, 2) := by decide +kernel
theorem dX6_runs_65 : decode cX6_runs 65 = .ok (.iload 5, 2) := by decide +kernel
theorem dX6_runs_67 : decode cX6_runs 67 = .ok (.aload_n 0, 1) := by decide +kernel
theorem dX6_runs_68 : decode cX6_runs 68 = .ok (.getfield 64, 3) := by decide +kernel
theorem dX6_runs_71 : decode cX6_runs 71 = .ok (.if_icmp .ge 42, 3) := by decide +kernel
theorem dX6_runs_74 : decode cX6_runs 74 = .ok (.iload 4, 2) := by decide +kernel
theorem dX6_runs_76 : decode cX6_runs 76 = .ok (.aload_n 0, 1) := by decide +kernel
theorem dX6_runs_77 : decode cX6_runs 77 = .ok (.iload 5, 2) := by decide +kernel
theorem dX6_runs_79 : decode cX6_runs 79 = .ok (.invokevirtual 156, 3) := by decide +kernel
theorem dX6_runs_82 : decode cX6_runs 82 = .ok (.aload_n 0, 1) := by decide +kernel
theorem dX6_runs_83 : decode cX6_runs 83 = .ok (.getfield 7, 3) := by decide +kernel
theorem dX6_runs_86 : decode cX6_runs 86 = .ok (.iconst 2, 1) := by decide +kernel
theorem dX6_runs_87 : decode cX6_runs 87 = .ok (.iload 5, 2) := by decide +kernel
theorem dX6_runs_89 : decode cX6_runs 89 = .ok (.imul, 1) := by decide +kernel
theorem dX6_runs_90 : decode cX6_runs 90 = .ok (.iconst 1, 1) := by decide +kernel
theorem dX6_runs_91 : decode cX6_runs 91 = .ok (.iadd, 1) := by decide +kernel
theorem dX6_runs_92 : decode cX6_runs 92 = .ok (.iaload, 1) := by decide +kernel
theorem dX6_runs_93 : decode cX6_runs 93 = .ok (.if_icmp .eq 7, 3) := by decide +kernel
theorem dX6_runs_96 : decode cX6_runs 96 = .ok (.iconst 1, 1) := by decide +kernel
theorem dX6_runs_97 : decode cX6_runs 97 = .ok (.goto 4, 3) := by decide +kernel
theorem dX6_runs_100 : decode cX6_runs 100 = .ok (.iconst 0, 1) := by decide +kernel
theorem dX6_runs_101 : decode cX6_runs 101 = .ok (.invokestatic 200, 3) := by decide +kernel
theorem dX6_runs_104 : decode cX6_runs 104 = .ok (.iadd, 1) := by decide +kernel
theorem dX6_runs_105 : decode cX6_runs 105 = .ok (.istore 4, 2) := by decide +kernel
theorem dX6_runs_107 : decode cX6_runs 107 = .ok (.iinc 5 1, 3) := by decide +kernel
theorem dX6_runs_110 : decode cX6_runs 110 = .ok (.goto (-45), 3) := by decide +kernel
theorem dX6_runs_113 : decode cX6_runs 113 = .ok (.iload_n 2, 1) := by decide +kernel
theorem dX6_runs_114 : decode cX6_runs 114 = .ok (.ifCond .ne 10, 3) := by decide +kernel
theorem dX6_runs_117 : decode cX6_runs 117 = .ok (.aload_n 0, 1) := by decide +kernel
theorem dX6_runs_118 : decode cX6_runs 118 = .ok (.invokevirtual 197, 3) := by decide +kernel
theorem dX6_runs_121 : decode cX6_runs 121 = .ok (.goto 26, 3) := by decide +kernel
theorem dX6_runs_124 : decode cX6_runs 124 = .ok (.iload_n 2, 1) := by decide +kernel
theorem dX6_runs_125 : decode cX6_runs 125 = .ok (.iconst 1, 1) := by decide +kernel
theorem dX6_runs_126 : decode cX6_runs 126 = .ok (.if_icmp .ne 10, 3) := by decide +kernel
theorem dX6_runs_129 : decode cX6_runs 129 = .ok (.aload_n 0, 1) := by decide +kernel
theorem dX6_runs_130 : decode cX6_runs 130 = .ok (.invokevirtual 234, 3) := by decide +kernel
theorem dX6_runs_133 : decode cX6_runs 133 = .ok (.goto 14, 3) := by decide +kernel
theorem dX6_runs_136 : decode cX6_runs 136 = .ok (.iload_n 2, 1) := by decide +kernel
theorem dX6_runs_137 : decode cX6_runs 137 = .ok (.iconst 2, 1) := by decide +kernel
theorem dX6_runs_138 : decode cX6_runs 138 = .ok (.if_icmp .ne 7, 3) := by decide +kernel
theorem dX6_runs_141 : decode cX6_runs 141 = .ok (.iload_n 3, 1) := by decide +kernel
theorem dX6_runs_142 : decode cX6_runs 142 = .ok (.goto 5, 3) := by decide +kernel
theorem dX6_runs_145 : decode cX6_runs 145 = .ok (.iload 4, 2) := by decide +kernel
theorem dX6_runs_147 : decode cX6_runs 147 = .ok (.ireturn, 1) := by decide +kernel
theorem dX6_ahead_0 : decode cX6_ahead 0 = .ok (.aload_n 0, 1) := by decide +kernel
theorem dX6_ahead_1 : decode cX6_ahead 1 = .ok (.iload_n 1, 1) := by decide +kernel
theorem dX6_ahead_2 : decode cX6_ahead 2 = .ok (.invokevirtual 151, 3) := by decide +kernel
theorem dX6_ahead_5 : decode cX6_ahead 5 = .ok (.ifCond .eq 10, 3) := by decide +kernel
theorem dX6_ahead_8 : decode cX6_ahead 8 = .ok (.iload_n 2, 1) := by decide +kernel
theorem dX6_ahead_9 : decode cX6_ahead 9 = .ok (.invokestatic 239, 3) := by decide +kernel
theorem dX6_ahead_12 : decode cX6_ahead 12 = .ok (.ifCond .ne 5, 3) := by decide +kernel
theorem dX6_ahead_15 : decode cX6_ahead 15 = .ok (.iconst (-1), 1) := by decide +kernel
theorem dX6_ahead_16 : decode cX6_ahead 16 = .ok (.ireturn, 1) := by decide +kernel
theorem dX6_ahead_17 : decode cX6_ahead 17 = .ok (.aload_n 0, 1) := by decide +kernel
theorem dX6_ahead_18 : decode cX6_ahead 18 = .ok (.invokevirtual 194, 3) := by decide +kernel
theorem dX6_ahead_21 : decode cX6_ahead 21 = .ok (.aload_n 0, 1) := by decide +kernel
theorem dX6_ahead_22 : decode cX6_ahead 22 = .ok (.iload_n 2, 1) := by decide +kernel
theorem dX6_ahead_23 : decode cX6_ahead 23 = .ok (.invokevirtual 231, 3) := by decide +kernel
theorem dX6_ahead_26 : decode cX6_ahead 26 = .ok (.aload_n 0, 1) := by decide +kernel
theorem dX6_ahead_27 : decode cX6_ahead 27 = .ok (.iload_n 1, 1) := by decide +kernel
theorem dX6_ahead_28 : decode cX6_ahead 28 = .ok (.invokevirtual 156, 3) := by decide +kernel
theorem dX6_ahead_31 : decode cX6_ahead 31 = .ok (.ireturn, 1) := by decide +kernel
theorem dX6_within_0 : decode cX6_within 0 = .ok (.iload_n 1, 1) := by decide +kernel
theorem dX6_within_1 : decode cX6_within 1 = .ok (.invokestatic 171, 3) := by decide +kernel
theorem dX6_within_4 : decode cX6_within 4 = .ok (.ifCond .ne 5, 3) := by decide +kernel
theorem dX6_within_7 : decode cX6_within 7 = .ok (.iconst (-1), 1) := by decide +kernel
theorem dX6_within_8 : decode cX6_within 8 = .ok (.ireturn, 1) := by decide +kernel
theorem dX6_within_9 : decode cX6_within 9 = .ok (.aload_n 0, 1) := by decide +kernel
theorem dX6_within_10 : decode cX6_within 10 = .ok (.invokevirtual 194, 3) := by decide +kernel
theorem dX6_within_13 : decode cX6_within 13 = .ok (.iconst 0, 1) := by decide +kernel
theorem dX6_within_14 : decode cX6_within 14 = .ok (.istore_n 2, 1) := by decide +kernel
theorem dX6_within_15 : decode cX6_within 15 = .ok (.iload_n 2, 1) := by decide +kernel
theorem dX6_within_16 : decode cX6_within 16 = .ok (.bipush 60, 2) := by decide +kernel
theorem dX6_within_18 : decode cX6_within 18 = .ok (.if_icmp .gt 24, 3) := by decide +kernel
theorem dX6_within_21 : decode cX6_within 21 = .ok (.aload_n 0, 1) := by decide +kernel
theorem dX6_within_22 : decode cX6_within 22 = .ok (.invokevirtual 197, 3) := by decide +kernel
theorem dX6_within_25 : decode cX6_within 25 = .ok (.iload_n 1, 1) := by decide +kernel
theorem dX6_within_26 : decode cX6_within 26 = .ok (.if_icmp .gt 5, 3) := by decide +kernel
theorem dX6_within_29 : decode cX6_within 29 = .ok (.iload_n 2, 1) := by decide +kernel
theorem dX6_within_30 : decode cX6_within 30 = .ok (.ireturn, 1) := by decide +kernel
theorem dX6_within_31 : decode cX6_within 31 = .ok (.aload_n 0, 1) := by decide +kernel
theorem dX6_within_32 : decode cX6_within 32 = .ok (.iconst 0, 1) := by decide +kernel
theorem dX6_within_33 : decode cX6_within 33 = .ok (.invokevirtual 190, 3) := by decide +kernel
theorem dX6_within_36 : decode cX6_within 36 = .ok (.iinc 2 1, 3) := by decide +kernel
theorem dX6_within_39 : decode cX6_within 39 = .ok (.goto (-24), 3) := by decide +kernel
theorem dX6_within_42 : decode cX6_within 42 = .ok (.bipush (-4), 2) := by decide +kernel
theorem dX6_within_44 : decode cX6_within 44 = .ok (.ireturn, 1) := by decide +kernel
theorem dX6_startsJudging_0 : decode cX6_startsJudging 0 = .ok (.aload_n 0, 1) := by decide +kernel
theorem dX6_startsJudging_1 : decode cX6_startsJudging 1 = .ok (.bipush (-4), 2) := by decide +kernel
theorem dX6_startsJudging_3 : decode cX6_startsJudging 3 = .ok (.putfield 245, 3) := by decide +kernel
theorem dX6_startsJudging_6 : decode cX6_startsJudging 6 = .ok (.aload_n 0, 1) := by decide +kernel
theorem dX6_startsJudging_7 : decode cX6_startsJudging 7 = .ok (.iload_n 1, 1) := by decide +kernel
theorem dX6_startsJudging_8 : decode cX6_startsJudging 8 = .ok (.putfield 248, 3) := by decide +kernel
theorem dX6_startsJudging_11 : decode cX6_startsJudging 11 = .ok (.return_, 1) := by decide +kernel
theorem dX6_judges_0 : decode cX6_judges 0 = .ok (.aload_n 0, 1) := by decide +kernel
theorem dX6_judges_1 : decode cX6_judges 1 = .ok (.iload_n 2, 1) := by decide +kernel
theorem dX6_judges_2 : decode cX6_judges 2 = .ok (.aload_n 0, 1) := by decide +kernel
theorem dX6_judges_3 : decode cX6_judges 3 = .ok (.getfield 248, 3) := by decide +kernel
theorem dX6_judges_6 : decode cX6_judges 6 = .ok (.if_icmp .ge 7, 3) := by decide +kernel
theorem dX6_judges_9 : decode cX6_judges 9 = .ok (.iload_n 1, 1) := by decide +kernel
theorem dX6_judges_10 : decode cX6_judges 10 = .ok (.goto 7, 3) := by decide +kernel
theorem dX6_judges_13 : decode cX6_judges 13 = .ok (.aload_n 0, 1) := by decide +kernel
theorem dX6_judges_14 : decode cX6_judges 14 = .ok (.getfield 245, 3) := by decide +kernel
theorem dX6_judges_17 : decode cX6_judges 17 = .ok (.putfield 245, 3) := by decide +kernel
theorem dX6_judges_20 : decode cX6_judges 20 = .ok (.aload_n 0, 1) := by decide +kernel
theorem dX6_judges_21 : decode cX6_judges 21 = .ok (.iload_n 2, 1) := by decide +kernel
theorem dX6_judges_22 : decode cX6_judges 22 = .ok (.aload_n 0, 1) := by decide +kernel
theorem dX6_judges_23 : decode cX6_judges 23 = .ok (.getfield 248, 3) := by decide +kernel
theorem dX6_judges_26 : decode cX6_judges 26 = .ok (.invokestatic 242, 3) := by decide +kernel
theorem dX6_judges_29 : decode cX6_judges 29 = .ok (.putfield 248, 3) := by decide +kernel
theorem dX6_judges_32 : decode cX6_judges 32 = .ok (.return_, 1) := by decide +kernel
theorem dX6_judged_0 : decode cX6_judged 0 = .ok (.aload_n 0, 1) := by decide +kernel
theorem dX6_judged_1 : decode cX6_judged 1 = .ok (.getfield 245, 3) := by decide +kernel
theorem dX6_judged_4 : decode cX6_judged 4 = .ok (.bipush (-4), 2) := by decide +kernel
theorem dX6_judged_6 : decode cX6_judged 6 = .ok (.if_icmp .ne 8, 3) := by decide +kernel
theorem dX6_judged_9 : decode cX6_judged 9 = .ok (.bipush (-4), 2) := by decide +kernel
theorem dX6_judged_11 : decode cX6_judged 11 = .ok (.goto 18, 3) := by decide +kernel
theorem dX6_judged_14 : decode cX6_judged 14 = .ok (.iload_n 1, 1) := by decide +kernel
theorem dX6_judged_15 : decode cX6_judged 15 = .ok (.ifCond .ne 10, 3) := by decide +kernel
theorem dX6_judged_18 : decode cX6_judged 18 = .ok (.aload_n 0, 1) := by decide +kernel
theorem dX6_judged_19 : decode cX6_judged 19 = .ok (.getfield 245, 3) := by decide +kernel
theorem dX6_judged_22 : decode cX6_judged 22 = .ok (.goto 7, 3) := by decide +kernel
theorem dX6_judged_25 : decode cX6_judged 25 = .ok (.aload_n 0, 1) := by decide +kernel
theorem dX6_judged_26 : decode cX6_judged 26 = .ok (.getfield 248, 3) := by decide +kernel
theorem dX6_judged_29 : decode cX6_judged 29 = .ok (.ireturn, 1) := by decide +kernel
theorem dX6_spreadBehind_0 : decode cX6_spreadBehind 0 = .ok (.aload_n 0, 1) := by decide +kernel
theorem dX6_spreadBehind_1 : decode cX6_spreadBehind 1 = .ok (.iload_n 1, 1) := by decide +kernel
theorem dX6_spreadBehind_2 : decode cX6_spreadBehind 2 = .ok (.invokevirtual 231, 3) := by decide +kernel
theorem dX6_spreadBehind_5 : decode cX6_spreadBehind 5 = .ok (.aload_n 0, 1) := by decide +kernel
theorem dX6_spreadBehind_6 : decode cX6_spreadBehind 6 = .ok (.invokevirtual 197, 3) := by decide +kernel
theorem dX6_spreadBehind_9 : decode cX6_spreadBehind 9 = .ok (.ireturn, 1) := by decide +kernel
theorem dX6_match_0 : decode cX6_match 0 = .ok (.iload_n 1, 1) := by decide +kernel
theorem dX6_match_1 : decode cX6_match 1 = .ok (.i2l, 1) := by decide +kernel
theorem dX6_match_2 : decode cX6_match 2 = .ok (.lconst 1, 1) := by decide +kernel
theorem dX6_match_3 : decode cX6_match 3 = .ok (.ldc2_w 220, 3) := by decide +kernel
theorem dX6_match_6 : decode cX6_match 6 = .ok (.invokestatic 69, 3) := by decide +kernel
theorem dX6_match_9 : decode cX6_match 9 = .ok (.ifCond .eq 10, 3) := by decide +kernel
theorem dX6_match_12 : decode cX6_match 12 = .ok (.iload_n 2, 1) := by decide +kernel
theorem dX6_match_13 : decode cX6_match 13 = .ok (.invokestatic 251, 3) := by decide +kernel
theorem dX6_match_16 : decode cX6_match 16 = .ok (.ifCond .ne 5, 3) := by decide +kernel
theorem dX6_match_19 : decode cX6_match 19 = .ok (.iconst (-1), 1) := by decide +kernel
theorem dX6_match_20 : decode cX6_match 20 = .ok (.ireturn, 1) := by decide +kernel
theorem dX6_match_21 : decode cX6_match 21 = .ok (.aload_n 0, 1) := by decide +kernel
theorem dX6_match_22 : decode cX6_match 22 = .ok (.getfield 7, 3) := by decide +kernel
theorem dX6_match_25 : decode cX6_match 25 = .ok (.bipush 53, 2) := by decide +kernel
theorem dX6_match_27 : decode cX6_match 27 = .ok (.iaload, 1) := by decide +kernel
theorem dX6_match_28 : decode cX6_match 28 = .ok (.bipush 6, 2) := by decide +kernel
theorem dX6_match_30 : decode cX6_match 30 = .ok (.if_icmp .ne 6, 3) := by decide +kernel
theorem dX6_match_33 : decode cX6_match 33 = .ok (.bipush (-3), 2) := by decide +kernel
theorem dX6_match_35 : decode cX6_match 35 = .ok (.ireturn, 1) := by decide +kernel
theorem dX6_match_36 : decode cX6_match 36 = .ok (.aload_n 0, 1) := by decide +kernel
theorem dX6_match_37 : decode cX6_match 37 = .ok (.invokevirtual 194, 3) := by decide +kernel
theorem dX6_match_40 : decode cX6_match 40 = .ok (.aload_n 0, 1) := by decide +kernel
theorem dX6_match_41 : decode cX6_match 41 = .ok (.aload_n 0, 1) := by decide +kernel
theorem dX6_match_42 : decode cX6_match 42 = .ok (.bipush 30, 2) := by decide +kernel
theorem dX6_match_44 : decode cX6_match 44 = .ok (.invokevirtual 254, 3) := by decide +kernel
theorem dX6_match_47 : decode cX6_match 47 = .ok (.invokevirtual 257, 3) := by decide +kernel
theorem dX6_match_50 : decode cX6_match 50 = .ok (.iconst 0, 1) := by decide +kernel
theorem dX6_match_51 : decode cX6_match 51 = .ok (.istore_n 3, 1) := by decide +kernel
theorem dX6_match_52 : decode cX6_match 52 = .ok (.iload_n 3, 1) := by decide +kernel
theorem dX6_match_53 : decode cX6_match 53 = .ok (.aload_n 0, 1) := by decide +kernel
theorem dX6_match_54 : decode cX6_match 54 = .ok (.getfield 64, 3) := by decide +kernel
theorem dX6_match_57 : decode cX6_match 57 = .ok (.if_icmp .ge 58, 3) := by decide +kernel
theorem dX6_match_60 : decode cX6_match 60 = .ok (.iload_n 3, 1) := by decide +kernel
theorem dX6_match_61 : decode cX6_match 61 = .ok (.iconst 1, 1) := by decide +kernel
theorem dX6_match_62 : decode cX6_match 62 = .ok (.iadd, 1) := by decide +kernel
theorem dX6_match_63 : decode cX6_match 63 = .ok (.istore 4, 2) := by decide +kernel
theorem dX6_match_65 : decode cX6_match 65 = .ok (.iload 4, 2) := by decide +kernel
theorem dX6_match_67 : decode cX6_match 67 = .ok (.aload_n 0, 1) := by decide +kernel
theorem dX6_match_68 : decode cX6_match 68 = .ok (.getfield 64, 3) := by decide +kernel
theorem dX6_match_71 : decode cX6_match 71 = .ok (.if_icmp .ge 38, 3) := by decide +kernel
theorem dX6_match_74 : decode cX6_match 74 = .ok (.aload_n 0, 1) := by decide +kernel
theorem dX6_match_75 : decode cX6_match 75 = .ok (.invokevirtual 194, 3) := by decide +kernel
theorem dX6_match_78 : decode cX6_match 78 = .ok (.aload_n 0, 1) := by decide +kernel
theorem dX6_match_79 : decode cX6_match 79 = .ok (.iload_n 3, 1) := by decide +kernel
theorem dX6_match_80 : decode cX6_match 80 = .ok (.iload 4, 2) := by decide +kernel
theorem dX6_match_82 : decode cX6_match 82 = .ok (.iload_n 1, 1) := by decide +kernel
theorem dX6_match_83 : decode cX6_match 83 = .ok (.invokevirtual 222, 3) := by decide +kernel
theorem dX6_match_86 : decode cX6_match 86 = .ok (.aload_n 0, 1) := by decide +kernel
theorem dX6_match_87 : decode cX6_match 87 = .ok (.bipush 10, 2) := by decide +kernel
theorem dX6_match_89 : decode cX6_match 89 = .ok (.iload_n 3, 1) := by decide +kernel
theorem dX6_match_90 : decode cX6_match 90 = .ok (.imul, 1) := by decide +kernel
theorem dX6_match_91 : decode cX6_match 91 = .ok (.iload 4, 2) := by decide +kernel
theorem dX6_match_93 : decode cX6_match 93 = .ok (.iadd, 1) := by decide +kernel
theorem dX6_match_94 : decode cX6_match 94 = .ok (.aload_n 0, 1) := by decide +kernel
theorem dX6_match_95 : decode cX6_match 95 = .ok (.bipush 30, 2) := by decide +kernel
theorem dX6_match_97 : decode cX6_match 97 = .ok (.invokevirtual 254, 3) := by decide +kernel
theorem dX6_match_100 : decode cX6_match 100 = .ok (.invokevirtual 260, 3) := by decide +kernel
theorem dX6_match_103 : decode cX6_match 103 = .ok (.iinc 4 1, 3) := by decide +kernel
theorem dX6_match_106 : decode cX6_match 106 = .ok (.goto (-41), 3) := by decide +kernel
theorem dX6_match_109 : decode cX6_match 109 = .ok (.iinc 3 1, 3) := by decide +kernel
theorem dX6_match_112 : decode cX6_match 112 = .ok (.goto (-60), 3) := by decide +kernel
theorem dX6_match_115 : decode cX6_match 115 = .ok (.aload_n 0, 1) := by decide +kernel
theorem dX6_match_116 : decode cX6_match 116 = .ok (.iload_n 2, 1) := by decide +kernel
theorem dX6_match_117 : decode cX6_match 117 = .ok (.invokevirtual 264, 3) := by decide +kernel
theorem dX6_match_120 : decode cX6_match 120 = .ok (.ireturn, 1) := by decide +kernel
theorem dX6_frays_0 : decode cX6_frays 0 = .ok (.bipush 35, 2) := by decide +kernel
theorem dX6_frays_2 : decode cX6_frays 2 = .ok (.iconst 3, 1) := by decide +kernel
theorem dX6_frays_3 : decode cX6_frays 3 = .ok (.iload_n 1, 1) := by decide +kernel
theorem dX6_frays_4 : decode cX6_frays 4 = .ok (.imul, 1) := by decide +kernel
theorem dX6_frays_5 : decode cX6_frays 5 = .ok (.iadd, 1) := by decide +kernel
theorem dX6_frays_6 : decode cX6_frays 6 = .ok (.istore_n 2, 1) := by decide +kernel
theorem dX6_frays_7 : decode cX6_frays 7 = .ok (.iload_n 2, 1) := by decide +kernel
theorem dX6_frays_8 : decode cX6_frays 8 = .ok (.bipush 50, 2) := by decide +kernel
theorem dX6_frays_10 : decode cX6_frays 10 = .ok (.if_icmp .ge 23, 3) := by decide +kernel
theorem dX6_frays_13 : decode cX6_frays 13 = .ok (.aload_n 0, 1) := by decide +kernel
theorem dX6_frays_14 : decode cX6_frays 14 = .ok (.getfield 13, 3) := by decide +kernel
theorem dX6_frays_17 : decode cX6_frays 17 = .ok (.iload_n 2, 1) := by decide +kernel
theorem dX6_frays_18 : decode cX6_frays 18 = .ok (.aload_n 0, 1) := by decide +kernel
theorem dX6_frays_19 : decode cX6_frays 19 = .ok (.getfield 13, 3) := by decide +kernel
theorem dX6_frays_22 : decode cX6_frays 22 = .ok (.iload_n 2, 1) := by decide +kernel
theorem dX6_frays_23 : decode cX6_frays 23 = .ok (.iconst 3, 1) := by decide +kernel
theorem dX6_frays_24 : decode cX6_frays 24 = .ok (.iadd, 1) := by decide +kernel
theorem dX6_frays_25 : decode cX6_frays 25 = .ok (.iaload, 1) := by decide +kernel
theorem dX6_frays_26 : decode cX6_frays 26 = .ok (.iastore, 1) := by decide +kernel
theorem dX6_frays_27 : decode cX6_frays 27 = .ok (.iinc 2 1, 3) := by decide +kernel
theorem dX6_frays_30 : decode cX6_frays 30 = .ok (.goto (-23), 3) := by decide +kernel
theorem dX6_frays_33 : decode cX6_frays 33 = .ok (.aload_n 0, 1) := by decide +kernel
theorem dX6_frays_34 : decode cX6_frays 34 = .ok (.getfield 13, 3) := by decide +kernel
theorem dX6_frays_37 : decode cX6_frays 37 = .ok (.bipush 53, 2) := by decide +kernel
theorem dX6_frays_39 : decode cX6_frays 39 = .ok (.dup2, 1) := by decide +kernel
theorem dX6_frays_40 : decode cX6_frays 40 = .ok (.iaload, 1) := by decide +kernel
theorem dX6_frays_41 : decode cX6_frays 41 = .ok (.iconst 1, 1) := by decide +kernel
theorem dX6_frays_42 : decode cX6_frays 42 = .ok (.isub, 1) := by decide +kernel
theorem dX6_frays_43 : decode cX6_frays 43 = .ok (.iastore, 1) := by decide +kernel
theorem dX6_frays_44 : decode cX6_frays 44 = .ok (.return_, 1) := by decide +kernel
theorem dX6_fray_0 : decode cX6_fray 0 = .ok (.iload_n 1, 1) := by decide +kernel
theorem dX6_fray_1 : decode cX6_fray 1 = .ok (.invokestatic 251, 3) := by decide +kernel
theorem dX6_fray_4 : decode cX6_fray 4 = .ok (.ifCond .ne 5, 3) := by decide +kernel
theorem dX6_fray_7 : decode cX6_fray 7 = .ok (.iconst (-1), 1) := by decide +kernel
theorem dX6_fray_8 : decode cX6_fray 8 = .ok (.ireturn, 1) := by decide +kernel
theorem dX6_fray_9 : decode cX6_fray 9 = .ok (.aload_n 0, 1) := by decide +kernel
theorem dX6_fray_10 : decode cX6_fray 10 = .ok (.invokevirtual 194, 3) := by decide +kernel
theorem dX6_fray_13 : decode cX6_fray 13 = .ok (.aload_n 0, 1) := by decide +kernel
theorem dX6_fray_14 : decode cX6_fray 14 = .ok (.bipush 30, 2) := by decide +kernel
theorem dX6_fray_16 : decode cX6_fray 16 = .ok (.invokevirtual 231, 3) := by decide +kernel
theorem dX6_fray_19 : decode cX6_fray 19 = .ok (.aload_n 0, 1) := by decide +kernel
theorem dX6_fray_20 : decode cX6_fray 20 = .ok (.aload_n 0, 1) := by decide +kernel
theorem dX6_fray_21 : decode cX6_fray 21 = .ok (.invokevirtual 234, 3) := by decide +kernel
theorem dX6_fray_24 : decode cX6_fray 24 = .ok (.invokevirtual 257, 3) := by decide +kernel
theorem dX6_fray_27 : decode cX6_fray 27 = .ok (.iconst 0, 1) := by decide +kernel
theorem dX6_fray_28 : decode cX6_fray 28 = .ok (.istore_n 2, 1) := by decide +kernel
theorem dX6_fray_29 : decode cX6_fray 29 = .ok (.iload_n 2, 1) := by decide +kernel
theorem dX6_fray_30 : decode cX6_fray 30 = .ok (.aload_n 0, 1) := by decide +kernel
theorem dX6_fray_31 : decode cX6_fray 31 = .ok (.getfield 7, 3) := by decide +kernel
theorem dX6_fray_34 : decode cX6_fray 34 = .ok (.bipush 53, 2) := by decide +kernel
theorem dX6_fray_36 : decode cX6_fray 36 = .ok (.iaload, 1) := by decide +kernel
theorem dX6_fray_37 : decode cX6_fray 37 = .ok (.if_icmp .ge 33, 3) := by decide +kernel
theorem dX6_fray_40 : decode cX6_fray 40 = .ok (.aload_n 0, 1) := by decide +kernel
theorem dX6_fray_41 : decode cX6_fray 41 = .ok (.invokevirtual 194, 3) := by decide +kernel
theorem dX6_fray_44 : decode cX6_fray 44 = .ok (.aload_n 0, 1) := by decide +kernel
theorem dX6_fray_45 : decode cX6_fray 45 = .ok (.iload_n 2, 1) := by decide +kernel
theorem dX6_fray_46 : decode cX6_fray 46 = .ok (.invokevirtual 267, 3) := by decide +kernel
theorem dX6_fray_49 : decode cX6_fray 49 = .ok (.aload_n 0, 1) := by decide +kernel
theorem dX6_fray_50 : decode cX6_fray 50 = .ok (.bipush 30, 2) := by decide +kernel
theorem dX6_fray_52 : decode cX6_fray 52 = .ok (.invokevirtual 231, 3) := by decide +kernel
theorem dX6_fray_55 : decode cX6_fray 55 = .ok (.aload_n 0, 1) := by decide +kernel
theorem dX6_fray_56 : decode cX6_fray 56 = .ok (.iload_n 2, 1) := by decide +kernel
theorem dX6_fray_57 : decode cX6_fray 57 = .ok (.aload_n 0, 1) := by decide +kernel
theorem dX6_fray_58 : decode cX6_fray 58 = .ok (.invokevirtual 234, 3) := by decide +kernel
theorem dX6_fray_61 : decode cX6_fray 61 = .ok (.invokevirtual 260, 3) := by decide +kernel
theorem dX6_fray_64 : decode cX6_fray 64 = .ok (.iinc 2 1, 3) := by decide +kernel
theorem dX6_fray_67 : decode cX6_fray 67 = .ok (.goto (-38), 3) := by decide +kernel
theorem dX6_fray_70 : decode cX6_fray 70 = .ok (.aload_n 0, 1) := by decide +kernel
theorem dX6_fray_71 : decode cX6_fray 71 = .ok (.iload_n 1, 1) := by decide +kernel
theorem dX6_fray_72 : decode cX6_fray 72 = .ok (.invokevirtual 264, 3) := by decide +kernel
theorem dX6_fray_75 : decode cX6_fray 75 = .ok (.ireturn, 1) := by decide +kernel
theorem dX6_soothe_0 : decode cX6_soothe 0 = .ok (.iload_n 1, 1) := by decide +kernel
theorem dX6_soothe_1 : decode cX6_soothe 1 = .ok (.invokestatic 251, 3) := by decide +kernel
theorem dX6_soothe_4 : decode cX6_soothe 4 = .ok (.ifCond .ne 5, 3) := by decide +kernel
theorem dX6_soothe_7 : decode cX6_soothe 7 = .ok (.iconst (-1), 1) := by decide +kernel
theorem dX6_soothe_8 : decode cX6_soothe 8 = .ok (.ireturn, 1) := by decide +kernel
theorem dX6_soothe_9 : decode cX6_soothe 9 = .ok (.aload_n 0, 1) := by decide +kernel
theorem dX6_soothe_10 : decode cX6_soothe 10 = .ok (.invokevirtual 194, 3) := by decide +kernel
theorem dX6_soothe_13 : decode cX6_soothe 13 = .ok (.aload_n 0, 1) := by decide +kernel
theorem dX6_soothe_14 : decode cX6_soothe 14 = .ok (.aload_n 0, 1) := by decide +kernel
theorem dX6_soothe_15 : decode cX6_soothe 15 = .ok (.bipush 30, 2) := by decide +kernel
theorem dX6_soothe_17 : decode cX6_soothe 17 = .ok (.invokevirtual 254, 3) := by decide +kernel
theorem dX6_soothe_20 : decode cX6_soothe 20 = .ok (.invokevirtual 257, 3) := by decide +kernel
theorem dX6_soothe_23 : decode cX6_soothe 23 = .ok (.iconst 0, 1) := by decide +kernel
theorem dX6_soothe_24 : decode cX6_soothe 24 = .ok (.istore_n 2, 1) := by decide +kernel
theorem dX6_soothe_25 : decode cX6_soothe 25 = .ok (.iload_n 2, 1) := by decide +kernel
theorem dX6_soothe_26 : decode cX6_soothe 26 = .ok (.aload_n 0, 1) := by decide +kernel
theorem dX6_soothe_27 : decode cX6_soothe 27 = .ok (.getfield 64, 3) := by decide +kernel
theorem dX6_soothe_30 : decode cX6_soothe 30 = .ok (.if_icmp .ge 64, 3) := by decide +kernel
theorem dX6_soothe_33 : decode cX6_soothe 33 = .ok (.iconst 0, 1) := by decide +kernel
theorem dX6_soothe_34 : decode cX6_soothe 34 = .ok (.istore_n 3, 1) := by decide +kernel
theorem dX6_soothe_35 : decode cX6_soothe 35 = .ok (.iload_n 3, 1) := by decide +kernel
theorem dX6_soothe_36 : decode cX6_soothe 36 = .ok (.aload_n 0, 1) := by decide +kernel
theorem dX6_soothe_37 : decode cX6_soothe 37 = .ok (.getfield 64, 3) := by decide +kernel
theorem dX6_soothe_40 : decode cX6_soothe 40 = .ok (.if_icmp .ge 48, 3) := by decide +kernel
theorem dX6_soothe_43 : decode cX6_soothe 43 = .ok (.iload_n 2, 1) := by decide +kernel
theorem dX6_soothe_44 : decode cX6_soothe 44 = .ok (.iload_n 3, 1) := by decide +kernel
theorem dX6_soothe_45 : decode cX6_soothe 45 = .ok (.if_icmp .eq 37, 3) := by decide +kernel
theorem dX6_soothe_48 : decode cX6_soothe 48 = .ok (.aload_n 0, 1) := by decide +kernel
theorem dX6_soothe_49 : decode cX6_soothe 49 = .ok (.invokevirtual 194, 3) := by decide +kernel
theorem dX6_soothe_52 : decode cX6_soothe 52 = .ok (.aload_n 0, 1) := by decide +kernel
theorem dX6_soothe_53 : decode cX6_soothe 53 = .ok (.getfield 13, 3) := by decide +kernel
theorem dX6_soothe_56 : decode cX6_soothe 56 = .ok (.bipush 10, 2) := by decide +kernel
theorem dX6_soothe_58 : decode cX6_soothe 58 = .ok (.iconst 5, 1) := by decide +kernel
theorem dX6_soothe_59 : decode cX6_soothe 59 = .ok (.iload_n 2, 1) := by decide +kernel
theorem dX6_soothe_60 : decode cX6_soothe 60 = .ok (.imul, 1) := by decide +kernel
theorem dX6_soothe_61 : decode cX6_soothe 61 = .ok (.iadd, 1) := by decide +kernel
theorem dX6_soothe_62 : decode cX6_soothe 62 = .ok (.iload_n 3, 1) := by decide +kernel
theorem dX6_soothe_63 : decode cX6_soothe 63 = .ok (.iadd, 1) := by decide +kernel
theorem dX6_soothe_64 : decode cX6_soothe 64 = .ok (.iconst 0, 1) := by decide +kernel
theorem dX6_soothe_65 : decode cX6_soothe 65 = .ok (.iastore, 1) := by decide +kernel
theorem dX6_soothe_66 : decode cX6_soothe 66 = .ok (.aload_n 0, 1) := by decide +kernel
theorem dX6_soothe_67 : decode cX6_soothe 67 = .ok (.bipush 10, 2) := by decide +kernel
theorem dX6_soothe_69 : decode cX6_soothe 69 = .ok (.iload_n 2, 1) := by decide +kernel
theorem dX6_soothe_70 : decode cX6_soothe 70 = .ok (.imul, 1) := by decide +kernel
theorem dX6_soothe_71 : decode cX6_soothe 71 = .ok (.iload_n 3, 1) := by decide +kernel
theorem dX6_soothe_72 : decode cX6_soothe 72 = .ok (.iadd, 1) := by decide +kernel
theorem dX6_soothe_73 : decode cX6_soothe 73 = .ok (.aload_n 0, 1) := by decide +kernel
theorem dX6_soothe_74 : decode cX6_soothe 74 = .ok (.bipush 30, 2) := by decide +kernel
theorem dX6_soothe_76 : decode cX6_soothe 76 = .ok (.invokevirtual 254, 3) := by decide +kernel
theorem dX6_soothe_79 : decode cX6_soothe 79 = .ok (.invokevirtual 260, 3) := by decide +kernel
theorem dX6_soothe_82 : decode cX6_soothe 82 = .ok (.iinc 3 1, 3) := by decide +kernel
theorem dX6_soothe_85 : decode cX6_soothe 85 = .ok (.goto (-50), 3) := by decide +kernel
theorem dX6_soothe_88 : decode cX6_soothe 88 = .ok (.iinc 2 1, 3) := by decide +kernel
theorem dX6_soothe_91 : decode cX6_soothe 91 = .ok (.goto (-66), 3) := by decide +kernel
theorem dX6_soothe_94 : decode cX6_soothe 94 = .ok (.aload_n 0, 1) := by decide +kernel
theorem dX6_soothe_95 : decode cX6_soothe 95 = .ok (.iload_n 1, 1) := by decide +kernel
theorem dX6_soothe_96 : decode cX6_soothe 96 = .ok (.invokevirtual 264, 3) := by decide +kernel
theorem dX6_soothe_99 : decode cX6_soothe 99 = .ok (.ireturn, 1) := by decide +kernel
theorem dX6_holy_0 : decode cX6_holy 0 = .ok (.iload_n 1, 1) := by decide +kernel
theorem dX6_holy_1 : decode cX6_holy 1 = .ok (.invokestatic 239, 3) := by decide +kernel
theorem dX6_holy_4 : decode cX6_holy 4 = .ok (.ifCond .eq 10, 3) := by decide +kernel
theorem dX6_holy_7 : decode cX6_holy 7 = .ok (.iload_n 2, 1) := by decide +kernel
theorem dX6_holy_8 : decode cX6_holy 8 = .ok (.invokestatic 251, 3) := by decide +kernel
theorem dX6_holy_11 : decode cX6_holy 11 = .ok (.ifCond .ne 5, 3) := by decide +kernel
theorem dX6_holy_14 : decode cX6_holy 14 = .ok (.iconst (-1), 1) := by decide +kernel
theorem dX6_holy_15 : decode cX6_holy 15 = .ok (.ireturn, 1) := by decide +kernel
theorem dX6_holy_16 : decode cX6_holy 16 = .ok (.aload_n 0, 1) := by decide +kernel
theorem dX6_holy_17 : decode cX6_holy 17 = .ok (.ldc_w 270, 3) := by decide +kernel
theorem dX6_holy_20 : decode cX6_holy 20 = .ok (.invokevirtual 257, 3) := by decide +kernel
theorem dX6_holy_23 : decode cX6_holy 23 = .ok (.iconst 0, 1) := by decide +kernel
theorem dX6_holy_24 : decode cX6_holy 24 = .ok (.istore_n 3, 1) := by decide +kernel
theorem dX6_holy_25 : decode cX6_holy 25 = .ok (.iload_n 3, 1) := by decide +kernel
theorem dX6_holy_26 : decode cX6_holy 26 = .ok (.bipush 7, 2) := by decide +kernel
theorem dX6_holy_28 : decode cX6_holy 28 = .ok (.if_icmp .ge 31, 3) := by decide +kernel
theorem dX6_holy_31 : decode cX6_holy 31 = .ok (.aload_n 0, 1) := by decide +kernel
theorem dX6_holy_32 : decode cX6_holy 32 = .ok (.invokevirtual 194, 3) := by decide +kernel
theorem dX6_holy_35 : decode cX6_holy 35 = .ok (.aload_n 0, 1) := by decide +kernel
theorem dX6_holy_36 : decode cX6_holy 36 = .ok (.getfield 13, 3) := by decide +kernel
theorem dX6_holy_39 : decode cX6_holy 39 = .ok (.bipush 55, 2) := by decide +kernel
theorem dX6_holy_41 : decode cX6_holy 41 = .ok (.iload_n 3, 1) := by decide +kernel
theorem dX6_holy_42 : decode cX6_holy 42 = .ok (.iastore, 1) := by decide +kernel
theorem dX6_holy_43 : decode cX6_holy 43 = .ok (.aload_n 0, 1) := by decide +kernel
theorem dX6_holy_44 : decode cX6_holy 44 = .ok (.iload_n 3, 1) := by decide +kernel
theorem dX6_holy_45 : decode cX6_holy 45 = .ok (.aload_n 0, 1) := by decide +kernel
theorem dX6_holy_46 : decode cX6_holy 46 = .ok (.iload_n 1, 1) := by decide +kernel
theorem dX6_holy_47 : decode cX6_holy 47 = .ok (.invokevirtual 254, 3) := by decide +kernel
theorem dX6_holy_50 : decode cX6_holy 50 = .ok (.invokevirtual 260, 3) := by decide +kernel
theorem dX6_holy_53 : decode cX6_holy 53 = .ok (.iinc 3 1, 3) := by decide +kernel
theorem dX6_holy_56 : decode cX6_holy 56 = .ok (.goto (-31), 3) := by decide +kernel
theorem dX6_holy_59 : decode cX6_holy 59 = .ok (.aload_n 0, 1) := by decide +kernel
theorem dX6_holy_60 : decode cX6_holy 60 = .ok (.iload_n 2, 1) := by decide +kernel
theorem dX6_holy_61 : decode cX6_holy 61 = .ok (.invokevirtual 264, 3) := by decide +kernel
theorem dX6_holy_64 : decode cX6_holy 64 = .ok (.ireturn, 1) := by decide +kernel
theorem dX6_kind_0 : decode cX6_kind 0 = .ok (.aload_n 0, 1) := by decide +kernel
theorem dX6_kind_1 : decode cX6_kind 1 = .ok (.iload_n 1, 1) := by decide +kernel
theorem dX6_kind_2 : decode cX6_kind 2 = .ok (.invokevirtual 151, 3) := by decide +kernel
theorem dX6_kind_5 : decode cX6_kind 5 = .ok (.ifCond .eq 17, 3) := by decide +kernel
theorem dX6_kind_8 : decode cX6_kind 8 = .ok (.iload_n 2, 1) := by decide +kernel
theorem dX6_kind_9 : decode cX6_kind 9 = .ok (.invokestatic 239, 3) := by decide +kernel
theorem dX6_kind_12 : decode cX6_kind 12 = .ok (.ifCond .eq 10, 3) := by decide +kernel
theorem dX6_kind_15 : decode cX6_kind 15 = .ok (.iload_n 3, 1) := by decide +kernel
theorem dX6_kind_16 : decode cX6_kind 16 = .ok (.invokestatic 251, 3) := by decide +kernel
theorem dX6_kind_19 : decode cX6_kind 19 = .ok (.ifCond .ne 5, 3) := by decide +kernel
theorem dX6_kind_22 : decode cX6_kind 22 = .ok (.iconst (-1), 1) := by decide +kernel
theorem dX6_kind_23 : decode cX6_kind 23 = .ok (.ireturn, 1) := by decide +kernel
theorem dX6_kind_24 : decode cX6_kind 24 = .ok (.aload_n 0, 1) := by decide +kernel
theorem dX6_kind_25 : decode cX6_kind 25 = .ok (.ldc_w 270, 3) := by decide +kernel
theorem dX6_kind_28 : decode cX6_kind 28 = .ok (.invokevirtual 257, 3) := by decide +kernel
theorem dX6_kind_31 : decode cX6_kind 31 = .ok (.iconst 0, 1) := by decide +kernel
theorem dX6_kind_32 : decode cX6_kind 32 = .ok (.istore 4, 2) := by decide +kernel
theorem dX6_kind_34 : decode cX6_kind 34 = .ok (.iload 4, 2) := by decide +kernel
theorem dX6_kind_36 : decode cX6_kind 36 = .ok (.iconst 4, 1) := by decide +kernel
theorem dX6_kind_37 : decode cX6_kind 37 = .ok (.if_icmp .ge 36, 3) := by decide +kernel
theorem dX6_kind_40 : decode cX6_kind 40 = .ok (.aload_n 0, 1) := by decide +kernel
theorem dX6_kind_41 : decode cX6_kind 41 = .ok (.invokevirtual 194, 3) := by decide +kernel
theorem dX6_kind_44 : decode cX6_kind 44 = .ok (.aload_n 0, 1) := by decide +kernel
theorem dX6_kind_45 : decode cX6_kind 45 = .ok (.getfield 13, 3) := by decide +kernel
theorem dX6_kind_48 : decode cX6_kind 48 = .ok (.iconst 2, 1) := by decide +kernel
theorem dX6_kind_49 : decode cX6_kind 49 = .ok (.iload_n 1, 1) := by decide +kernel
theorem dX6_kind_50 : decode cX6_kind 50 = .ok (.imul, 1) := by decide +kernel
theorem dX6_kind_51 : decode cX6_kind 51 = .ok (.iconst 0, 1) := by decide +kernel
theorem dX6_kind_52 : decode cX6_kind 52 = .ok (.iadd, 1) := by decide +kernel
theorem dX6_kind_53 : decode cX6_kind 53 = .ok (.iload 4, 2) := by decide +kernel
theorem dX6_kind_55 : decode cX6_kind 55 = .ok (.iastore, 1) := by decide +kernel
theorem dX6_kind_56 : decode cX6_kind 56 = .ok (.aload_n 0, 1) := by decide +kernel
theorem dX6_kind_57 : decode cX6_kind 57 = .ok (.iload 4, 2) := by decide +kernel
theorem dX6_kind_59 : decode cX6_kind 59 = .ok (.aload_n 0, 1) := by decide +kernel
theorem dX6_kind_60 : decode cX6_kind 60 = .ok (.iload_n 2, 1) := by decide +kernel
theorem dX6_kind_61 : decode cX6_kind 61 = .ok (.invokevirtual 254, 3) := by decide +kernel
theorem dX6_kind_64 : decode cX6_kind 64 = .ok (.invokevirtual 260, 3) := by decide +kernel
theorem dX6_kind_67 : decode cX6_kind 67 = .ok (.iinc 4 1, 3) := by decide +kernel
theorem dX6_kind_70 : decode cX6_kind 70 = .ok (.goto (-36), 3) := by decide +kernel
theorem dX6_kind_73 : decode cX6_kind 73 = .ok (.aload_n 0, 1) := by decide +kernel
theorem dX6_kind_74 : decode cX6_kind 74 = .ok (.iload_n 3, 1) := by decide +kernel
theorem dX6_kind_75 : decode cX6_kind 75 = .ok (.invokevirtual 264, 3) := by decide +kernel
theorem dX6_kind_78 : decode cX6_kind 78 = .ok (.ireturn, 1) := by decide +kernel
theorem dX6_slack_0 : decode cX6_slack 0 = .ok (.aload_n 0, 1) := by decide +kernel
theorem dX6_slack_1 : decode cX6_slack 1 = .ok (.iload_n 1, 1) := by decide +kernel
theorem dX6_slack_2 : decode cX6_slack 2 = .ok (.invokevirtual 210, 3) := by decide +kernel
theorem dX6_slack_5 : decode cX6_slack 5 = .ok (.ifCond .eq 17, 3) := by decide +kernel
theorem dX6_slack_8 : decode cX6_slack 8 = .ok (.iload_n 2, 1) := by decide +kernel
theorem dX6_slack_9 : decode cX6_slack 9 = .ok (.invokestatic 239, 3) := by decide +kernel
theorem dX6_slack_12 : decode cX6_slack 12 = .ok (.ifCond .eq 10, 3) := by decide +kernel
theorem dX6_slack_15 : decode cX6_slack 15 = .ok (.iload_n 3, 1) := by decide +kernel
theorem dX6_slack_16 : decode cX6_slack 16 = .ok (.invokestatic 171, 3) := by decide +kernel
theorem dX6_slack_19 : decode cX6_slack 19 = .ok (.ifCond .ne 5, 3) := by decide +kernel
theorem dX6_slack_22 : decode cX6_slack 22 = .ok (.iconst (-1), 1) := by decide +kernel
theorem dX6_slack_23 : decode cX6_slack 23 = .ok (.ireturn, 1) := by decide +kernel
theorem dX6_slack_24 : decode cX6_slack 24 = .ok (.bipush 30, 2) := by decide +kernel
theorem dX6_slack_26 : decode cX6_slack 26 = .ok (.istore 4, 2) := by decide +kernel
theorem dX6_slack_28 : decode cX6_slack 28 = .ok (.iload 4, 2) := by decide +kernel
theorem dX6_slack_30 : decode cX6_slack 30 = .ok (.ifCond .le 40, 3) := by decide +kernel
theorem dX6_slack_33 : decode cX6_slack 33 = .ok (.aload_n 0, 1) := by decide +kernel
theorem dX6_slack_34 : decode cX6_slack 34 = .ok (.invokevirtual 194, 3) := by decide +kernel
theorem dX6_slack_37 : decode cX6_slack 37 = .ok (.aload_n 0, 1) := by decide +kernel
theorem dX6_slack_38 : decode cX6_slack 38 = .ok (.getfield 13, 3) := by decide +kernel
theorem dX6_slack_41 : decode cX6_slack 41 = .ok (.bipush 35, 2) := by decide +kernel
theorem dX6_slack_43 : decode cX6_slack 43 = .ok (.iconst 3, 1) := by decide +kernel
theorem dX6_slack_44 : decode cX6_slack 44 = .ok (.iload_n 1, 1) := by decide +kernel
theorem dX6_slack_45 : decode cX6_slack 45 = .ok (.imul, 1) := by decide +kernel
theorem dX6_slack_46 : decode cX6_slack 46 = .ok (.iadd, 1) := by decide +kernel
theorem dX6_slack_47 : decode cX6_slack 47 = .ok (.iconst 2, 1) := by decide +kernel
theorem dX6_slack_48 : decode cX6_slack 48 = .ok (.iadd, 1) := by decide +kernel
theorem dX6_slack_49 : decode cX6_slack 49 = .ok (.iload 4, 2) := by decide +kernel
theorem dX6_slack_51 : decode cX6_slack 51 = .ok (.iastore, 1) := by decide +kernel
theorem dX6_slack_52 : decode cX6_slack 52 = .ok (.aload_n 0, 1) := by decide +kernel
theorem dX6_slack_53 : decode cX6_slack 53 = .ok (.iload_n 2, 1) := by decide +kernel
theorem dX6_slack_54 : decode cX6_slack 54 = .ok (.invokevirtual 254, 3) := by decide +kernel
theorem dX6_slack_57 : decode cX6_slack 57 = .ok (.iload_n 3, 1) := by decide +kernel
theorem dX6_slack_58 : decode cX6_slack 58 = .ok (.if_icmp .gt 6, 3) := by decide +kernel
theorem dX6_slack_61 : decode cX6_slack 61 = .ok (.iload 4, 2) := by decide +kernel
theorem dX6_slack_63 : decode cX6_slack 63 = .ok (.ireturn, 1) := by decide +kernel
theorem dX6_slack_64 : decode cX6_slack 64 = .ok (.iinc 4 (-1), 3) := by decide +kernel
theorem dX6_slack_67 : decode cX6_slack 67 = .ok (.goto (-39), 3) := by decide +kernel
theorem dX6_slack_70 : decode cX6_slack 70 = .ok (.bipush (-4), 2) := by decide +kernel
theorem dX6_slack_72 : decode cX6_slack 72 = .ok (.ireturn, 1) := by decide +kernel
theorem dX6_common_0 : decode cX6_common 0 = .ok (.lload_n 0, 1) := by decide +kernel
theorem dX6_common_1 : decode cX6_common 1 = .ok (.lstore 4, 2) := by decide +kernel
theorem dX6_common_3 : decode cX6_common 3 = .ok (.lload_n 2, 1) := by decide +kernel
theorem dX6_common_4 : decode cX6_common 4 = .ok (.lstore 6, 2) := by decide +kernel
theorem dX6_common_6 : decode cX6_common 6 = .ok (.lload 6, 2) := by decide +kernel
theorem dX6_common_8 : decode cX6_common 8 = .ok (.lconst 0, 1) := by decide +kernel
theorem dX6_common_9 : decode cX6_common 9 = .ok (.lcmp, 1) := by decide +kernel
theorem dX6_common_10 : decode cX6_common 10 = .ok (.ifCond .eq 21, 3) := by decide +kernel
theorem dX6_common_13 : decode cX6_common 13 = .ok (.lload 4, 2) := by decide +kernel
theorem dX6_common_15 : decode cX6_common 15 = .ok (.lload 6, 2) := by decide +kernel
theorem dX6_common_17 : decode cX6_common 17 = .ok (.lrem, 1) := by decide +kernel
theorem dX6_common_18 : decode cX6_common 18 = .ok (.lstore 8, 2) := by decide +kernel
theorem dX6_common_20 : decode cX6_common 20 = .ok (.lload 6, 2) := by decide +kernel
theorem dX6_common_22 : decode cX6_common 22 = .ok (.lstore 4, 2) := by decide +kernel
theorem dX6_common_24 : decode cX6_common 24 = .ok (.lload 8, 2) := by decide +kernel
theorem dX6_common_26 : decode cX6_common 26 = .ok (.lstore 6, 2) := by decide +kernel
theorem dX6_common_28 : decode cX6_common 28 = .ok (.goto (-22), 3) := by decide +kernel
theorem dX6_common_31 : decode cX6_common 31 = .ok (.lload 4, 2) := by decide +kernel
theorem dX6_common_33 : decode cX6_common 33 = .ok (.lreturn, 1) := by decide +kernel
theorem dX6_told_0 : decode cX6_told 0 = .ok (.lload_n 2, 1) := by decide +kernel
theorem dX6_told_1 : decode cX6_told 1 = .ok (.lload_n 0, 1) := by decide +kernel
theorem dX6_told_2 : decode cX6_told 2 = .ok (.invokestatic 271, 3) := by decide +kernel
theorem dX6_told_5 : decode cX6_told 5 = .ok (.lstore 5, 2) := by decide +kernel
theorem dX6_told_7 : decode cX6_told 7 = .ok (.iload 4, 2) := by decide +kernel
theorem dX6_told_9 : decode cX6_told 9 = .ok (.ifCond .ne 10, 3) := by decide +kernel
theorem dX6_told_12 : decode cX6_told 12 = .ok (.lload_n 0, 1) := by decide +kernel
theorem dX6_told_13 : decode cX6_told 13 = .ok (.lload 5, 2) := by decide +kernel
theorem dX6_told_15 : decode cX6_told 15 = .ok (.ldiv, 1) := by decide +kernel
theorem dX6_told_16 : decode cX6_told 16 = .ok (.goto 7, 3) := by decide +kernel
theorem dX6_told_19 : decode cX6_told 19 = .ok (.lload_n 2, 1) := by decide +kernel
theorem dX6_told_20 : decode cX6_told 20 = .ok (.lload 5, 2) := by decide +kernel
theorem dX6_told_22 : decode cX6_told 22 = .ok (.ldiv, 1) := by decide +kernel
theorem dX6_told_23 : decode cX6_told 23 = .ok (.lreturn, 1) := by decide +kernel
theorem dX6_findOdds_0 : decode cX6_findOdds 0 = .ok (.aload_n 0, 1) := by decide +kernel
theorem dX6_findOdds_1 : decode cX6_findOdds 1 = .ok (.lconst 0, 1) := by decide +kernel
theorem dX6_findOdds_2 : decode cX6_findOdds 2 = .ok (.putfield 275, 3) := by decide +kernel
theorem dX6_findOdds_5 : decode cX6_findOdds 5 = .ok (.aload_n 0, 1) := by decide +kernel
theorem dX6_findOdds_6 : decode cX6_findOdds 6 = .ok (.lconst 0, 1) := by decide +kernel
theorem dX6_findOdds_7 : decode cX6_findOdds 7 = .ok (.putfield 279, 3) := by decide +kernel
theorem dX6_findOdds_10 : decode cX6_findOdds 10 = .ok (.aload_n 0, 1) := by decide +kernel
theorem dX6_findOdds_11 : decode cX6_findOdds 11 = .ok (.lconst 1, 1) := by decide +kernel
theorem dX6_findOdds_12 : decode cX6_findOdds 12 = .ok (.putfield 282, 3) := by decide +kernel
theorem dX6_findOdds_15 : decode cX6_findOdds 15 = .ok (.iconst 0, 1) := by decide +kernel
theorem dX6_findOdds_16 : decode cX6_findOdds 16 = .ok (.istore 4, 2) := by decide +kernel
theorem dX6_findOdds_18 : decode cX6_findOdds 18 = .ok (.iload 4, 2) := by decide +kernel
theorem dX6_findOdds_20 : decode cX6_findOdds 20 = .ok (.iload_n 2, 1) := by decide +kernel
theorem dX6_findOdds_21 : decode cX6_findOdds 21 = .ok (.if_icmp .ge 21, 3) := by decide +kernel
theorem dX6_findOdds_24 : decode cX6_findOdds 24 = .ok (.aload_n 0, 1) := by decide +kernel
theorem dX6_findOdds_25 : decode cX6_findOdds 25 = .ok (.dup, 1) := by decide +kernel
theorem dX6_findOdds_26 : decode cX6_findOdds 26 = .ok (.getfield 282, 3) := by decide +kernel
theorem dX6_findOdds_29 : decode cX6_findOdds 29 = .ok (.ldc2_w 285, 3) := by decide +kernel
theorem dX6_findOdds_32 : decode cX6_findOdds 32 = .ok (.lmul, 1) := by decide +kernel
theorem dX6_findOdds_33 : decode cX6_findOdds 33 = .ok (.putfield 282, 3) := by decide +kernel
theorem dX6_findOdds_36 : decode cX6_findOdds 36 = .ok (.iinc 4 1, 3) := by decide +kernel
theorem dX6_findOdds_39 : decode cX6_findOdds 39 = .ok (.goto (-21), 3) := by decide +kernel
theorem dX6_findOdds_42 : decode cX6_findOdds 42 = .ok (.iconst 0, 1) := by decide +kernel
theorem dX6_findOdds_43 : decode cX6_findOdds 43 = .ok (.istore 4, 2) := by decide +kernel
theorem dX6_findOdds_45 : decode cX6_findOdds 45 = .ok (.iload 4, 2) := by decide +kernel
theorem dX6_findOdds_47 : decode cX6_findOdds 47 = .ok (.iconst 1, 1) := by decide +kernel
theorem dX6_findOdds_48 : decode cX6_findOdds 48 = .ok (.iload_n 2, 1) := by decide +kernel
theorem dX6_findOdds_49 : decode cX6_findOdds 49 = .ok (.ishl, 1) := by decide +kernel
theorem dX6_findOdds_50 : decode cX6_findOdds 50 = .ok (.if_icmp .ge 115, 3) := by decide +kernel
theorem dX6_findOdds_53 : decode cX6_findOdds 53 = .ok (.lconst 1, 1) := by decide +kernel
theorem dX6_findOdds_54 : decode cX6_findOdds 54 = .ok (.lstore 5, 2) := by decide +kernel
theorem dX6_findOdds_56 : decode cX6_findOdds 56 = .ok (.aload_n 0, 1) := by decide +kernel
theorem dX6_findOdds_57 : decode cX6_findOdds 57 = .ok (.invokevirtual 194, 3) := by decide +kernel
theorem dX6_findOdds_60 : decode cX6_findOdds 60 = .ok (.iconst 0, 1) := by decide +kernel
theorem dX6_findOdds_61 : decode cX6_findOdds 61 = .ok (.istore 7, 2) := by decide +kernel
theorem dX6_findOdds_63 : decode cX6_findOdds 63 = .ok (.iload 7, 2) := by decide +kernel
theorem dX6_findOdds_65 : decode cX6_findOdds 65 = .ok (.iload_n 2, 1) := by decide +kernel
theorem dX6_findOdds_66 : decode cX6_findOdds 66 = .ok (.if_icmp .ge 53, 3) := by decide +kernel
theorem dX6_findOdds_69 : decode cX6_findOdds 69 = .ok (.iload 4, 2) := by decide +kernel
theorem dX6_findOdds_71 : decode cX6_findOdds 71 = .ok (.iload 7, 2) := by decide +kernel
theorem dX6_findOdds_73 : decode cX6_findOdds 73 = .ok (.ishr, 1) := by decide +kernel
theorem dX6_findOdds_74 : decode cX6_findOdds 74 = .ok (.iconst 1, 1) := by decide +kernel
theorem dX6_findOdds_75 : decode cX6_findOdds 75 = .ok (.iand, 1) := by decide +kernel
theorem dX6_findOdds_76 : decode cX6_findOdds 76 = .ok (.iconst 1, 1) := by decide +kernel
theorem dX6_findOdds_77 : decode cX6_findOdds 77 = .ok (.if_icmp .ne 7, 3) := by decide +kernel
theorem dX6_findOdds_80 : decode cX6_findOdds 80 = .ok (.iconst 1, 1) := by decide +kernel
theorem dX6_findOdds_81 : decode cX6_findOdds 81 = .ok (.goto 4, 3) := by decide +kernel
theorem dX6_findOdds_84 : decode cX6_findOdds 84 = .ok (.iconst 0, 1) := by decide +kernel
theorem dX6_findOdds_85 : decode cX6_findOdds 85 = .ok (.istore 8, 2) := by decide +kernel
theorem dX6_findOdds_87 : decode cX6_findOdds 87 = .ok (.lload 5, 2) := by decide +kernel
theorem dX6_findOdds_89 : decode cX6_findOdds 89 = .ok (.iload 8, 2) := by decide +kernel
theorem dX6_findOdds_91 : decode cX6_findOdds 91 = .ok (.ifCond .eq 8, 3) := by decide +kernel
theorem dX6_findOdds_94 : decode cX6_findOdds 94 = .ok (.iload_n 1, 1) := by decide +kernel
theorem dX6_findOdds_95 : decode cX6_findOdds 95 = .ok (.i2l, 1) := by decide +kernel
theorem dX6_findOdds_96 : decode cX6_findOdds 96 = .ok (.goto 8, 3) := by decide +kernel
theorem dX6_findOdds_99 : decode cX6_findOdds 99 = .ok (.bipush 10, 2) := by decide +kernel
theorem dX6_findOdds_101 : decode cX6_findOdds 101 = .ok (.iload_n 1, 1) := by decide +kernel
theorem dX6_findOdds_102 : decode cX6_findOdds 102 = .ok (.isub, 1) := by decide +kernel
theorem dX6_findOdds_103 : decode cX6_findOdds 103 = .ok (.i2l, 1) := by decide +kernel
theorem dX6_findOdds_104 : decode cX6_findOdds 104 = .ok (.lmul, 1) := by decide +kernel
theorem dX6_findOdds_105 : decode cX6_findOdds 105 = .ok (.lstore 5, 2) := by decide +kernel
theorem dX6_findOdds_107 : decode cX6_findOdds 107 = .ok (.aload_n 0, 1) := by decide +kernel
theorem dX6_findOdds_108 : decode cX6_findOdds 108 = .ok (.iload 8, 2) := by decide +kernel
theorem dX6_findOdds_110 : decode cX6_findOdds 110 = .ok (.invokevirtual 190, 3) := by decide +kernel
theorem dX6_findOdds_113 : decode cX6_findOdds 113 = .ok (.iinc 7 1, 3) := by decide +kernel
theorem dX6_findOdds_116 : decode cX6_findOdds 116 = .ok (.goto (-53), 3) := by decide +kernel
theorem dX6_findOdds_119 : decode cX6_findOdds 119 = .ok (.aload_n 0, 1) := by decide +kernel
theorem dX6_findOdds_120 : decode cX6_findOdds 120 = .ok (.dup, 1) := by decide +kernel
theorem dX6_findOdds_121 : decode cX6_findOdds 121 = .ok (.getfield 275, 3) := by decide +kernel
theorem dX6_findOdds_124 : decode cX6_findOdds 124 = .ok (.aload_n 0, 1) := by decide +kernel
theorem dX6_findOdds_125 : decode cX6_findOdds 125 = .ok (.invokevirtual 197, 3) := by decide +kernel
theorem dX6_findOdds_128 : decode cX6_findOdds 128 = .ok (.iload_n 3, 1) := by decide +kernel
theorem dX6_findOdds_129 : decode cX6_findOdds 129 = .ok (.if_icmp .gt 8, 3) := by decide +kernel
theorem dX6_findOdds_132 : decode cX6_findOdds 132 = .ok (.lload 5, 2) := by decide +kernel
theorem dX6_findOdds_134 : decode cX6_findOdds 134 = .ok (.goto 4, 3) := by decide +kernel
theorem dX6_findOdds_137 : decode cX6_findOdds 137 = .ok (.lconst 0, 1) := by decide +kernel
theorem dX6_findOdds_138 : decode cX6_findOdds 138 = .ok (.ladd, 1) := by decide +kernel
theorem dX6_findOdds_139 : decode cX6_findOdds 139 = .ok (.putfield 275, 3) := by decide +kernel
theorem dX6_findOdds_142 : decode cX6_findOdds 142 = .ok (.aload_n 0, 1) := by decide +kernel
theorem dX6_findOdds_143 : decode cX6_findOdds 143 = .ok (.dup, 1) := by decide +kernel
theorem dX6_findOdds_144 : decode cX6_findOdds 144 = .ok (.getfield 279, 3) := by decide +kernel
theorem dX6_findOdds_147 : decode cX6_findOdds 147 = .ok (.lload 5, 2) := by decide +kernel
theorem dX6_findOdds_149 : decode cX6_findOdds 149 = .ok (.aload_n 0, 1) := by decide +kernel
theorem dX6_findOdds_150 : decode cX6_findOdds 150 = .ok (.invokevirtual 197, 3) := by decide +kernel
theorem dX6_findOdds_153 : decode cX6_findOdds 153 = .ok (.i2l, 1) := by decide +kernel
theorem dX6_findOdds_154 : decode cX6_findOdds 154 = .ok (.lmul, 1) := by decide +kernel
theorem dX6_findOdds_155 : decode cX6_findOdds 155 = .ok (.ladd, 1) := by decide +kernel
theorem dX6_findOdds_156 : decode cX6_findOdds 156 = .ok (.putfield 279, 3) := by decide +kernel
theorem dX6_findOdds_159 : decode cX6_findOdds 159 = .ok (.iinc 4 1, 3) := by decide +kernel
theorem dX6_findOdds_162 : decode cX6_findOdds 162 = .ok (.goto (-117), 3) := by decide +kernel
theorem dX6_findOdds_165 : decode cX6_findOdds 165 = .ok (.return_, 1) := by decide +kernel
theorem dX6_luck_0 : decode cX6_luck 0 = .ok (.iload_n 1, 1) := by decide +kernel
theorem dX6_luck_1 : decode cX6_luck 1 = .ok (.i2l, 1) := by decide +kernel
theorem dX6_luck_2 : decode cX6_luck 2 = .ok (.lconst 0, 1) := by decide +kernel
theorem dX6_luck_3 : decode cX6_luck 3 = .ok (.ldc2_w 285, 3) := by decide +kernel
theorem dX6_luck_6 : decode cX6_luck 6 = .ok (.invokestatic 69, 3) := by decide +kernel
theorem dX6_luck_9 : decode cX6_luck 9 = .ok (.ifCond .eq 30, 3) := by decide +kernel
theorem dX6_luck_12 : decode cX6_luck 12 = .ok (.iload_n 2, 1) := by decide +kernel
theorem dX6_luck_13 : decode cX6_luck 13 = .ok (.i2l, 1) := by decide +kernel
theorem dX6_luck_14 : decode cX6_luck 14 = .ok (.lconst 0, 1) := by decide +kernel
theorem dX6_luck_15 : decode cX6_luck 15 = .ok (.ldc2_w 287, 3) := by decide +kernel
theorem dX6_luck_18 : decode cX6_luck 18 = .ok (.invokestatic 69, 3) := by decide +kernel
theorem dX6_luck_21 : decode cX6_luck 21 = .ok (.ifCond .eq 18, 3) := by decide +kernel
theorem dX6_luck_24 : decode cX6_luck 24 = .ok (.iload_n 3, 1) := by decide +kernel
theorem dX6_luck_25 : decode cX6_luck 25 = .ok (.invokestatic 171, 3) := by decide +kernel
theorem dX6_luck_28 : decode cX6_luck 28 = .ok (.ifCond .eq 11, 3) := by decide +kernel
theorem dX6_luck_31 : decode cX6_luck 31 = .ok (.iload 4, 2) := by decide +kernel
theorem dX6_luck_33 : decode cX6_luck 33 = .ok (.invokestatic 251, 3) := by decide +kernel
theorem dX6_luck_36 : decode cX6_luck 36 = .ok (.ifCond .ne 7, 3) := by decide +kernel
theorem dX6_luck_39 : decode cX6_luck 39 = .ok (.ldc2_w 289, 3) := by decide +kernel
theorem dX6_luck_42 : decode cX6_luck 42 = .ok (.lreturn, 1) := by decide +kernel
theorem dX6_luck_43 : decode cX6_luck 43 = .ok (.aload_n 0, 1) := by decide +kernel
theorem dX6_luck_44 : decode cX6_luck 44 = .ok (.iload_n 1, 1) := by decide +kernel
theorem dX6_luck_45 : decode cX6_luck 45 = .ok (.iload_n 2, 1) := by decide +kernel
theorem dX6_luck_46 : decode cX6_luck 46 = .ok (.iload_n 3, 1) := by decide +kernel
theorem dX6_luck_47 : decode cX6_luck 47 = .ok (.invokevirtual 291, 3) := by decide +kernel
theorem dX6_luck_50 : decode cX6_luck 50 = .ok (.aload_n 0, 1) := by decide +kernel
theorem dX6_luck_51 : decode cX6_luck 51 = .ok (.getfield 275, 3) := by decide +kernel
theorem dX6_luck_54 : decode cX6_luck 54 = .ok (.aload_n 0, 1) := by decide +kernel
theorem dX6_luck_55 : decode cX6_luck 55 = .ok (.getfield 282, 3) := by decide +kernel
theorem dX6_luck_58 : decode cX6_luck 58 = .ok (.iload 4, 2) := by decide +kernel
theorem dX6_luck_60 : decode cX6_luck 60 = .ok (.invokestatic 294, 3) := by decide +kernel
theorem dX6_luck_63 : decode cX6_luck 63 = .ok (.lreturn, 1) := by decide +kernel
theorem dX6_mean_0 : decode cX6_mean 0 = .ok (.iload_n 1, 1) := by decide +kernel
theorem dX6_mean_1 : decode cX6_mean 1 = .ok (.i2l, 1) := by decide +kernel
theorem dX6_mean_2 : decode cX6_mean 2 = .ok (.lconst 0, 1) := by decide +kernel
theorem dX6_mean_3 : decode cX6_mean 3 = .ok (.ldc2_w 285, 3) := by decide +kernel
theorem dX6_mean_6 : decode cX6_mean 6 = .ok (.invokestatic 69, 3) := by decide +kernel
theorem dX6_mean_9 : decode cX6_mean 9 = .ok (.ifCond .eq 22, 3) := by decide +kernel
theorem dX6_mean_12 : decode cX6_mean 12 = .ok (.iload_n 2, 1) := by decide +kernel
theorem dX6_mean_13 : decode cX6_mean 13 = .ok (.i2l, 1) := by decide +kernel
theorem dX6_mean_14 : decode cX6_mean 14 = .ok (.lconst 0, 1) := by decide +kernel
theorem dX6_mean_15 : decode cX6_mean 15 = .ok (.ldc2_w 287, 3) := by decide +kernel
theorem dX6_mean_18 : decode cX6_mean 18 = .ok (.invokestatic 69, 3) := by decide +kernel
theorem dX6_mean_21 : decode cX6_mean 21 = .ok (.ifCond .eq 10, 3) := by decide +kernel
theorem dX6_mean_24 : decode cX6_mean 24 = .ok (.iload_n 3, 1) := by decide +kernel
theorem dX6_mean_25 : decode cX6_mean 25 = .ok (.invokestatic 251, 3) := by decide +kernel
theorem dX6_mean_28 : decode cX6_mean 28 = .ok (.ifCond .ne 7, 3) := by decide +kernel
theorem dX6_mean_31 : decode cX6_mean 31 = .ok (.ldc2_w 289, 3) := by decide +kernel
theorem dX6_mean_34 : decode cX6_mean 34 = .ok (.lreturn, 1) := by decide +kernel
theorem dX6_mean_35 : decode cX6_mean 35 = .ok (.aload_n 0, 1) := by decide +kernel
theorem dX6_mean_36 : decode cX6_mean 36 = .ok (.iload_n 1, 1) := by decide +kernel
theorem dX6_mean_37 : decode cX6_mean 37 = .ok (.iload_n 2, 1) := by decide +kernel
theorem dX6_mean_38 : decode cX6_mean 38 = .ok (.iconst 0, 1) := by decide +kernel
theorem dX6_mean_39 : decode cX6_mean 39 = .ok (.invokevirtual 291, 3) := by decide +kernel
theorem dX6_mean_42 : decode cX6_mean 42 = .ok (.aload_n 0, 1) := by decide +kernel
theorem dX6_mean_43 : decode cX6_mean 43 = .ok (.getfield 279, 3) := by decide +kernel
theorem dX6_mean_46 : decode cX6_mean 46 = .ok (.aload_n 0, 1) := by decide +kernel
theorem dX6_mean_47 : decode cX6_mean 47 = .ok (.getfield 282, 3) := by decide +kernel
theorem dX6_mean_50 : decode cX6_mean 50 = .ok (.iload_n 3, 1) := by decide +kernel
theorem dX6_mean_51 : decode cX6_mean 51 = .ok (.invokestatic 294, 3) := by decide +kernel
theorem dX6_mean_54 : decode cX6_mean 54 = .ok (.lreturn, 1) := by decide +kernel
theorem dX6_see_0 : decode cX6_see 0 = .ok (.iload_n 1, 1) := by decide +kernel
theorem dX6_see_1 : decode cX6_see 1 = .ok (.i2l, 1) := by decide +kernel
theorem dX6_see_2 : decode cX6_see 2 = .ok (.lconst 0, 1) := by decide +kernel
theorem dX6_see_3 : decode cX6_see 3 = .ok (.ldc2_w 298, 3) := by decide +kernel
theorem dX6_see_6 : decode cX6_see 6 = .ok (.invokestatic 69, 3) := by decide +kernel
theorem dX6_see_9 : decode cX6_see 9 = .ok (.ifCond .eq 18, 3) := by decide +kernel
theorem dX6_see_12 : decode cX6_see 12 = .ok (.aload_n 0, 1) := by decide +kernel
theorem dX6_see_13 : decode cX6_see 13 = .ok (.iload_n 2, 1) := by decide +kernel
theorem dX6_see_14 : decode cX6_see 14 = .ok (.invokevirtual 151, 3) := by decide +kernel
theorem dX6_see_17 : decode cX6_see 17 = .ok (.ifCond .eq 10, 3) := by decide +kernel
theorem dX6_see_20 : decode cX6_see 20 = .ok (.iload_n 3, 1) := by decide +kernel
theorem dX6_see_21 : decode cX6_see 21 = .ok (.invokestatic 171, 3) := by decide +kernel
theorem dX6_see_24 : decode cX6_see 24 = .ok (.ifCond .ne 5, 3) := by decide +kernel
theorem dX6_see_27 : decode cX6_see 27 = .ok (.iconst (-1), 1) := by decide +kernel
theorem dX6_see_28 : decode cX6_see 28 = .ok (.ireturn, 1) := by decide +kernel
theorem dX6_see_29 : decode cX6_see 29 = .ok (.aload_n 0, 1) := by decide +kernel
theorem dX6_see_30 : decode cX6_see 30 = .ok (.getfield 7, 3) := by decide +kernel
theorem dX6_see_33 : decode cX6_see 33 = .ok (.bipush 57, 2) := by decide +kernel
theorem dX6_see_35 : decode cX6_see 35 = .ok (.iaload, 1) := by decide +kernel
theorem dX6_see_36 : decode cX6_see 36 = .ok (.bipush 6, 2) := by decide +kernel
theorem dX6_see_38 : decode cX6_see 38 = .ok (.if_icmp .ne 6, 3) := by decide +kernel
theorem dX6_see_41 : decode cX6_see 41 = .ok (.bipush (-3), 2) := by decide +kernel
theorem dX6_see_43 : decode cX6_see 43 = .ok (.ireturn, 1) := by decide +kernel
theorem dX6_see_44 : decode cX6_see 44 = .ok (.bipush 58, 2) := by decide +kernel
theorem dX6_see_46 : decode cX6_see 46 = .ok (.iconst 3, 1) := by decide +kernel
theorem dX6_see_47 : decode cX6_see 47 = .ok (.aload_n 0, 1) := by decide +kernel
theorem dX6_see_48 : decode cX6_see 48 = .ok (.getfield 7, 3) := by decide +kernel
theorem dX6_see_51 : decode cX6_see 51 = .ok (.bipush 57, 2) := by decide +kernel
theorem dX6_see_53 : decode cX6_see 53 = .ok (.iaload, 1) := by decide +kernel
theorem dX6_see_54 : decode cX6_see 54 = .ok (.imul, 1) := by decide +kernel
theorem dX6_see_55 : decode cX6_see 55 = .ok (.iadd, 1) := by decide +kernel
theorem dX6_see_56 : decode cX6_see 56 = .ok (.istore 4, 2) := by decide +kernel
theorem dX6_see_58 : decode cX6_see 58 = .ok (.aload_n 0, 1) := by decide +kernel
theorem dX6_see_59 : decode cX6_see 59 = .ok (.getfield 7, 3) := by decide +kernel
theorem dX6_see_62 : decode cX6_see 62 = .ok (.iload 4, 2) := by decide +kernel
theorem dX6_see_64 : decode cX6_see 64 = .ok (.iload_n 1, 1) := by decide +kernel
theorem dX6_see_65 : decode cX6_see 65 = .ok (.iastore, 1) := by decide +kernel
theorem dX6_see_66 : decode cX6_see 66 = .ok (.aload_n 0, 1) := by decide +kernel
theorem dX6_see_67 : decode cX6_see 67 = .ok (.getfield 7, 3) := by decide +kernel
theorem dX6_see_70 : decode cX6_see 70 = .ok (.iload 4, 2) := by decide +kernel
theorem dX6_see_72 : decode cX6_see 72 = .ok (.iconst 1, 1) := by decide +kernel
theorem dX6_see_73 : decode cX6_see 73 = .ok (.iadd, 1) := by decide +kernel
theorem dX6_see_74 : decode cX6_see 74 = .ok (.iload_n 2, 1) := by decide +kernel
theorem dX6_see_75 : decode cX6_see 75 = .ok (.iastore, 1) := by decide +kernel
theorem dX6_see_76 : decode cX6_see 76 = .ok (.aload_n 0, 1) := by decide +kernel
theorem dX6_see_77 : decode cX6_see 77 = .ok (.getfield 7, 3) := by decide +kernel
theorem dX6_see_80 : decode cX6_see 80 = .ok (.iload 4, 2) := by decide +kernel
theorem dX6_see_82 : decode cX6_see 82 = .ok (.iconst 2, 1) := by decide +kernel
theorem dX6_see_83 : decode cX6_see 83 = .ok (.iadd, 1) := by decide +kernel
theorem dX6_see_84 : decode cX6_see 84 = .ok (.iload_n 3, 1) := by decide +kernel
theorem dX6_see_85 : decode cX6_see 85 = .ok (.iastore, 1) := by decide +kernel
theorem dX6_see_86 : decode cX6_see 86 = .ok (.aload_n 0, 1) := by decide +kernel
theorem dX6_see_87 : decode cX6_see 87 = .ok (.getfield 7, 3) := by decide +kernel
theorem dX6_see_90 : decode cX6_see 90 = .ok (.bipush 57, 2) := by decide +kernel
theorem dX6_see_92 : decode cX6_see 92 = .ok (.dup2, 1) := by decide +kernel
theorem dX6_see_93 : decode cX6_see 93 = .ok (.iaload, 1) := by decide +kernel
theorem dX6_see_94 : decode cX6_see 94 = .ok (.iconst 1, 1) := by decide +kernel
theorem dX6_see_95 : decode cX6_see 95 = .ok (.iadd, 1) := by decide +kernel
theorem dX6_see_96 : decode cX6_see 96 = .ok (.iastore, 1) := by decide +kernel
theorem dX6_see_97 : decode cX6_see 97 = .ok (.aload_n 0, 1) := by decide +kernel
theorem dX6_see_98 : decode cX6_see 98 = .ok (.getfield 7, 3) := by decide +kernel
theorem dX6_see_101 : decode cX6_see 101 = .ok (.bipush 57, 2) := by decide +kernel
theorem dX6_see_103 : decode cX6_see 103 = .ok (.iaload, 1) := by decide +kernel
theorem dX6_see_104 : decode cX6_see 104 = .ok (.ireturn, 1) := by decide +kernel
theorem dX6_forget_0 : decode cX6_forget 0 = .ok (.iload_n 1, 1) := by decide +kernel
theorem dX6_forget_1 : decode cX6_forget 1 = .ok (.i2l, 1) := by decide +kernel
theorem dX6_forget_2 : decode cX6_forget 2 = .ok (.lconst 0, 1) := by decide +kernel
theorem dX6_forget_3 : decode cX6_forget 3 = .ok (.aload_n 0, 1) := by decide +kernel
theorem dX6_forget_4 : decode cX6_forget 4 = .ok (.getfield 7, 3) := by decide +kernel
theorem dX6_forget_7 : decode cX6_forget 7 = .ok (.bipush 57, 2) := by decide +kernel
theorem dX6_forget_9 : decode cX6_forget 9 = .ok (.iaload, 1) := by decide +kernel
theorem dX6_forget_10 : decode cX6_forget 10 = .ok (.i2l, 1) := by decide +kernel
theorem dX6_forget_11 : decode cX6_forget 11 = .ok (.invokestatic 69, 3) := by decide +kernel
theorem dX6_forget_14 : decode cX6_forget 14 = .ok (.ifCond .eq 13, 3) := by decide +kernel
theorem dX6_forget_17 : decode cX6_forget 17 = .ok (.aload_n 0, 1) := by decide +kernel
theorem dX6_forget_18 : decode cX6_forget 18 = .ok (.bipush 57, 2) := by decide +kernel
theorem dX6_forget_20 : decode cX6_forget 20 = .ok (.iload_n 1, 1) := by decide +kernel
theorem dX6_forget_21 : decode cX6_forget 21 = .ok (.invokevirtual 217, 3) := by decide +kernel
theorem dX6_forget_24 : decode cX6_forget 24 = .ok (.goto 4, 3) := by decide +kernel
theorem dX6_forget_27 : decode cX6_forget 27 = .ok (.iconst (-1), 1) := by decide +kernel
theorem dX6_forget_28 : decode cX6_forget 28 = .ok (.ireturn, 1) := by decide +kernel
theorem dX6_isSoWith_0 : decode cX6_isSoWith 0 = .ok (.aload_n 0, 1) := by decide +kernel
theorem dX6_isSoWith_1 : decode cX6_isSoWith 1 = .ok (.invokevirtual 194, 3) := by decide +kernel
theorem dX6_isSoWith_4 : decode cX6_isSoWith 4 = .ok (.aload_n 0, 1) := by decide +kernel
theorem dX6_isSoWith_5 : decode cX6_isSoWith 5 = .ok (.getfield 13, 3) := by decide +kernel
theorem dX6_isSoWith_8 : decode cX6_isSoWith 8 = .ok (.iload_n 1, 1) := by decide +kernel
theorem dX6_isSoWith_9 : decode cX6_isSoWith 9 = .ok (.iload_n 2, 1) := by decide +kernel
theorem dX6_isSoWith_10 : decode cX6_isSoWith 10 = .ok (.iastore, 1) := by decide +kernel
theorem dX6_isSoWith_11 : decode cX6_isSoWith 11 = .ok (.iconst 0, 1) := by decide +kernel
theorem dX6_isSoWith_12 : decode cX6_isSoWith 12 = .ok (.istore_n 3, 1) := by decide +kernel
theorem dX6_isSoWith_13 : decode cX6_isSoWith 13 = .ok (.iload_n 3, 1) := by decide +kernel
theorem dX6_isSoWith_14 : decode cX6_isSoWith 14 = .ok (.bipush 20, 2) := by decide +kernel
theorem dX6_isSoWith_16 : decode cX6_isSoWith 16 = .ok (.if_icmp .gt 49, 3) := by decide +kernel
theorem dX6_isSoWith_19 : decode cX6_isSoWith 19 = .ok (.iconst 0, 1) := by decide +kernel
theorem dX6_isSoWith_20 : decode cX6_isSoWith 20 = .ok (.istore 4, 2) := by decide +kernel
theorem dX6_isSoWith_22 : decode cX6_isSoWith 22 = .ok (.iload 4, 2) := by decide +kernel
theorem dX6_isSoWith_24 : decode cX6_isSoWith 24 = .ok (.aload_n 0, 1) := by decide +kernel
theorem dX6_isSoWith_25 : decode cX6_isSoWith 25 = .ok (.getfield 64, 3) := by decide +kernel
theorem dX6_isSoWith_28 : decode cX6_isSoWith 28 = .ok (.if_icmp .ge 26, 3) := by decide +kernel
theorem dX6_isSoWith_31 : decode cX6_isSoWith 31 = .ok (.aload_n 0, 1) := by decide +kernel
theorem dX6_isSoWith_32 : decode cX6_isSoWith 32 = .ok (.getfield 26, 3) := by decide +kernel
theorem dX6_isSoWith_35 : decode cX6_isSoWith 35 = .ok (.iconst 5, 1) := by decide +kernel
theorem dX6_isSoWith_36 : decode cX6_isSoWith 36 = .ok (.iload_n 3, 1) := by decide +kernel
theorem dX6_isSoWith_37 : decode cX6_isSoWith 37 = .ok (.imul, 1) := by decide +kernel
theorem dX6_isSoWith_38 : decode cX6_isSoWith 38 = .ok (.iload 4, 2) := by decide +kernel
theorem dX6_isSoWith_40 : decode cX6_isSoWith 40 = .ok (.iadd, 1) := by decide +kernel
theorem dX6_isSoWith_41 : decode cX6_isSoWith 41 = .ok (.aload_n 0, 1) := by decide +kernel
theorem dX6_isSoWith_42 : decode cX6_isSoWith 42 = .ok (.iload 4, 2) := by decide +kernel
theorem dX6_isSoWith_44 : decode cX6_isSoWith 44 = .ok (.invokevirtual 156, 3) := by decide +kernel
theorem dX6_isSoWith_47 : decode cX6_isSoWith 47 = .ok (.iastore, 1) := by decide +kernel
theorem dX6_isSoWith_48 : decode cX6_isSoWith 48 = .ok (.iinc 4 1, 3) := by decide +kernel
theorem dX6_isSoWith_51 : decode cX6_isSoWith 51 = .ok (.goto (-29), 3) := by decide +kernel
theorem dX6_isSoWith_54 : decode cX6_isSoWith 54 = .ok (.aload_n 0, 1) := by decide +kernel
theorem dX6_isSoWith_55 : decode cX6_isSoWith 55 = .ok (.iconst 0, 1) := by decide +kernel
theorem dX6_isSoWith_56 : decode cX6_isSoWith 56 = .ok (.invokevirtual 190, 3) := by decide +kernel
theorem dX6_isSoWith_59 : decode cX6_isSoWith 59 = .ok (.iinc 3 1, 3) := by decide +kernel
theorem dX6_isSoWith_62 : decode cX6_isSoWith 62 = .ok (.goto (-49), 3) := by decide +kernel
theorem dX6_isSoWith_65 : decode cX6_isSoWith 65 = .ok (.iconst 1, 1) := by decide +kernel
theorem dX6_isSoWith_66 : decode cX6_isSoWith 66 = .ok (.istore_n 3, 1) := by decide +kernel
theorem dX6_isSoWith_67 : decode cX6_isSoWith 67 = .ok (.iconst 0, 1) := by decide +kernel
theorem dX6_isSoWith_68 : decode cX6_isSoWith 68 = .ok (.istore 4, 2) := by decide +kernel
theorem dX6_isSoWith_70 : decode cX6_isSoWith 70 = .ok (.iload 4, 2) := by decide +kernel
theorem dX6_isSoWith_72 : decode cX6_isSoWith 72 = .ok (.aload_n 0, 1) := by decide +kernel
theorem dX6_isSoWith_73 : decode cX6_isSoWith 73 = .ok (.getfield 7, 3) := by decide +kernel
theorem dX6_isSoWith_76 : decode cX6_isSoWith 76 = .ok (.bipush 57, 2) := by decide +kernel
theorem dX6_isSoWith_78 : decode cX6_isSoWith 78 = .ok (.iaload, 1) := by decide +kernel
theorem dX6_isSoWith_79 : decode cX6_isSoWith 79 = .ok (.if_icmp .ge 64, 3) := by decide +kernel
theorem dX6_isSoWith_82 : decode cX6_isSoWith 82 = .ok (.bipush 58, 2) := by decide +kernel
theorem dX6_isSoWith_84 : decode cX6_isSoWith 84 = .ok (.iconst 3, 1) := by decide +kernel
theorem dX6_isSoWith_85 : decode cX6_isSoWith 85 = .ok (.iload 4, 2) := by decide +kernel
theorem dX6_isSoWith_87 : decode cX6_isSoWith 87 = .ok (.imul, 1) := by decide +kernel
theorem dX6_isSoWith_88 : decode cX6_isSoWith 88 = .ok (.iadd, 1) := by decide +kernel
theorem dX6_isSoWith_89 : decode cX6_isSoWith 89 = .ok (.istore 5, 2) := by decide +kernel
theorem dX6_isSoWith_91 : decode cX6_isSoWith 91 = .ok (.iload_n 3, 1) := by decide +kernel
theorem dX6_isSoWith_92 : decode cX6_isSoWith 92 = .ok (.ifCond .eq 43, 3) := by decide +kernel
theorem dX6_isSoWith_95 : decode cX6_isSoWith 95 = .ok (.aload_n 0, 1) := by decide +kernel
theorem dX6_isSoWith_96 : decode cX6_isSoWith 96 = .ok (.getfield 26, 3) := by decide +kernel
theorem dX6_isSoWith_99 : decode cX6_isSoWith 99 = .ok (.iconst 5, 1) := by decide +kernel
theorem dX6_isSoWith_100 : decode cX6_isSoWith 100 = .ok (.aload_n 0, 1) := by decide +kernel
theorem dX6_isSoWith_101 : decode cX6_isSoWith 101 = .ok (.getfield 7, 3) := by decide +kernel
theorem dX6_isSoWith_104 : decode cX6_isSoWith 104 = .ok (.iload 5, 2) := by decide +kernel
theorem dX6_isSoWith_106 : decode cX6_isSoWith 106 = .ok (.iaload, 1) := by decide +kernel
theorem dX6_isSoWith_107 : decode cX6_isSoWith 107 = .ok (.imul, 1) := by decide +kernel
theorem dX6_isSoWith_108 : decode cX6_isSoWith 108 = .ok (.aload_n 0, 1) := by decide +kernel
theorem dX6_isSoWith_109 : decode cX6_isSoWith 109 = .ok (.getfield 7, 3) := by decide +kernel
theorem dX6_isSoWith_112 : decode cX6_isSoWith 112 = .ok (.iload 5, 2) := by decide +kernel
theorem dX6_isSoWith_114 : decode cX6_isSoWith 114 = .ok (.iconst 1, 1) := by decide +kernel
theorem dX6_isSoWith_115 : decode cX6_isSoWith 115 = .ok (.iadd, 1) := by decide +kernel
theorem dX6_isSoWith_116 : decode cX6_isSoWith 116 = .ok (.iaload, 1) := by decide +kernel
theorem dX6_isSoWith_117 : decode cX6_isSoWith 117 = .ok (.iadd, 1) := by decide +kernel
theorem dX6_isSoWith_118 : decode cX6_isSoWith 118 = .ok (.iaload, 1) := by decide +kernel
theorem dX6_isSoWith_119 : decode cX6_isSoWith 119 = .ok (.aload_n 0, 1) := by decide +kernel
theorem dX6_isSoWith_120 : decode cX6_isSoWith 120 = .ok (.getfield 7, 3) := by decide +kernel
theorem dX6_isSoWith_123 : decode cX6_isSoWith 123 = .ok (.iload 5, 2) := by decide +kernel
theorem dX6_isSoWith_125 : decode cX6_isSoWith 125 = .ok (.iconst 2, 1) := by decide +kernel
theorem dX6_isSoWith_126 : decode cX6_isSoWith 126 = .ok (.iadd, 1) := by decide +kernel
theorem dX6_isSoWith_127 : decode cX6_isSoWith 127 = .ok (.iaload, 1) := by decide +kernel
theorem dX6_isSoWith_128 : decode cX6_isSoWith 128 = .ok (.if_icmp .ne 7, 3) := by decide +kernel
theorem dX6_isSoWith_131 : decode cX6_isSoWith 131 = .ok (.iconst 1, 1) := by decide +kernel
theorem dX6_isSoWith_132 : decode cX6_isSoWith 132 = .ok (.goto 4, 3) := by decide +kernel
theorem dX6_isSoWith_135 : decode cX6_isSoWith 135 = .ok (.iconst 0, 1) := by decide +kernel
theorem dX6_isSoWith_136 : decode cX6_isSoWith 136 = .ok (.istore_n 3, 1) := by decide +kernel
theorem dX6_isSoWith_137 : decode cX6_isSoWith 137 = .ok (.iinc 4 1, 3) := by decide +kernel
theorem dX6_isSoWith_140 : decode cX6_isSoWith 140 = .ok (.goto (-70), 3) := by decide +kernel
theorem dX6_isSoWith_143 : decode cX6_isSoWith 143 = .ok (.iload_n 3, 1) := by decide +kernel
theorem dX6_isSoWith_144 : decode cX6_isSoWith 144 = .ok (.ireturn, 1) := by decide +kernel
theorem dX6_which_0 : decode cX6_which 0 = .ok (.iconst 0, 1) := by decide +kernel
theorem dX6_which_1 : decode cX6_which 1 = .ok (.istore_n 3, 1) := by decide +kernel
theorem dX6_which_2 : decode cX6_which 2 = .ok (.iconst 0, 1) := by decide +kernel
theorem dX6_which_3 : decode cX6_which 3 = .ok (.istore 4, 2) := by decide +kernel
theorem dX6_which_5 : decode cX6_which 5 = .ok (.iload 4, 2) := by decide +kernel
theorem dX6_which_7 : decode cX6_which 7 = .ok (.iload_n 2, 1) := by decide +kernel
theorem dX6_which_8 : decode cX6_which 8 = .ok (.if_icmp .gt 25, 3) := by decide +kernel
theorem dX6_which_11 : decode cX6_which 11 = .ok (.iload_n 3, 1) := by decide +kernel
theorem dX6_which_12 : decode cX6_which 12 = .ok (.aload_n 0, 1) := by decide +kernel
theorem dX6_which_13 : decode cX6_which 13 = .ok (.iload_n 1, 1) := by decide +kernel
theorem dX6_which_14 : decode cX6_which 14 = .ok (.iload 4, 2) := by decide +kernel
theorem dX6_which_16 : decode cX6_which 16 = .ok (.invokevirtual 300, 3) := by decide +kernel
theorem dX6_which_19 : decode cX6_which 19 = .ok (.invokestatic 200, 3) := by decide +kernel
theorem dX6_which_22 : decode cX6_which 22 = .ok (.iload 4, 2) := by decide +kernel
theorem dX6_which_24 : decode cX6_which 24 = .ok (.ishl, 1) := by decide +kernel
theorem dX6_which_25 : decode cX6_which 25 = .ok (.ior, 1) := by decide +kernel
theorem dX6_which_26 : decode cX6_which 26 = .ok (.istore_n 3, 1) := by decide +kernel
theorem dX6_which_27 : decode cX6_which 27 = .ok (.iinc 4 1, 3) := by decide +kernel
theorem dX6_which_30 : decode cX6_which 30 = .ok (.goto (-25), 3) := by decide +kernel
theorem dX6_which_33 : decode cX6_which 33 = .ok (.iload_n 3, 1) := by decide +kernel
theorem dX6_which_34 : decode cX6_which 34 = .ok (.ireturn, 1) := by decide +kernel
theorem dX6_kinds_0 : decode cX6_kinds 0 = .ok (.aload_n 0, 1) := by decide +kernel
theorem dX6_kinds_1 : decode cX6_kinds 1 = .ok (.iload_n 1, 1) := by decide +kernel
theorem dX6_kinds_2 : decode cX6_kinds 2 = .ok (.invokevirtual 151, 3) := by decide +kernel
theorem dX6_kinds_5 : decode cX6_kinds 5 = .ok (.ifCond .eq 16, 3) := by decide +kernel
theorem dX6_kinds_8 : decode cX6_kinds 8 = .ok (.aload_n 0, 1) := by decide +kernel
theorem dX6_kinds_9 : decode cX6_kinds 9 = .ok (.iconst 2, 1) := by decide +kernel
theorem dX6_kinds_10 : decode cX6_kinds 10 = .ok (.iload_n 1, 1) := by decide +kernel
theorem dX6_kinds_11 : decode cX6_kinds 11 = .ok (.imul, 1) := by decide +kernel
theorem dX6_kinds_12 : decode cX6_kinds 12 = .ok (.iconst 0, 1) := by decide +kernel
theorem dX6_kinds_13 : decode cX6_kinds 13 = .ok (.iadd, 1) := by decide +kernel
theorem dX6_kinds_14 : decode cX6_kinds 14 = .ok (.iconst 3, 1) := by decide +kernel
theorem dX6_kinds_15 : decode cX6_kinds 15 = .ok (.invokevirtual 303, 3) := by decide +kernel
theorem dX6_kinds_18 : decode cX6_kinds 18 = .ok (.goto 4, 3) := by decide +kernel
theorem dX6_kinds_21 : decode cX6_kinds 21 = .ok (.iconst (-1), 1) := by decide +kernel
theorem dX6_kinds_22 : decode cX6_kinds 22 = .ok (.ireturn, 1) := by decide +kernel
theorem dX6_sulks_0 : decode cX6_sulks 0 = .ok (.aload_n 0, 1) := by decide +kernel
theorem dX6_sulks_1 : decode cX6_sulks 1 = .ok (.iload_n 1, 1) := by decide +kernel
theorem dX6_sulks_2 : decode cX6_sulks 2 = .ok (.iload_n 2, 1) := by decide +kernel
theorem dX6_sulks_3 : decode cX6_sulks 3 = .ok (.invokevirtual 207, 3) := by decide +kernel
theorem dX6_sulks_6 : decode cX6_sulks 6 = .ok (.ifCond .eq 19, 3) := by decide +kernel
theorem dX6_sulks_9 : decode cX6_sulks 9 = .ok (.aload_n 0, 1) := by decide +kernel
theorem dX6_sulks_10 : decode cX6_sulks 10 = .ok (.bipush 10, 2) := by decide +kernel
theorem dX6_sulks_12 : decode cX6_sulks 12 = .ok (.iconst 5, 1) := by decide +kernel
theorem dX6_sulks_13 : decode cX6_sulks 13 = .ok (.iload_n 1, 1) := by decide +kernel
theorem dX6_sulks_14 : decode cX6_sulks 14 = .ok (.imul, 1) := by decide +kernel
theorem dX6_sulks_15 : decode cX6_sulks 15 = .ok (.iadd, 1) := by decide +kernel
theorem dX6_sulks_16 : decode cX6_sulks 16 = .ok (.iload_n 2, 1) := by decide +kernel
theorem dX6_sulks_17 : decode cX6_sulks 17 = .ok (.iadd, 1) := by decide +kernel
theorem dX6_sulks_18 : decode cX6_sulks 18 = .ok (.iconst 3, 1) := by decide +kernel
theorem dX6_sulks_19 : decode cX6_sulks 19 = .ok (.invokevirtual 303, 3) := by decide +kernel
theorem dX6_sulks_22 : decode cX6_sulks 22 = .ok (.goto 4, 3) := by decide +kernel
theorem dX6_sulks_25 : decode cX6_sulks 25 = .ok (.iconst (-1), 1) := by decide +kernel
theorem dX6_sulks_26 : decode cX6_sulks 26 = .ok (.ireturn, 1) := by decide +kernel
theorem dX6_ask_0 : decode cX6_ask 0 = .ok (.aload_n 0, 1) := by decide +kernel
theorem dX6_ask_1 : decode cX6_ask 1 = .ok (.iload_n 1, 1) := by decide +kernel
theorem dX6_ask_2 : decode cX6_ask 2 = .ok (.invokevirtual 151, 3) := by decide +kernel
theorem dX6_ask_5 : decode cX6_ask 5 = .ok (.ifCond .eq 10, 3) := by decide +kernel
theorem dX6_ask_8 : decode cX6_ask 8 = .ok (.iload_n 2, 1) := by decide +kernel
theorem dX6_ask_9 : decode cX6_ask 9 = .ok (.invokestatic 251, 3) := by decide +kernel
theorem dX6_ask_12 : decode cX6_ask 12 = .ok (.ifCond .ne 5, 3) := by decide +kernel
theorem dX6_ask_15 : decode cX6_ask 15 = .ok (.iconst (-1), 1) := by decide +kernel
theorem dX6_ask_16 : decode cX6_ask 16 = .ok (.ireturn, 1) := by decide +kernel
theorem dX6_ask_17 : decode cX6_ask 17 = .ok (.iconst 0, 1) := by decide +kernel
theorem dX6_ask_18 : decode cX6_ask 18 = .ok (.istore_n 3, 1) := by decide +kernel
theorem dX6_ask_19 : decode cX6_ask 19 = .ok (.iconst 0, 1) := by decide +kernel
theorem dX6_ask_20 : decode cX6_ask 20 = .ok (.istore 4, 2) := by decide +kernel
theorem dX6_ask_22 : decode cX6_ask 22 = .ok (.iload 4, 2) := by decide +kernel
theorem dX6_ask_24 : decode cX6_ask 24 = .ok (.iconst 4, 1) := by decide +kernel
theorem dX6_ask_25 : decode cX6_ask 25 = .ok (.if_icmp .ge 61, 3) := by decide +kernel
theorem dX6_ask_28 : decode cX6_ask 28 = .ok (.aload_n 0, 1) := by decide +kernel
theorem dX6_ask_29 : decode cX6_ask 29 = .ok (.iconst 2, 1) := by decide +kernel
theorem dX6_ask_30 : decode cX6_ask 30 = .ok (.iload_n 1, 1) := by decide +kernel
theorem dX6_ask_31 : decode cX6_ask 31 = .ok (.imul, 1) := by decide +kernel
theorem dX6_ask_32 : decode cX6_ask 32 = .ok (.iconst 0, 1) := by decide +kernel
theorem dX6_ask_33 : decode cX6_ask 33 = .ok (.iadd, 1) := by decide +kernel
theorem dX6_ask_34 : decode cX6_ask 34 = .ok (.iload 4, 2) := by decide +kernel
theorem dX6_ask_36 : decode cX6_ask 36 = .ok (.invokevirtual 300, 3) := by decide +kernel
theorem dX6_ask_39 : decode cX6_ask 39 = .ok (.ifCond .eq 41, 3) := by decide +kernel
theorem dX6_ask_42 : decode cX6_ask 42 = .ok (.iconst 0, 1) := by decide +kernel
theorem dX6_ask_43 : decode cX6_ask 43 = .ok (.istore 5, 2) := by decide +kernel
theorem dX6_ask_45 : decode cX6_ask 45 = .ok (.iload 5, 2) := by decide +kernel
theorem dX6_ask_47 : decode cX6_ask 47 = .ok (.bipush 105, 2) := by decide +kernel
theorem dX6_ask_49 : decode cX6_ask 49 = .ok (.if_icmp .ge 28, 3) := by decide +kernel
theorem dX6_ask_52 : decode cX6_ask 52 = .ok (.aload_n 0, 1) := by decide +kernel
theorem dX6_ask_53 : decode cX6_ask 53 = .ok (.getfield 29, 3) := by decide +kernel
theorem dX6_ask_56 : decode cX6_ask 56 = .ok (.bipush 105, 2) := by decide +kernel
theorem dX6_ask_58 : decode cX6_ask 58 = .ok (.iload_n 3, 1) := by decide +kernel
theorem dX6_ask_59 : decode cX6_ask 59 = .ok (.imul, 1) := by decide +kernel
theorem dX6_ask_60 : decode cX6_ask 60 = .ok (.iload 5, 2) := by decide +kernel
theorem dX6_ask_62 : decode cX6_ask 62 = .ok (.iadd, 1) := by decide +kernel
theorem dX6_ask_63 : decode cX6_ask 63 = .ok (.aload_n 0, 1) := by decide +kernel
theorem dX6_ask_64 : decode cX6_ask 64 = .ok (.getfield 26, 3) := by decide +kernel
theorem dX6_ask_67 : decode cX6_ask 67 = .ok (.iload 5, 2) := by decide +kernel
theorem dX6_ask_69 : decode cX6_ask 69 = .ok (.iaload, 1) := by decide +kernel
theorem dX6_ask_70 : decode cX6_ask 70 = .ok (.iastore, 1) := by decide +kernel
theorem dX6_ask_71 : decode cX6_ask 71 = .ok (.iinc 5 1, 3) := by decide +kernel
theorem dX6_ask_74 : decode cX6_ask 74 = .ok (.goto (-29), 3) := by decide +kernel
theorem dX6_ask_77 : decode cX6_ask 77 = .ok (.iinc 3 1, 3) := by decide +kernel
theorem dX6_ask_80 : decode cX6_ask 80 = .ok (.iinc 4 1, 3) := by decide +kernel
theorem dX6_ask_83 : decode cX6_ask 83 = .ok (.goto (-61), 3) := by decide +kernel
theorem dX6_ask_86 : decode cX6_ask 86 = .ok (.aload_n 0, 1) := by decide +kernel
theorem dX6_ask_87 : decode cX6_ask 87 = .ok (.iload_n 3, 1) := by decide +kernel
theorem dX6_ask_88 : decode cX6_ask 88 = .ok (.invokevirtual 257, 3) := by decide +kernel
theorem dX6_ask_91 : decode cX6_ask 91 = .ok (.iconst 0, 1) := by decide +kernel
theorem dX6_ask_92 : decode cX6_ask 92 = .ok (.istore 4, 2) := by decide +kernel
theorem dX6_ask_94 : decode cX6_ask 94 = .ok (.iload 4, 2) := by decide +kernel
theorem dX6_ask_96 : decode cX6_ask 96 = .ok (.bipush 105, 2) := by decide +kernel
theorem dX6_ask_98 : decode cX6_ask 98 = .ok (.if_icmp .ge 132, 3) := by decide +kernel
theorem dX6_ask_101 : decode cX6_ask 101 = .ok (.iconst 0, 1) := by decide +kernel
theorem dX6_ask_102 : decode cX6_ask 102 = .ok (.istore 5, 2) := by decide +kernel
theorem dX6_ask_104 : decode cX6_ask 104 = .ok (.iconst 0, 1) := by decide +kernel
theorem dX6_ask_105 : decode cX6_ask 105 = .ok (.istore 6, 2) := by decide +kernel
theorem dX6_ask_107 : decode cX6_ask 107 = .ok (.iload 6, 2) := by decide +kernel
theorem dX6_ask_109 : decode cX6_ask 109 = .ok (.iload_n 3, 1) := by decide +kernel
theorem dX6_ask_110 : decode cX6_ask 110 = .ok (.if_icmp .ge 85, 3) := by decide +kernel
theorem dX6_ask_113 : decode cX6_ask 113 = .ok (.iconst 0, 1) := by decide +kernel
theorem dX6_ask_114 : decode cX6_ask 114 = .ok (.istore 7, 2) := by decide +kernel
theorem dX6_ask_116 : decode cX6_ask 116 = .ok (.iconst 0, 1) := by decide +kernel
theorem dX6_ask_117 : decode cX6_ask 117 = .ok (.istore 8, 2) := by decide +kernel
theorem dX6_ask_119 : decode cX6_ask 119 = .ok (.iload 8, 2) := by decide +kernel
theorem dX6_ask_121 : decode cX6_ask 121 = .ok (.iload_n 3, 1) := by decide +kernel
theorem dX6_ask_122 : decode cX6_ask 122 = .ok (.if_icmp .ge 51, 3) := by decide +kernel
theorem dX6_ask_125 : decode cX6_ask 125 = .ok (.iload 7, 2) := by decide +kernel
theorem dX6_ask_127 : decode cX6_ask 127 = .ok (.aload_n 0, 1) := by decide +kernel
theorem dX6_ask_128 : decode cX6_ask 128 = .ok (.getfield 29, 3) := by decide +kernel
theorem dX6_ask_131 : decode cX6_ask 131 = .ok (.bipush 105, 2) := by decide +kernel
theorem dX6_ask_133 : decode cX6_ask 133 = .ok (.iload 6, 2) := by decide +kernel
theorem dX6_ask_135 : decode cX6_ask 135 = .ok (.imul, 1) := by decide +kernel
theorem dX6_ask_136 : decode cX6_ask 136 = .ok (.iload 4, 2) := by decide +kernel
theorem dX6_ask_138 : decode cX6_ask 138 = .ok (.iadd, 1) := by decide +kernel
theorem dX6_ask_139 : decode cX6_ask 139 = .ok (.iaload, 1) := by decide +kernel
theorem dX6_ask_140 : decode cX6_ask 140 = .ok (.aload_n 0, 1) := by decide +kernel
theorem dX6_ask_141 : decode cX6_ask 141 = .ok (.getfield 29, 3) := by decide +kernel
theorem dX6_ask_144 : decode cX6_ask 144 = .ok (.bipush 105, 2) := by decide +kernel
theorem dX6_ask_146 : decode cX6_ask 146 = .ok (.iload 8, 2) := by decide +kernel
theorem dX6_ask_148 : decode cX6_ask 148 = .ok (.imul, 1) := by decide +kernel
theorem dX6_ask_149 : decode cX6_ask 149 = .ok (.iload 4, 2) := by decide +kernel
theorem dX6_ask_151 : decode cX6_ask 151 = .ok (.iadd, 1) := by decide +kernel
theorem dX6_ask_152 : decode cX6_ask 152 = .ok (.iaload, 1) := by decide +kernel
theorem dX6_ask_153 : decode cX6_ask 153 = .ok (.if_icmp .ne 7, 3) := by decide +kernel
theorem dX6_ask_156 : decode cX6_ask 156 = .ok (.iconst 1, 1) := by decide +kernel
theorem dX6_ask_157 : decode cX6_ask 157 = .ok (.goto 4, 3) := by decide +kernel
theorem dX6_ask_160 : decode cX6_ask 160 = .ok (.iconst 0, 1) := by decide +kernel
theorem dX6_ask_161 : decode cX6_ask 161 = .ok (.invokestatic 200, 3) := by decide +kernel
theorem dX6_ask_164 : decode cX6_ask 164 = .ok (.iadd, 1) := by decide +kernel
theorem dX6_ask_165 : decode cX6_ask 165 = .ok (.istore 7, 2) := by decide +kernel
theorem dX6_ask_167 : decode cX6_ask 167 = .ok (.iinc 8 1, 3) := by decide +kernel
theorem dX6_ask_170 : decode cX6_ask 170 = .ok (.goto (-51), 3) := by decide +kernel
theorem dX6_ask_173 : decode cX6_ask 173 = .ok (.iload 7, 2) := by decide +kernel
theorem dX6_ask_175 : decode cX6_ask 175 = .ok (.iload 5, 2) := by decide +kernel
theorem dX6_ask_177 : decode cX6_ask 177 = .ok (.if_icmp .le 8, 3) := by decide +kernel
theorem dX6_ask_180 : decode cX6_ask 180 = .ok (.iload 7, 2) := by decide +kernel
theorem dX6_ask_182 : decode cX6_ask 182 = .ok (.goto 5, 3) := by decide +kernel
theorem dX6_ask_185 : decode cX6_ask 185 = .ok (.iload 5, 2) := by decide +kernel
theorem dX6_ask_187 : decode cX6_ask 187 = .ok (.istore 5, 2) := by decide +kernel
theorem dX6_ask_189 : decode cX6_ask 189 = .ok (.iinc 6 1, 3) := by decide +kernel
theorem dX6_ask_192 : decode cX6_ask 192 = .ok (.goto (-85), 3) := by decide +kernel
theorem dX6_ask_195 : decode cX6_ask 195 = .ok (.iload 4, 2) := by decide +kernel
theorem dX6_ask_197 : decode cX6_ask 197 = .ok (.iconst 5, 1) := by decide +kernel
theorem dX6_ask_198 : decode cX6_ask 198 = .ok (.irem, 1) := by decide +kernel
theorem dX6_ask_199 : decode cX6_ask 199 = .ok (.aload_n 0, 1) := by decide +kernel
theorem dX6_ask_200 : decode cX6_ask 200 = .ok (.getfield 64, 3) := by decide +kernel
theorem dX6_ask_203 : decode cX6_ask 203 = .ok (.if_icmp .ge 21, 3) := by decide +kernel
theorem dX6_ask_206 : decode cX6_ask 206 = .ok (.aload_n 0, 1) := by decide +kernel
theorem dX6_ask_207 : decode cX6_ask 207 = .ok (.bipush 10, 2) := by decide +kernel
theorem dX6_ask_209 : decode cX6_ask 209 = .ok (.iload 4, 2) := by decide +kernel
theorem dX6_ask_211 : decode cX6_ask 211 = .ok (.iconst 5, 1) := by decide +kernel
theorem dX6_ask_212 : decode cX6_ask 212 = .ok (.idiv, 1) := by decide +kernel
theorem dX6_ask_213 : decode cX6_ask 213 = .ok (.imul, 1) := by decide +kernel
theorem dX6_ask_214 : decode cX6_ask 214 = .ok (.iload 4, 2) := by decide +kernel
theorem dX6_ask_216 : decode cX6_ask 216 = .ok (.iconst 5, 1) := by decide +kernel
theorem dX6_ask_217 : decode cX6_ask 217 = .ok (.irem, 1) := by decide +kernel
theorem dX6_ask_218 : decode cX6_ask 218 = .ok (.iadd, 1) := by decide +kernel
theorem dX6_ask_219 : decode cX6_ask 219 = .ok (.iload 5, 2) := by decide +kernel
theorem dX6_ask_221 : decode cX6_ask 221 = .ok (.invokevirtual 260, 3) := by decide +kernel
theorem dX6_ask_224 : decode cX6_ask 224 = .ok (.iinc 4 1, 3) := by decide +kernel
theorem dX6_ask_227 : decode cX6_ask 227 = .ok (.goto (-133), 3) := by decide +kernel
theorem dX6_ask_230 : decode cX6_ask 230 = .ok (.aload_n 0, 1) := by decide +kernel
theorem dX6_ask_231 : decode cX6_ask 231 = .ok (.iload_n 2, 1) := by decide +kernel
theorem dX6_ask_232 : decode cX6_ask 232 = .ok (.invokevirtual 264, 3) := by decide +kernel
theorem dX6_ask_235 : decode cX6_ask 235 = .ok (.ireturn, 1) := by decide +kernel
theorem dX6_drift_0 : decode cX6_drift 0 = .ok (.iload_n 2, 1) := by decide +kernel
theorem dX6_drift_1 : decode cX6_drift 1 = .ok (.i2l, 1) := by decide +kernel
theorem dX6_drift_2 : decode cX6_drift 2 = .ok (.lconst 1, 1) := by decide +kernel
theorem dX6_drift_3 : decode cX6_drift 3 = .ok (.ldc2_w 237, 3) := by decide +kernel
theorem dX6_drift_6 : decode cX6_drift 6 = .ok (.invokestatic 69, 3) := by decide +kernel
theorem dX6_drift_9 : decode cX6_drift 9 = .ok (.ifCond .eq 10, 3) := by decide +kernel
theorem dX6_drift_12 : decode cX6_drift 12 = .ok (.iload_n 3, 1) := by decide +kernel
theorem dX6_drift_13 : decode cX6_drift 13 = .ok (.invokestatic 251, 3) := by decide +kernel
theorem dX6_drift_16 : decode cX6_drift 16 = .ok (.ifCond .ne 5, 3) := by decide +kernel
theorem dX6_drift_19 : decode cX6_drift 19 = .ok (.iconst (-1), 1) := by decide +kernel
theorem dX6_drift_20 : decode cX6_drift 20 = .ok (.ireturn, 1) := by decide +kernel
theorem dX6_drift_21 : decode cX6_drift 21 = .ok (.aload_n 0, 1) := by decide +kernel
theorem dX6_drift_22 : decode cX6_drift 22 = .ok (.getfield 64, 3) := by decide +kernel
theorem dX6_drift_25 : decode cX6_drift 25 = .ok (.ifCond .ne 6, 3) := by decide +kernel
theorem dX6_drift_28 : decode cX6_drift 28 = .ok (.bipush (-2), 2) := by decide +kernel
theorem dX6_drift_30 : decode cX6_drift 30 = .ok (.ireturn, 1) := by decide +kernel
theorem dX6_drift_31 : decode cX6_drift 31 = .ok (.iload_n 1, 1) := by decide +kernel
theorem dX6_drift_32 : decode cX6_drift 32 = .ok (.istore 4, 2) := by decide +kernel
theorem dX6_drift_34 : decode cX6_drift 34 = .ok (.aload_n 0, 1) := by decide +kernel
theorem dX6_drift_35 : decode cX6_drift 35 = .ok (.invokevirtual 194, 3) := by decide +kernel
theorem dX6_drift_38 : decode cX6_drift 38 = .ok (.iconst 0, 1) := by decide +kernel
theorem dX6_drift_39 : decode cX6_drift 39 = .ok (.istore 5, 2) := by decide +kernel
theorem dX6_drift_41 : decode cX6_drift 41 = .ok (.iload 5, 2) := by decide +kernel
theorem dX6_drift_43 : decode cX6_drift 43 = .ok (.iload_n 2, 1) := by decide +kernel
theorem dX6_drift_44 : decode cX6_drift 44 = .ok (.if_icmp .ge 87, 3) := by decide +kernel
theorem dX6_drift_47 : decode cX6_drift 47 = .ok (.iload 4, 2) := by decide +kernel
theorem dX6_drift_49 : decode cX6_drift 49 = .ok (.ldc_w 306, 3) := by decide +kernel
theorem dX6_drift_52 : decode cX6_drift 52 = .ok (.imul, 1) := by decide +kernel
theorem dX6_drift_53 : decode cX6_drift 53 = .ok (.sipush 12345, 3) := by decide +kernel
theorem dX6_drift_56 : decode cX6_drift 56 = .ok (.iadd, 1) := by decide +kernel
theorem dX6_drift_57 : decode cX6_drift 57 = .ok (.istore 4, 2) := by decide +kernel
theorem dX6_drift_59 : decode cX6_drift 59 = .ok (.iload 4, 2) := by decide +kernel
theorem dX6_drift_61 : decode cX6_drift 61 = .ok (.bipush 16, 2) := by decide +kernel
theorem dX6_drift_63 : decode cX6_drift 63 = .ok (.ishr, 1) := by decide +kernel
theorem dX6_drift_64 : decode cX6_drift 64 = .ok (.sipush 32767, 3) := by decide +kernel
theorem dX6_drift_67 : decode cX6_drift 67 = .ok (.iand, 1) := by decide +kernel
theorem dX6_drift_68 : decode cX6_drift 68 = .ok (.istore 6, 2) := by decide +kernel
theorem dX6_drift_70 : decode cX6_drift 70 = .ok (.iload 6, 2) := by decide +kernel
theorem dX6_drift_72 : decode cX6_drift 72 = .ok (.aload_n 0, 1) := by decide +kernel
theorem dX6_drift_73 : decode cX6_drift 73 = .ok (.getfield 64, 3) := by decide +kernel
theorem dX6_drift_76 : decode cX6_drift 76 = .ok (.irem, 1) := by decide +kernel
theorem dX6_drift_77 : decode cX6_drift 77 = .ok (.istore 7, 2) := by decide +kernel
theorem dX6_drift_79 : decode cX6_drift 79 = .ok (.iload 6, 2) := by decide +kernel
theorem dX6_drift_81 : decode cX6_drift 81 = .ok (.bipush 8, 2) := by decide +kernel
theorem dX6_drift_83 : decode cX6_drift 83 = .ok (.idiv, 1) := by decide +kernel
theorem dX6_drift_84 : decode cX6_drift 84 = .ok (.aload_n 0, 1) := by decide +kernel
theorem dX6_drift_85 : decode cX6_drift 85 = .ok (.getfield 64, 3) := by decide +kernel
theorem dX6_drift_88 : decode cX6_drift 88 = .ok (.irem, 1) := by decide +kernel
theorem dX6_drift_89 : decode cX6_drift 89 = .ok (.istore 8, 2) := by decide +kernel
theorem dX6_drift_91 : decode cX6_drift 91 = .ok (.iload 7, 2) := by decide +kernel
theorem dX6_drift_93 : decode cX6_drift 93 = .ok (.iload 8, 2) := by decide +kernel
theorem dX6_drift_95 : decode cX6_drift 95 = .ok (.if_icmp .eq 25, 3) := by decide +kernel
theorem dX6_drift_98 : decode cX6_drift 98 = .ok (.aload_n 0, 1) := by decide +kernel
theorem dX6_drift_99 : decode cX6_drift 99 = .ok (.getfield 13, 3) := by decide +kernel
theorem dX6_drift_102 : decode cX6_drift 102 = .ok (.bipush 10, 2) := by decide +kernel
theorem dX6_drift_104 : decode cX6_drift 104 = .ok (.iconst 5, 1) := by decide +kernel
theorem dX6_drift_105 : decode cX6_drift 105 = .ok (.iload 7, 2) := by decide +kernel
theorem dX6_drift_107 : decode cX6_drift 107 = .ok (.imul, 1) := by decide +kernel
theorem dX6_drift_108 : decode cX6_drift 108 = .ok (.iadd, 1) := by decide +kernel
theorem dX6_drift_109 : decode cX6_drift 109 = .ok (.iload 8, 2) := by decide +kernel
theorem dX6_drift_111 : decode cX6_drift 111 = .ok (.iadd, 1) := by decide +kernel
theorem dX6_drift_112 : decode cX6_drift 112 = .ok (.iload 6, 2) := by decide +kernel
theorem dX6_drift_114 : decode cX6_drift 114 = .ok (.bipush 64, 2) := by decide +kernel
theorem dX6_drift_116 : decode cX6_drift 116 = .ok (.idiv, 1) := by decide +kernel
theorem dX6_drift_117 : decode cX6_drift 117 = .ok (.iconst 4, 1) := by decide +kernel
theorem dX6_drift_118 : decode cX6_drift 118 = .ok (.irem, 1) := by decide +kernel
theorem dX6_drift_119 : decode cX6_drift 119 = .ok (.iastore, 1) := by decide +kernel
theorem dX6_drift_120 : decode cX6_drift 120 = .ok (.aload_n 0, 1) := by decide +kernel
theorem dX6_drift_121 : decode cX6_drift 121 = .ok (.iconst 0, 1) := by decide +kernel
theorem dX6_drift_122 : decode cX6_drift 122 = .ok (.invokevirtual 190, 3) := by decide +kernel
theorem dX6_drift_125 : decode cX6_drift 125 = .ok (.iinc 5 1, 3) := by decide +kernel
theorem dX6_drift_128 : decode cX6_drift 128 = .ok (.goto (-87), 3) := by decide +kernel
theorem dX6_drift_131 : decode cX6_drift 131 = .ok (.iload_n 3, 1) := by decide +kernel
theorem dX6_drift_132 : decode cX6_drift 132 = .ok (.ifCond .ne 10, 3) := by decide +kernel
theorem dX6_drift_135 : decode cX6_drift 135 = .ok (.aload_n 0, 1) := by decide +kernel
theorem dX6_drift_136 : decode cX6_drift 136 = .ok (.invokevirtual 197, 3) := by decide +kernel
theorem dX6_drift_139 : decode cX6_drift 139 = .ok (.goto 7, 3) := by decide +kernel
theorem dX6_drift_142 : decode cX6_drift 142 = .ok (.aload_n 0, 1) := by decide +kernel
theorem dX6_drift_143 : decode cX6_drift 143 = .ok (.invokevirtual 234, 3) := by decide +kernel
theorem dX6_drift_146 : decode cX6_drift 146 = .ok (.ireturn, 1) := by decide +kernel
theorem dX6_copies_0 : decode cX6_copies 0 = .ok (.iconst 0, 1) := by decide +kernel
theorem dX6_copies_1 : decode cX6_copies 1 = .ok (.istore_n 3, 1) := by decide +kernel
theorem dX6_copies_2 : decode cX6_copies 2 = .ok (.iload_n 3, 1) := by decide +kernel
theorem dX6_copies_3 : decode cX6_copies 3 = .ok (.bipush 76, 2) := by decide +kernel
theorem dX6_copies_5 : decode cX6_copies 5 = .ok (.if_icmp .ge 25, 3) := by decide +kernel
theorem dX6_copies_8 : decode cX6_copies 8 = .ok (.aload_n 0, 1) := by decide +kernel
theorem dX6_copies_9 : decode cX6_copies 9 = .ok (.getfield 7, 3) := by decide +kernel
theorem dX6_copies_12 : decode cX6_copies 12 = .ok (.iload_n 1, 1) := by decide +kernel
theorem dX6_copies_13 : decode cX6_copies 13 = .ok (.iload_n 3, 1) := by decide +kernel
theorem dX6_copies_14 : decode cX6_copies 14 = .ok (.iadd, 1) := by decide +kernel
theorem dX6_copies_15 : decode cX6_copies 15 = .ok (.aload_n 0, 1) := by decide +kernel
theorem dX6_copies_16 : decode cX6_copies 16 = .ok (.getfield 7, 3) := by decide +kernel
theorem dX6_copies_19 : decode cX6_copies 19 = .ok (.iload_n 2, 1) := by decide +kernel
theorem dX6_copies_20 : decode cX6_copies 20 = .ok (.iload_n 3, 1) := by decide +kernel
theorem dX6_copies_21 : decode cX6_copies 21 = .ok (.iadd, 1) := by decide +kernel
theorem dX6_copies_22 : decode cX6_copies 22 = .ok (.iaload, 1) := by decide +kernel
theorem dX6_copies_23 : decode cX6_copies 23 = .ok (.iastore, 1) := by decide +kernel
theorem dX6_copies_24 : decode cX6_copies 24 = .ok (.iinc 3 1, 3) := by decide +kernel
theorem dX6_copies_27 : decode cX6_copies 27 = .ok (.goto (-25), 3) := by decide +kernel
theorem dX6_copies_30 : decode cX6_copies 30 = .ok (.return_, 1) := by decide +kernel
theorem dX6_keep_0 : decode cX6_keep 0 = .ok (.iload_n 1, 1) := by decide +kernel
theorem dX6_keep_1 : decode cX6_keep 1 = .ok (.i2l, 1) := by decide +kernel
theorem dX6_keep_2 : decode cX6_keep 2 = .ok (.lconst 0, 1) := by decide +kernel
theorem dX6_keep_3 : decode cX6_keep 3 = .ok (.lconst 1, 1) := by decide +kernel
theorem dX6_keep_4 : decode cX6_keep 4 = .ok (.invokestatic 69, 3) := by decide +kernel
theorem dX6_keep_7 : decode cX6_keep 7 = .ok (.ifCond .ne 5, 3) := by decide +kernel
theorem dX6_keep_10 : decode cX6_keep 10 = .ok (.iconst (-1), 1) := by decide +kernel
theorem dX6_keep_11 : decode cX6_keep 11 = .ok (.ireturn, 1) := by decide +kernel
theorem dX6_keep_12 : decode cX6_keep 12 = .ok (.aload_n 0, 1) := by decide +kernel
theorem dX6_keep_13 : decode cX6_keep 13 = .ok (.getfield 16, 3) := by decide +kernel
theorem dX6_keep_16 : decode cX6_keep 16 = .ok (.iload_n 1, 1) := by decide +kernel
theorem dX6_keep_17 : decode cX6_keep 17 = .ok (.baload, 1) := by decide +kernel
theorem dX6_keep_18 : decode cX6_keep 18 = .ok (.invokestatic 200, 3) := by decide +kernel
theorem dX6_keep_21 : decode cX6_keep 21 = .ok (.istore_n 2, 1) := by decide +kernel
theorem dX6_keep_22 : decode cX6_keep 22 = .ok (.aload_n 0, 1) := by decide +kernel
theorem dX6_keep_23 : decode cX6_keep 23 = .ok (.getfield 16, 3) := by decide +kernel
theorem dX6_keep_26 : decode cX6_keep 26 = .ok (.iload_n 1, 1) := by decide +kernel
theorem dX6_keep_27 : decode cX6_keep 27 = .ok (.iconst 1, 1) := by decide +kernel
theorem dX6_keep_28 : decode cX6_keep 28 = .ok (.bastore, 1) := by decide +kernel
theorem dX6_keep_29 : decode cX6_keep 29 = .ok (.aload_n 0, 1) := by decide +kernel
theorem dX6_keep_30 : decode cX6_keep 30 = .ok (.bipush 76, 2) := by decide +kernel
theorem dX6_keep_32 : decode cX6_keep 32 = .ok (.iload_n 1, 1) := by decide +kernel
theorem dX6_keep_33 : decode cX6_keep 33 = .ok (.iconst 1, 1) := by decide +kernel
theorem dX6_keep_34 : decode cX6_keep 34 = .ok (.iadd, 1) := by decide +kernel
theorem dX6_keep_35 : decode cX6_keep 35 = .ok (.imul, 1) := by decide +kernel
theorem dX6_keep_36 : decode cX6_keep 36 = .ok (.iconst 0, 1) := by decide +kernel
theorem dX6_keep_37 : decode cX6_keep 37 = .ok (.invokevirtual 307, 3) := by decide +kernel
theorem dX6_keep_40 : decode cX6_keep 40 = .ok (.iload_n 2, 1) := by decide +kernel
theorem dX6_keep_41 : decode cX6_keep 41 = .ok (.ireturn, 1) := by decide +kernel
theorem dX6_back_0 : decode cX6_back 0 = .ok (.iload_n 1, 1) := by decide +kernel
theorem dX6_back_1 : decode cX6_back 1 = .ok (.i2l, 1) := by decide +kernel
theorem dX6_back_2 : decode cX6_back 2 = .ok (.lconst 0, 1) := by decide +kernel
theorem dX6_back_3 : decode cX6_back 3 = .ok (.lconst 1, 1) := by decide +kernel
theorem dX6_back_4 : decode cX6_back 4 = .ok (.invokestatic 69, 3) := by decide +kernel
theorem dX6_back_7 : decode cX6_back 7 = .ok (.ifCond .ne 5, 3) := by decide +kernel
theorem dX6_back_10 : decode cX6_back 10 = .ok (.iconst (-1), 1) := by decide +kernel
theorem dX6_back_11 : decode cX6_back 11 = .ok (.ireturn, 1) := by decide +kernel
theorem dX6_back_12 : decode cX6_back 12 = .ok (.aload_n 0, 1) := by decide +kernel
theorem dX6_back_13 : decode cX6_back 13 = .ok (.getfield 16, 3) := by decide +kernel
theorem dX6_back_16 : decode cX6_back 16 = .ok (.iload_n 1, 1) := by decide +kernel
theorem dX6_back_17 : decode cX6_back 17 = .ok (.baload, 1) := by decide +kernel
theorem dX6_back_18 : decode cX6_back 18 = .ok (.ifCond .ne 6, 3) := by decide +kernel
theorem dX6_back_21 : decode cX6_back 21 = .ok (.bipush (-2), 2) := by decide +kernel
theorem dX6_back_23 : decode cX6_back 23 = .ok (.ireturn, 1) := by decide +kernel
theorem dX6_back_24 : decode cX6_back 24 = .ok (.aload_n 0, 1) := by decide +kernel
theorem dX6_back_25 : decode cX6_back 25 = .ok (.iconst 0, 1) := by decide +kernel
theorem dX6_back_26 : decode cX6_back 26 = .ok (.bipush 76, 2) := by decide +kernel
theorem dX6_back_28 : decode cX6_back 28 = .ok (.iload_n 1, 1) := by decide +kernel
theorem dX6_back_29 : decode cX6_back 29 = .ok (.iconst 1, 1) := by decide +kernel
theorem dX6_back_30 : decode cX6_back 30 = .ok (.iadd, 1) := by decide +kernel
theorem dX6_back_31 : decode cX6_back 31 = .ok (.imul, 1) := by decide +kernel
theorem dX6_back_32 : decode cX6_back 32 = .ok (.invokevirtual 307, 3) := by decide +kernel
theorem dX6_back_35 : decode cX6_back 35 = .ok (.aload_n 0, 1) := by decide +kernel
theorem dX6_back_36 : decode cX6_back 36 = .ok (.getfield 7, 3) := by decide +kernel
theorem dX6_back_39 : decode cX6_back 39 = .ok (.bipush 54, 2) := by decide +kernel
theorem dX6_back_41 : decode cX6_back 41 = .ok (.iaload, 1) := by decide +kernel
theorem dX6_back_42 : decode cX6_back 42 = .ok (.ireturn, 1) := by decide +kernel
theorem dX6_isSheet_0 : decode cX6_isSheet 0 = .ok (.iload_n 0, 1) := by decide +kernel
theorem dX6_isSheet_1 : decode cX6_isSheet 1 = .ok (.i2l, 1) := by decide +kernel
theorem dX6_isSheet_2 : decode cX6_isSheet 2 = .ok (.lconst 0, 1) := by decide +kernel
theorem dX6_isSheet_3 : decode cX6_isSheet 3 = .ok (.ldc2_w 215, 3) := by decide +kernel
theorem dX6_isSheet_6 : decode cX6_isSheet 6 = .ok (.invokestatic 69, 3) := by decide +kernel
theorem dX6_isSheet_9 : decode cX6_isSheet 9 = .ok (.ifCond .eq 19, 3) := by decide +kernel
theorem dX6_isSheet_12 : decode cX6_isSheet 12 = .ok (.iload_n 1, 1) := by decide +kernel
theorem dX6_isSheet_13 : decode cX6_isSheet 13 = .ok (.i2l, 1) := by decide +kernel
theorem dX6_isSheet_14 : decode cX6_isSheet 14 = .ok (.lconst 0, 1) := by decide +kernel
theorem dX6_isSheet_15 : decode cX6_isSheet 15 = .ok (.ldc2_w 213, 3) := by decide +kernel
theorem dX6_isSheet_18 : decode cX6_isSheet 18 = .ok (.invokestatic 69, 3) := by decide +kernel
theorem dX6_isSheet_21 : decode cX6_isSheet 21 = .ok (.ifCond .eq 7, 3) := by decide +kernel
theorem dX6_isSheet_24 : decode cX6_isSheet 24 = .ok (.iconst 1, 1) := by decide +kernel
theorem dX6_isSheet_25 : decode cX6_isSheet 25 = .ok (.goto 4, 3) := by decide +kernel
theorem dX6_isSheet_28 : decode cX6_isSheet 28 = .ok (.iconst 0, 1) := by decide +kernel
theorem dX6_isSheet_29 : decode cX6_isSheet 29 = .ok (.ireturn, 1) := by decide +kernel
theorem dX6_sheet_0 : decode cX6_sheet 0 = .ok (.iload_n 1, 1) := by decide +kernel
theorem dX6_sheet_1 : decode cX6_sheet 1 = .ok (.iload_n 2, 1) := by decide +kernel
theorem dX6_sheet_2 : decode cX6_sheet 2 = .ok (.invokestatic 310, 3) := by decide +kernel
theorem dX6_sheet_5 : decode cX6_sheet 5 = .ok (.ifCond .eq 9, 3) := by decide +kernel
theorem dX6_sheet_8 : decode cX6_sheet 8 = .ok (.iload_n 3, 1) := by decide +kernel
theorem dX6_sheet_9 : decode cX6_sheet 9 = .ok (.bipush 40, 2) := by decide +kernel
theorem dX6_sheet_11 : decode cX6_sheet 11 = .ok (.if_icmp .le 5, 3) := by decide +kernel
theorem dX6_sheet_14 : decode cX6_sheet 14 = .ok (.iconst (-1), 1) := by decide +kernel
theorem dX6_sheet_15 : decode cX6_sheet 15 = .ok (.ireturn, 1) := by decide +kernel
theorem dX6_sheet_16 : decode cX6_sheet 16 = .ok (.iload_n 3, 1) := by decide +kernel
theorem dX6_sheet_17 : decode cX6_sheet 17 = .ok (.ifCond .ge 6, 3) := by decide +kernel
theorem dX6_sheet_20 : decode cX6_sheet 20 = .ok (.bipush (-14), 2) := by decide +kernel
theorem dX6_sheet_22 : decode cX6_sheet 22 = .ok (.ireturn, 1) := by decide +kernel
theorem dX6_sheet_23 : decode cX6_sheet 23 = .ok (.aload_n 0, 1) := by decide +kernel
theorem dX6_sheet_24 : decode cX6_sheet 24 = .ok (.getfield 32, 3) := by decide +kernel
theorem dX6_sheet_27 : decode cX6_sheet 27 = .ok (.iload_n 1, 1) := by decide +kernel
theorem dX6_sheet_28 : decode cX6_sheet 28 = .ok (.iload_n 2, 1) := by decide +kernel
theorem dX6_sheet_29 : decode cX6_sheet 29 = .ok (.iastore, 1) := by decide +kernel
theorem dX6_sheet_30 : decode cX6_sheet 30 = .ok (.aload_n 0, 1) := by decide +kernel
theorem dX6_sheet_31 : decode cX6_sheet 31 = .ok (.getfield 35, 3) := by decide +kernel
theorem dX6_sheet_34 : decode cX6_sheet 34 = .ok (.iload_n 1, 1) := by decide +kernel
theorem dX6_sheet_35 : decode cX6_sheet 35 = .ok (.iload_n 3, 1) := by decide +kernel
theorem dX6_sheet_36 : decode cX6_sheet 36 = .ok (.iastore, 1) := by decide +kernel
theorem dX6_sheet_37 : decode cX6_sheet 37 = .ok (.iconst 0, 1) := by decide +kernel
theorem dX6_sheet_38 : decode cX6_sheet 38 = .ok (.istore 4, 2) := by decide +kernel
theorem dX6_sheet_40 : decode cX6_sheet 40 = .ok (.iload 4, 2) := by decide +kernel
theorem dX6_sheet_42 : decode cX6_sheet 42 = .ok (.bipush 40, 2) := by decide +kernel
theorem dX6_sheet_44 : decode cX6_sheet 44 = .ok (.if_icmp .ge 22, 3) := by decide +kernel
theorem dX6_sheet_47 : decode cX6_sheet 47 = .ok (.aload_n 0, 1) := by decide +kernel
theorem dX6_sheet_48 : decode cX6_sheet 48 = .ok (.getfield 38, 3) := by decide +kernel
theorem dX6_sheet_51 : decode cX6_sheet 51 = .ok (.bipush 40, 2) := by decide +kernel
theorem dX6_sheet_53 : decode cX6_sheet 53 = .ok (.iload_n 1, 1) := by decide +kernel
theorem dX6_sheet_54 : decode cX6_sheet 54 = .ok (.imul, 1) := by decide +kernel
theorem dX6_sheet_55 : decode cX6_sheet 55 = .ok (.iload 4, 2) := by decide +kernel
theorem dX6_sheet_57 : decode cX6_sheet 57 = .ok (.iadd, 1) := by decide +kernel
theorem dX6_sheet_58 : decode cX6_sheet 58 = .ok (.iconst 0, 1) := by decide +kernel
theorem dX6_sheet_59 : decode cX6_sheet 59 = .ok (.iastore, 1) := by decide +kernel
theorem dX6_sheet_60 : decode cX6_sheet 60 = .ok (.iinc 4 1, 3) := by decide +kernel
theorem dX6_sheet_63 : decode cX6_sheet 63 = .ok (.goto (-23), 3) := by decide +kernel
theorem dX6_sheet_66 : decode cX6_sheet 66 = .ok (.iconst 1, 1) := by decide +kernel
theorem dX6_sheet_67 : decode cX6_sheet 67 = .ok (.ireturn, 1) := by decide +kernel
theorem dX6_lay_0 : decode cX6_lay 0 = .ok (.iload_n 1, 1) := by decide +kernel
theorem dX6_lay_1 : decode cX6_lay 1 = .ok (.iconst 0, 1) := by decide +kernel
theorem dX6_lay_2 : decode cX6_lay 2 = .ok (.invokestatic 310, 3) := by decide +kernel
theorem dX6_lay_5 : decode cX6_lay 5 = .ok (.ifCond .ne 5, 3) := by decide +kernel
theorem dX6_lay_8 : decode cX6_lay 8 = .ok (.iconst (-1), 1) := by decide +kernel
theorem dX6_lay_9 : decode cX6_lay 9 = .ok (.ireturn, 1) := by decide +kernel
theorem dX6_lay_10 : decode cX6_lay 10 = .ok (.aload_n 0, 1) := by decide +kernel
theorem dX6_lay_11 : decode cX6_lay 11 = .ok (.getfield 32, 3) := by decide +kernel
theorem dX6_lay_14 : decode cX6_lay 14 = .ok (.iload_n 1, 1) := by decide +kernel
theorem dX6_lay_15 : decode cX6_lay 15 = .ok (.iaload, 1) := by decide +kernel
theorem dX6_lay_16 : decode cX6_lay 16 = .ok (.bipush (-4), 2) := by decide +kernel
theorem dX6_lay_18 : decode cX6_lay 18 = .ok (.if_icmp .ne 6, 3) := by decide +kernel
theorem dX6_lay_21 : decode cX6_lay 21 = .ok (.bipush (-11), 2) := by decide +kernel
theorem dX6_lay_23 : decode cX6_lay 23 = .ok (.ireturn, 1) := by decide +kernel
theorem dX6_lay_24 : decode cX6_lay 24 = .ok (.iload_n 2, 1) := by decide +kernel
theorem dX6_lay_25 : decode cX6_lay 25 = .ok (.i2l, 1) := by decide +kernel
theorem dX6_lay_26 : decode cX6_lay 26 = .ok (.lconst 0, 1) := by decide +kernel
theorem dX6_lay_27 : decode cX6_lay 27 = .ok (.aload_n 0, 1) := by decide +kernel
theorem dX6_lay_28 : decode cX6_lay 28 = .ok (.getfield 35, 3) := by decide +kernel
theorem dX6_lay_31 : decode cX6_lay 31 = .ok (.iload_n 1, 1) := by decide +kernel
theorem dX6_lay_32 : decode cX6_lay 32 = .ok (.iaload, 1) := by decide +kernel
theorem dX6_lay_33 : decode cX6_lay 33 = .ok (.iconst 1, 1) := by decide +kernel
theorem dX6_lay_34 : decode cX6_lay 34 = .ok (.isub, 1) := by decide +kernel
theorem dX6_lay_35 : decode cX6_lay 35 = .ok (.i2l, 1) := by decide +kernel
theorem dX6_lay_36 : decode cX6_lay 36 = .ok (.invokestatic 69, 3) := by decide +kernel
theorem dX6_lay_39 : decode cX6_lay 39 = .ok (.ifCond .ne 6, 3) := by decide +kernel
theorem dX6_lay_42 : decode cX6_lay 42 = .ok (.bipush (-12), 2) := by decide +kernel
theorem dX6_lay_44 : decode cX6_lay 44 = .ok (.ireturn, 1) := by decide +kernel
theorem dX6_lay_45 : decode cX6_lay 45 = .ok (.aload_n 0, 1) := by decide +kernel
theorem dX6_lay_46 : decode cX6_lay 46 = .ok (.getfield 38, 3) := by decide +kernel
theorem dX6_lay_49 : decode cX6_lay 49 = .ok (.bipush 40, 2) := by decide +kernel
theorem dX6_lay_51 : decode cX6_lay 51 = .ok (.iload_n 1, 1) := by decide +kernel
theorem dX6_lay_52 : decode cX6_lay 52 = .ok (.imul, 1) := by decide +kernel
theorem dX6_lay_53 : decode cX6_lay 53 = .ok (.iload_n 2, 1) := by decide +kernel
theorem dX6_lay_54 : decode cX6_lay 54 = .ok (.iadd, 1) := by decide +kernel
theorem dX6_lay_55 : decode cX6_lay 55 = .ok (.aload_n 0, 1) := by decide +kernel
theorem dX6_lay_56 : decode cX6_lay 56 = .ok (.getfield 32, 3) := by decide +kernel
theorem dX6_lay_59 : decode cX6_lay 59 = .ok (.iload_n 1, 1) := by decide +kernel
theorem dX6_lay_60 : decode cX6_lay 60 = .ok (.iaload, 1) := by decide +kernel
theorem dX6_lay_61 : decode cX6_lay 61 = .ok (.ifCond .ne 8, 3) := by decide +kernel
theorem dX6_lay_64 : decode cX6_lay 64 = .ok (.iload_n 3, 1) := by decide +kernel
theorem dX6_lay_65 : decode cX6_lay 65 = .ok (.i2b, 1) := by decide +kernel
theorem dX6_lay_66 : decode cX6_lay 66 = .ok (.goto 19, 3) := by decide +kernel
theorem dX6_lay_69 : decode cX6_lay 69 = .ok (.aload_n 0, 1) := by decide +kernel
theorem dX6_lay_70 : decode cX6_lay 70 = .ok (.getfield 32, 3) := by decide +kernel
theorem dX6_lay_73 : decode cX6_lay 73 = .ok (.iload_n 1, 1) := by decide +kernel
theorem dX6_lay_74 : decode cX6_lay 74 = .ok (.iaload, 1) := by decide +kernel
theorem dX6_lay_75 : decode cX6_lay 75 = .ok (.iconst 1, 1) := by decide +kernel
theorem dX6_lay_76 : decode cX6_lay 76 = .ok (.if_icmp .ne 8, 3) := by decide +kernel
theorem dX6_lay_79 : decode cX6_lay 79 = .ok (.iload_n 3, 1) := by decide +kernel
theorem dX6_lay_80 : decode cX6_lay 80 = .ok (.i2s, 1) := by decide +kernel
theorem dX6_lay_81 : decode cX6_lay 81 = .ok (.goto 4, 3) := by decide +kernel
theorem dX6_lay_84 : decode cX6_lay 84 = .ok (.iload_n 3, 1) := by decide +kernel
theorem dX6_lay_85 : decode cX6_lay 85 = .ok (.iastore, 1) := by decide +kernel
theorem dX6_lay_86 : decode cX6_lay 86 = .ok (.iconst 1, 1) := by decide +kernel
theorem dX6_lay_87 : decode cX6_lay 87 = .ok (.ireturn, 1) := by decide +kernel
theorem dX6_read_0 : decode cX6_read 0 = .ok (.iload_n 1, 1) := by decide +kernel
theorem dX6_read_1 : decode cX6_read 1 = .ok (.iload_n 2, 1) := by decide +kernel
theorem dX6_read_2 : decode cX6_read 2 = .ok (.invokestatic 310, 3) := by decide +kernel
theorem dX6_read_5 : decode cX6_read 5 = .ok (.ifCond .eq 16, 3) := by decide +kernel
theorem dX6_read_8 : decode cX6_read 8 = .ok (.iload 4, 2) := by decide +kernel
theorem dX6_read_10 : decode cX6_read 10 = .ok (.i2l, 1) := by decide +kernel
theorem dX6_read_11 : decode cX6_read 11 = .ok (.lconst 0, 1) := by decide +kernel
theorem dX6_read_12 : decode cX6_read 12 = .ok (.ldc2_w 313, 3) := by decide +kernel
theorem dX6_read_15 : decode cX6_read 15 = .ok (.invokestatic 69, 3) := by decide +kernel
theorem dX6_read_18 : decode cX6_read 18 = .ok (.ifCond .ne 5, 3) := by decide +kernel
theorem dX6_read_21 : decode cX6_read 21 = .ok (.iconst (-1), 1) := by decide +kernel
theorem dX6_read_22 : decode cX6_read 22 = .ok (.ireturn, 1) := by decide +kernel
theorem dX6_read_23 : decode cX6_read 23 = .ok (.iconst 0, 1) := by decide +kernel
theorem dX6_read_24 : decode cX6_read 24 = .ok (.istore 5, 2) := by decide +kernel
theorem dX6_read_26 : decode cX6_read 26 = .ok (.iload 5, 2) := by decide +kernel
theorem dX6_read_28 : decode cX6_read 28 = .ok (.bipush 76, 2) := by decide +kernel
theorem dX6_read_30 : decode cX6_read 30 = .ok (.if_icmp .ge 23, 3) := by decide +kernel
theorem dX6_read_33 : decode cX6_read 33 = .ok (.aload_n 0, 1) := by decide +kernel
theorem dX6_read_34 : decode cX6_read 34 = .ok (.getfield 41, 3) := by decide +kernel
theorem dX6_read_37 : decode cX6_read 37 = .ok (.iload 5, 2) := by decide +kernel
theorem dX6_read_39 : decode cX6_read 39 = .ok (.aload_n 0, 1) := by decide +kernel
theorem dX6_read_40 : decode cX6_read 40 = .ok (.getfield 7, 3) := by decide +kernel
theorem dX6_read_43 : decode cX6_read 43 = .ok (.iload 5, 2) := by decide +kernel
theorem dX6_read_45 : decode cX6_read 45 = .ok (.iaload, 1) := by decide +kernel
theorem dX6_read_46 : decode cX6_read 46 = .ok (.iastore, 1) := by decide +kernel
theorem dX6_read_47 : decode cX6_read 47 = .ok (.iinc 5 1, 3) := by decide +kernel
theorem dX6_read_50 : decode cX6_read 50 = .ok (.goto (-24), 3) := by decide +kernel
theorem dX6_read_53 : decode cX6_read 53 = .ok (.iconst 0, 1) := by decide +kernel
theorem dX6_read_54 : decode cX6_read 54 = .ok (.istore 5, 2) := by decide +kernel
theorem dX6_read_56 : decode cX6_read 56 = .ok (.iconst 0, 1) := by decide +kernel
theorem dX6_read_57 : decode cX6_read 57 = .ok (.istore 6, 2) := by decide +kernel
theorem dX6_read_59 : decode cX6_read 59 = .ok (.iconst 0, 1) := by decide +kernel
theorem dX6_read_60 : decode cX6_read 60 = .ok (.istore 7, 2) := by decide +kernel
theorem dX6_read_62 : decode cX6_read 62 = .ok (.iload 7, 2) := by decide +kernel
theorem dX6_read_64 : decode cX6_read 64 = .ok (.iload 4, 2) := by decide +kernel
theorem dX6_read_66 : decode cX6_read 66 = .ok (.if_icmp .ge 193, 3) := by decide +kernel
theorem dX6_read_69 : decode cX6_read 69 = .ok (.iload 5, 2) := by decide +kernel
theorem dX6_read_71 : decode cX6_read 71 = .ok (.ifCond .ne 188, 3) := by decide +kernel
theorem dX6_read_74 : decode cX6_read 74 = .ok (.iconst 0, 1) := by decide +kernel
theorem dX6_read_75 : decode cX6_read 75 = .ok (.istore 8, 2) := by decide +kernel
theorem dX6_read_77 : decode cX6_read 77 = .ok (.iload 8, 2) := by decide +kernel
theorem dX6_read_79 : decode cX6_read 79 = .ok (.iconst 3, 1) := by decide +kernel
theorem dX6_read_80 : decode cX6_read 80 = .ok (.if_icmp .ge 84, 3) := by decide +kernel
theorem dX6_read_83 : decode cX6_read 83 = .ok (.iload 5, 2) := by decide +kernel
theorem dX6_read_85 : decode cX6_read 85 = .ok (.ifCond .ne 79, 3) := by decide +kernel
theorem dX6_read_88 : decode cX6_read 88 = .ok (.iload_n 3, 1) := by decide +kernel
theorem dX6_read_89 : decode cX6_read 89 = .ok (.i2l, 1) := by decide +kernel
theorem dX6_read_90 : decode cX6_read 90 = .ok (.iconst 3, 1) := by decide +kernel
theorem dX6_read_91 : decode cX6_read 91 = .ok (.iload 7, 2) := by decide +kernel
theorem dX6_read_93 : decode cX6_read 93 = .ok (.imul, 1) := by decide +kernel
theorem dX6_read_94 : decode cX6_read 94 = .ok (.i2l, 1) := by decide +kernel
theorem dX6_read_95 : decode cX6_read 95 = .ok (.ladd, 1) := by decide +kernel
theorem dX6_read_96 : decode cX6_read 96 = .ok (.iload 8, 2) := by decide +kernel
theorem dX6_read_98 : decode cX6_read 98 = .ok (.i2l, 1) := by decide +kernel
theorem dX6_read_99 : decode cX6_read 99 = .ok (.ladd, 1) := by decide +kernel
theorem dX6_read_100 : decode cX6_read 100 = .ok (.lstore 9, 2) := by decide +kernel
theorem dX6_read_102 : decode cX6_read 102 = .ok (.aload_n 0, 1) := by decide +kernel
theorem dX6_read_103 : decode cX6_read 103 = .ok (.getfield 32, 3) := by decide +kernel
theorem dX6_read_106 : decode cX6_read 106 = .ok (.iload_n 1, 1) := by decide +kernel
theorem dX6_read_107 : decode cX6_read 107 = .ok (.iaload, 1) := by decide +kernel
theorem dX6_read_108 : decode cX6_read 108 = .ok (.bipush (-4), 2) := by decide +kernel
theorem dX6_read_110 : decode cX6_read 110 = .ok (.if_icmp .ne 7, 3) := by decide +kernel
theorem dX6_read_113 : decode cX6_read 113 = .ok (.iconst 1, 1) := by decide +kernel
theorem dX6_read_114 : decode cX6_read 114 = .ok (.goto 42, 3) := by decide +kernel
theorem dX6_read_117 : decode cX6_read 117 = .ok (.aload_n 0, 1) := by decide +kernel
theorem dX6_read_118 : decode cX6_read 118 = .ok (.getfield 32, 3) := by decide +kernel
theorem dX6_read_121 : decode cX6_read 121 = .ok (.iload_n 1, 1) := by decide +kernel
theorem dX6_read_122 : decode cX6_read 122 = .ok (.iaload, 1) := by decide +kernel
theorem dX6_read_123 : decode cX6_read 123 = .ok (.iload_n 2, 1) := by decide +kernel
theorem dX6_read_124 : decode cX6_read 124 = .ok (.if_icmp .eq 7, 3) := by decide +kernel
theorem dX6_read_127 : decode cX6_read 127 = .ok (.iconst 3, 1) := by decide +kernel
theorem dX6_read_128 : decode cX6_read 128 = .ok (.goto 28, 3) := by decide +kernel
theorem dX6_read_131 : decode cX6_read 131 = .ok (.lload 9, 2) := by decide +kernel
theorem dX6_read_133 : decode cX6_read 133 = .ok (.lconst 0, 1) := by decide +kernel
theorem dX6_read_134 : decode cX6_read 134 = .ok (.lcmp, 1) := by decide +kernel
theorem dX6_read_135 : decode cX6_read 135 = .ok (.ifCond .lt 16, 3) := by decide +kernel
theorem dX6_read_138 : decode cX6_read 138 = .ok (.lload 9, 2) := by decide +kernel
theorem dX6_read_140 : decode cX6_read 140 = .ok (.aload_n 0, 1) := by decide +kernel
theorem dX6_read_141 : decode cX6_read 141 = .ok (.getfield 35, 3) := by decide +kernel
theorem dX6_read_144 : decode cX6_read 144 = .ok (.iload_n 1, 1) := by decide +kernel
theorem dX6_read_145 : decode cX6_read 145 = .ok (.iaload, 1) := by decide +kernel
theorem dX6_read_146 : decode cX6_read 146 = .ok (.i2l, 1) := by decide +kernel
theorem dX6_read_147 : decode cX6_read 147 = .ok (.lcmp, 1) := by decide +kernel
theorem dX6_read_148 : decode cX6_read 148 = .ok (.ifCond .lt 7, 3) := by decide +kernel
theorem dX6_read_151 : decode cX6_read 151 = .ok (.iconst 2, 1) := by decide +kernel
theorem dX6_read_152 : decode cX6_read 152 = .ok (.goto 4, 3) := by decide +kernel
theorem dX6_read_155 : decode cX6_read 155 = .ok (.iconst 0, 1) := by decide +kernel
theorem dX6_read_156 : decode cX6_read 156 = .ok (.istore 5, 2) := by decide +kernel
theorem dX6_read_158 : decode cX6_read 158 = .ok (.iinc 8 1, 3) := by decide +kernel
theorem dX6_read_161 : decode cX6_read 161 = .ok (.goto (-84), 3) := by decide +kernel
theorem dX6_read_164 : decode cX6_read 164 = .ok (.iload 5, 2) := by decide +kernel
theorem dX6_read_166 : decode cX6_read 166 = .ok (.ifCond .ne 87, 3) := by decide +kernel
theorem dX6_read_169 : decode cX6_read 169 = .ok (.bipush 40, 2) := by decide +kernel
theorem dX6_read_171 : decode cX6_read 171 = .ok (.iload_n 1, 1) := by decide +kernel
theorem dX6_read_172 : decode cX6_read 172 = .ok (.imul, 1) := by decide +kernel
theorem dX6_read_173 : decode cX6_read 173 = .ok (.iload_n 3, 1) := by decide +kernel
theorem dX6_read_174 : decode cX6_read 174 = .ok (.iadd, 1) := by decide +kernel
theorem dX6_read_175 : decode cX6_read 175 = .ok (.iconst 3, 1) := by decide +kernel
theorem dX6_read_176 : decode cX6_read 176 = .ok (.iload 7, 2) := by decide +kernel
theorem dX6_read_178 : decode cX6_read 178 = .ok (.imul, 1) := by decide +kernel
theorem dX6_read_179 : decode cX6_read 179 = .ok (.iadd, 1) := by decide +kernel
theorem dX6_read_180 : decode cX6_read 180 = .ok (.istore 8, 2) := by decide +kernel
theorem dX6_read_182 : decode cX6_read 182 = .ok (.aload_n 0, 1) := by decide +kernel
theorem dX6_read_183 : decode cX6_read 183 = .ok (.aload_n 0, 1) := by decide +kernel
theorem dX6_read_184 : decode cX6_read 184 = .ok (.getfield 38, 3) := by decide +kernel
theorem dX6_read_187 : decode cX6_read 187 = .ok (.iload 8, 2) := by decide +kernel
theorem dX6_read_189 : decode cX6_read 189 = .ok (.iaload, 1) := by decide +kernel
theorem dX6_read_190 : decode cX6_read 190 = .ok (.aload_n 0, 1) := by decide +kernel
theorem dX6_read_191 : decode cX6_read 191 = .ok (.getfield 38, 3) := by decide +kernel
theorem dX6_read_194 : decode cX6_read 194 = .ok (.iload 8, 2) := by decide +kernel
theorem dX6_read_196 : decode cX6_read 196 = .ok (.iconst 1, 1) := by decide +kernel
theorem dX6_read_197 : decode cX6_read 197 = .ok (.iadd, 1) := by decide +kernel
theorem dX6_read_198 : decode cX6_read 198 = .ok (.iaload, 1) := by decide +kernel
theorem dX6_read_199 : decode cX6_read 199 = .ok (.aload_n 0, 1) := by decide +kernel
theorem dX6_read_200 : decode cX6_read 200 = .ok (.getfield 38, 3) := by decide +kernel
theorem dX6_read_203 : decode cX6_read 203 = .ok (.iload 8, 2) := by decide +kernel
theorem dX6_read_205 : decode cX6_read 205 = .ok (.iconst 2, 1) := by decide +kernel
theorem dX6_read_206 : decode cX6_read 206 = .ok (.iadd, 1) := by decide +kernel
theorem dX6_read_207 : decode cX6_read 207 = .ok (.iaload, 1) := by decide +kernel
theorem dX6_read_208 : decode cX6_read 208 = .ok (.invokevirtual 315, 3) := by decide +kernel
theorem dX6_read_211 : decode cX6_read 211 = .ok (.ifCond .ge 39, 3) := by decide +kernel
theorem dX6_read_214 : decode cX6_read 214 = .ok (.iconst 0, 1) := by decide +kernel
theorem dX6_read_215 : decode cX6_read 215 = .ok (.istore 9, 2) := by decide +kernel
theorem dX6_read_217 : decode cX6_read 217 = .ok (.iload 9, 2) := by decide +kernel
theorem dX6_read_219 : decode cX6_read 219 = .ok (.bipush 76, 2) := by decide +kernel
theorem dX6_read_221 : decode cX6_read 221 = .ok (.if_icmp .ge 23, 3) := by decide +kernel
theorem dX6_read_224 : decode cX6_read 224 = .ok (.aload_n 0, 1) := by decide +kernel
theorem dX6_read_225 : decode cX6_read 225 = .ok (.getfield 7, 3) := by decide +kernel
theorem dX6_read_228 : decode cX6_read 228 = .ok (.iload 9, 2) := by decide +kernel
theorem dX6_read_230 : decode cX6_read 230 = .ok (.aload_n 0, 1) := by decide +kernel
theorem dX6_read_231 : decode cX6_read 231 = .ok (.getfield 41, 3) := by decide +kernel
theorem dX6_read_234 : decode cX6_read 234 = .ok (.iload 9, 2) := by decide +kernel
theorem dX6_read_236 : decode cX6_read 236 = .ok (.iaload, 1) := by decide +kernel
theorem dX6_read_237 : decode cX6_read 237 = .ok (.iastore, 1) := by decide +kernel
theorem dX6_read_238 : decode cX6_read 238 = .ok (.iinc 9 1, 3) := by decide +kernel
theorem dX6_read_241 : decode cX6_read 241 = .ok (.goto (-24), 3) := by decide +kernel
theorem dX6_read_244 : decode cX6_read 244 = .ok (.bipush (-20), 2) := by decide +kernel
theorem dX6_read_246 : decode cX6_read 246 = .ok (.iload 7, 2) := by decide +kernel
theorem dX6_read_248 : decode cX6_read 248 = .ok (.isub, 1) := by decide +kernel
theorem dX6_read_249 : decode cX6_read 249 = .ok (.ireturn, 1) := by decide +kernel
theorem dX6_read_250 : decode cX6_read 250 = .ok (.iinc 6 1, 3) := by decide +kernel
theorem dX6_read_253 : decode cX6_read 253 = .ok (.iinc 7 1, 3) := by decide +kernel
theorem dX6_read_256 : decode cX6_read 256 = .ok (.goto (-194), 3) := by decide +kernel
theorem dX6_read_259 : decode cX6_read 259 = .ok (.aload_n 0, 1) := by decide +kernel
theorem dX6_read_260 : decode cX6_read 260 = .ok (.iload 5, 2) := by decide +kernel
theorem dX6_read_262 : decode cX6_read 262 = .ok (.putfield 319, 3) := by decide +kernel
theorem dX6_read_265 : decode cX6_read 265 = .ok (.iload 6, 2) := by decide +kernel
theorem dX6_read_267 : decode cX6_read 267 = .ok (.ireturn, 1) := by decide +kernel
theorem dX6_torn_0 : decode cX6_torn 0 = .ok (.aload_n 0, 1) := by decide +kernel
theorem dX6_torn_1 : decode cX6_torn 1 = .ok (.getfield 319, 3) := by decide +kernel
theorem dX6_torn_4 : decode cX6_torn 4 = .ok (.ireturn, 1) := by decide +kernel
theorem dX6_count_0 : decode cX6_count 0 = .ok (.iconst 0, 1) := by decide +kernel
theorem dX6_count_1 : decode cX6_count 1 = .ok (.istore_n 2, 1) := by decide +kernel
theorem dX6_count_2 : decode cX6_count 2 = .ok (.iconst 0, 1) := by decide +kernel
theorem dX6_count_3 : decode cX6_count 3 = .ok (.istore_n 3, 1) := by decide +kernel
theorem dX6_count_4 : decode cX6_count 4 = .ok (.iconst 0, 1) := by decide +kernel
theorem dX6_count_5 : decode cX6_count 5 = .ok (.istore 4, 2) := by decide +kernel
theorem dX6_count_7 : decode cX6_count 7 = .ok (.iload 4, 2) := by decide +kernel
theorem dX6_count_9 : decode cX6_count 9 = .ok (.aload_n 0, 1) := by decide +kernel
theorem dX6_count_10 : decode cX6_count 10 = .ok (.getfield 7, 3) := by decide +kernel
theorem dX6_count_13 : decode cX6_count 13 = .ok (.bipush 53, 2) := by decide +kernel
theorem dX6_count_15 : decode cX6_count 15 = .ok (.iaload, 1) := by decide +kernel
theorem dX6_count_16 : decode cX6_count 16 = .ok (.if_icmp .ge 26, 3) := by decide +kernel
theorem dX6_count_19 : decode cX6_count 19 = .ok (.iload_n 2, 1) := by decide +kernel
theorem dX6_count_20 : decode cX6_count 20 = .ok (.aload_n 0, 1) := by decide +kernel
theorem dX6_count_21 : decode cX6_count 21 = .ok (.getfield 7, 3) := by decide +kernel
theorem dX6_count_24 : decode cX6_count 24 = .ok (.bipush 35, 2) := by decide +kernel
theorem dX6_count_26 : decode cX6_count 26 = .ok (.iconst 3, 1) := by decide +kernel
theorem dX6_count_27 : decode cX6_count 27 = .ok (.iload 4, 2) := by decide +kernel
theorem dX6_count_29 : decode cX6_count 29 = .ok (.imul, 1) := by decide +kernel
theorem dX6_count_30 : decode cX6_count 30 = .ok (.iadd, 1) := by decide +kernel
theorem dX6_count_31 : decode cX6_count 31 = .ok (.iconst 2, 1) := by decide +kernel
theorem dX6_count_32 : decode cX6_count 32 = .ok (.iadd, 1) := by decide +kernel
theorem dX6_count_33 : decode cX6_count 33 = .ok (.iaload, 1) := by decide +kernel
theorem dX6_count_34 : decode cX6_count 34 = .ok (.iadd, 1) := by decide +kernel
theorem dX6_count_35 : decode cX6_count 35 = .ok (.istore_n 2, 1) := by decide +kernel
theorem dX6_count_36 : decode cX6_count 36 = .ok (.iinc 4 1, 3) := by decide +kernel
theorem dX6_count_39 : decode cX6_count 39 = .ok (.goto (-32), 3) := by decide +kernel
theorem dX6_count_42 : decode cX6_count 42 = .ok (.iconst 0, 1) := by decide +kernel
theorem dX6_count_43 : decode cX6_count 43 = .ok (.istore 4, 2) := by decide +kernel
theorem dX6_count_45 : decode cX6_count 45 = .ok (.iload 4, 2) := by decide +kernel
theorem dX6_count_47 : decode cX6_count 47 = .ok (.bipush 25, 2) := by decide +kernel
theorem dX6_count_49 : decode cX6_count 49 = .ok (.if_icmp .ge 22, 3) := by decide +kernel
theorem dX6_count_52 : decode cX6_count 52 = .ok (.iload_n 3, 1) := by decide +kernel
theorem dX6_count_53 : decode cX6_count 53 = .ok (.aload_n 0, 1) := by decide +kernel
theorem dX6_count_54 : decode cX6_count 54 = .ok (.getfield 7, 3) := by decide +kernel
theorem dX6_count_57 : decode cX6_count 57 = .ok (.bipush 10, 2) := by decide +kernel
theorem dX6_count_59 : decode cX6_count 59 = .ok (.iload 4, 2) := by decide +kernel
theorem dX6_count_61 : decode cX6_count 61 = .ok (.iadd, 1) := by decide +kernel
theorem dX6_count_62 : decode cX6_count 62 = .ok (.iaload, 1) := by decide +kernel
theorem dX6_count_63 : decode cX6_count 63 = .ok (.iadd, 1) := by decide +kernel
theorem dX6_count_64 : decode cX6_count 64 = .ok (.istore_n 3, 1) := by decide +kernel
theorem dX6_count_65 : decode cX6_count 65 = .ok (.iinc 4 1, 3) := by decide +kernel
theorem dX6_count_68 : decode cX6_count 68 = .ok (.goto (-23), 3) := by decide +kernel
theorem dX6_count_71 : decode cX6_count 71 = .ok (.iload_n 1, 1) := by decide +kernel
theorem dX6_count_72 : decode cX6_count 72 = .ok (.tableswitch 100 0 5 #[40, 48, 68, 73, 96, 98], 40) := by decide +kernel
theorem dX6_count_112 : decode cX6_count 112 = .ok (.aload_n 0, 1) := by decide +kernel
theorem dX6_count_113 : decode cX6_count 113 = .ok (.getfield 7, 3) := by decide +kernel
theorem dX6_count_116 : decode cX6_count 116 = .ok (.bipush 57, 2) := by decide +kernel
theorem dX6_count_118 : decode cX6_count 118 = .ok (.iaload, 1) := by decide +kernel
theorem dX6_count_119 : decode cX6_count 119 = .ok (.ireturn, 1) := by decide +kernel
theorem dX6_count_120 : decode cX6_count 120 = .ok (.aload_n 0, 1) := by decide +kernel
theorem dX6_count_121 : decode cX6_count 121 = .ok (.getfield 16, 3) := by decide +kernel
theorem dX6_count_124 : decode cX6_count 124 = .ok (.iconst 0, 1) := by decide +kernel
theorem dX6_count_125 : decode cX6_count 125 = .ok (.baload, 1) := by decide +kernel
theorem dX6_count_126 : decode cX6_count 126 = .ok (.invokestatic 200, 3) := by decide +kernel
theorem dX6_count_129 : decode cX6_count 129 = .ok (.aload_n 0, 1) := by decide +kernel
theorem dX6_count_130 : decode cX6_count 130 = .ok (.getfield 16, 3) := by decide +kernel
theorem dX6_count_133 : decode cX6_count 133 = .ok (.iconst 1, 1) := by decide +kernel
theorem dX6_count_134 : decode cX6_count 134 = .ok (.baload, 1) := by decide +kernel
theorem dX6_count_135 : decode cX6_count 135 = .ok (.invokestatic 200, 3) := by decide +kernel
theorem dX6_count_138 : decode cX6_count 138 = .ok (.iadd, 1) := by decide +kernel
theorem dX6_count_139 : decode cX6_count 139 = .ok (.ireturn, 1) := by decide +kernel
theorem dX6_count_140 : decode cX6_count 140 = .ok (.aload_n 0, 1) := by decide +kernel
theorem dX6_count_141 : decode cX6_count 141 = .ok (.getfield 73, 3) := by decide +kernel
theorem dX6_count_144 : decode cX6_count 144 = .ok (.ireturn, 1) := by decide +kernel
theorem dX6_count_145 : decode cX6_count 145 = .ok (.aload_n 0, 1) := by decide +kernel
theorem dX6_count_146 : decode cX6_count 146 = .ok (.getfield 32, 3) := by decide +kernel
theorem dX6_count_149 : decode cX6_count 149 = .ok (.iconst 0, 1) := by decide +kernel
theorem dX6_count_150 : decode cX6_count 150 = .ok (.iaload, 1) := by decide +kernel
theorem dX6_count_151 : decode cX6_count 151 = .ok (.bipush (-4), 2) := by decide +kernel
theorem dX6_count_153 : decode cX6_count 153 = .ok (.if_icmp .ne 8, 3) := by decide +kernel
theorem dX6_count_156 : decode cX6_count 156 = .ok (.bipush (-4), 2) := by decide +kernel
theorem dX6_count_158 : decode cX6_count 158 = .ok (.goto 9, 3) := by decide +kernel
theorem dX6_count_161 : decode cX6_count 161 = .ok (.aload_n 0, 1) := by decide +kernel
theorem dX6_count_162 : decode cX6_count 162 = .ok (.getfield 35, 3) := by decide +kernel
theorem dX6_count_165 : decode cX6_count 165 = .ok (.iconst 0, 1) := by decide +kernel
theorem dX6_count_166 : decode cX6_count 166 = .ok (.iaload, 1) := by decide +kernel
theorem dX6_count_167 : decode cX6_count 167 = .ok (.ireturn, 1) := by decide +kernel
theorem dX6_count_168 : decode cX6_count 168 = .ok (.iload_n 2, 1) := by decide +kernel
theorem dX6_count_169 : decode cX6_count 169 = .ok (.ireturn, 1) := by decide +kernel
theorem dX6_count_170 : decode cX6_count 170 = .ok (.iload_n 3, 1) := by decide +kernel
theorem dX6_count_171 : decode cX6_count 171 = .ok (.ireturn, 1) := by decide +kernel
theorem dX6_count_172 : decode cX6_count 172 = .ok (.iconst (-1), 1) := by decide +kernel
theorem dX6_count_173 : decode cX6_count 173 = .ok (.ireturn, 1) := by decide +kernel
end
section
/-! ===== values, memory, layout ===== -/
/-- what a slot holds: an int, a long, a cell by its place, or nothing that is known -/
abbrev zV : Type := Int ⊕ (Int ⊕ (Nat ⊕ Unit))
abbrev zI (x : Int) : zV := Sum.inl x
abbrev zJ (x : Int) : zV := Sum.inr (Sum.inl x)
abbrev zR (n : Nat) : zV := Sum.inr (Sum.inr (Sum.inl n))
abbrev zU : zV := Sum.inr (Sum.inr (Sum.inr ()))
/-- the numbers of all cells: place, slot -/
abbrev zM : Type := Nat → Int → Int
/-- class numbers, slots, addresses of the places, classes of the arrays -/
abbrev zG : Type := (Nat → ClassId) × (Nat → Nat → Nat) × (Nat → Nat) × (Nat → ClassId)
def zin32 (x : Int) : Prop := -2147483648 ≤ x ∧ x < 2147483648
def zin64 (x : Int) : Prop := -9223372036854775808 ≤ x ∧ x < 9223372036854775808
def zw (x : Int) : Int := (x + 2147483648) % 4294967296 - 2147483648
def zw64 (x : Int) : Int := (x + 9223372036854775808) % 18446744073709551616 - 9223372036854775808
/-- places: (kind, size): a class's number, or 10 int[], 11 byte[], 12 boolean[], 13 Image[], 14 Sheet[] -/
def zLl : List (Nat × Nat) := [(5, 9), (0, 11), (10, 5), (10, 5), (10, 25), (10, 6), (10, 6), (10, 6), (0, 11), (10, 5), (10, 5), (10, 25), (10, 6), (10, 6), (10, 6), (4, 4), (10, 6), (10, 6), (10, 6), (13, 2), (1, 3), (0, 11), (10, 5), (10, 5), (10, 25), (10, 6), (10, 6), (10, 6), (4, 4), (10, 6), (10, 6), (10, 6), (1, 3), (0, 11), (10, 5), (10, 5), (10, 25), (10, 6), (10, 6), (10, 6), (4, 4), (10, 6), (10, 6), (10, 6), (14, 4), (3, 3), (10, 40), (3, 3), (10, 40), (3, 3), (10, 40), (3, 3), (10, 40), (2, 15), (11, 160), (0, 11), (10, 5), (10, 5), (10, 25), (10, 6), (10, 6), (10, 6), (12, 25), (10, 420), (10, 40), (6, 29), (10, 228), (10, 76), (12, 2), (10, 76), (10, 160), (10, 105), (10, 420), (10, 4), (10, 4), (10, 160), (10, 76)]
def zL (o : Nat) : Nat × Nat := zLl.getD o (99, 0)
def zRl : List (List Nat) := [[1, 8, 15, 19, 44, 53, 63, 64, 0], [0, 2, 3, 4, 0, 5, 6, 7, 0, 0, 0], [], [], [], [], [], [], [0, 9, 10, 11, 0, 12, 13, 14, 0, 0, 0], [], [], [], [], [], [], [0, 16, 17, 18], [], [], [], [20, 32], [0, 21, 28], [0, 22, 23, 24, 0, 25, 26, 27, 0, 0, 0], [], [], [], [], [], [], [0, 29, 30, 31], [], [], [], [0, 33, 40], [0, 34, 35, 36, 0, 37, 38, 39, 0, 0, 0], [], [], [], [], [], [], [0, 41, 42, 43], [], [], [], [45, 47, 49, 51], [0, 0, 46], [], [0, 0, 48], [], [0, 0, 50], [], [0, 0, 52], [], [54, 0, 55, 0, 0, 0, 62, 0, 0, 0, 0, 0, 0, 0, 0], [], [0, 56, 57, 58, 0, 59, 60, 61, 0, 0, 0], [], [], [], [], [], [], [], [], [], [66, 67, 68, 0, 69, 0, 0, 0, 0, 70, 0, 0, 0, 0, 0, 0, 0, 0, 0, 0, 0, 0, 71, 72, 73, 74, 75, 0, 76], [], [], [], [], [], [], [], [], [], [], []]
def zRf (o k : Nat) : Nat := (zRl.getD o []).getD k 0
/-- a field's sort: 0 int, 1 long, 2 a cell, 3 boolean -/
def zTl : List (List Nat) := [[0, 2, 2, 2, 0, 2, 2, 2, 0, 0, 0], [3, 2, 2], [2, 0, 2, 0, 0, 0, 2, 3, 0, 0, 0, 0, 0, 0, 0], [0, 0, 2], [0, 2, 2, 2], [2, 2, 2, 2, 2, 2, 2, 2, 0], [2, 2, 2, 0, 2, 0, 3, 0, 0, 2, 0, 0, 0, 0, 0, 0, 0, 0, 0, 1, 1, 1, 2, 2, 2, 2, 2, 0, 2]]
def zT (ci k : Nat) : Nat := (zTl.getD ci []).getD k 0
def zv (G : zG) : zV → Value
  | .inl x => .int (Int32.ofInt x)
  | .inr (.inl x) => .long (Int64.ofInt x)
  | .inr (.inr (.inl n)) => .ref (G.2.2.1 n)
  | .inr (.inr (.inr _)) => .null
def zok : zV → Prop
  | .inl x => zin32 x
  | .inr (.inl x) => zin64 x
  | _ => True
def zokL (l : List zV) : Prop := ∀ v ∈ l, zok v
def zlong (o : Nat) (k : Int) : Prop := ∃ n : Nat, k = (n : Int) ∧ zT (zL o).1 n = 1
def zokM (mem : zM) : Prop := ∀ (o : Nat) (k : Int), (zlong o k → zin64 (mem o k)) ∧ (¬ zlong o k → zin32 (mem o k))
def zF (G : zG) (r : Int → Int) (o ci k : Nat) : Value := match zT ci k with
  | 1 => .long (Int64.ofInt (r k))
  | 2 => .ref (G.2.2.1 (zRf o k))
  | _ => .int (Int32.ofInt (r k))
def zE (G : zG) (r : Int → Int) (o : Nat) : va_E := match (zL o).1 with
  | 10 => .inl (G.2.2.2 0, (zL o).2, .inl (fun k => Int32.ofInt (r k)))
  | 11 => .inl (G.2.2.2 1, (zL o).2, .inl (fun k => Int32.ofInt (r k)))
  | 12 => .inl (G.2.2.2 2, (zL o).2, .inl (fun k => Int32.ofInt (r k)))
  | 13 => .inl (G.2.2.2 3, (zL o).2, .inr (.inr (.inr (.inr (fun k => some (G.2.2.1 (zRf o k)))))))
  | 14 => .inl (G.2.2.2 4, (zL o).2, .inr (.inr (.inr (.inr (fun k => some (G.2.2.1 (zRf o k)))))))
  | ci => .inr (ci, (List.range (zL o).2).map (fun k => zF G r o ci k))
abbrev zN : Nat := 77
def zC (G : zG) (mem : zM) : va_W := (List.range zN).map (fun o => (G.2.2.1 o, zE G (mem o) o))
def zA (G : zG) : Nat → Prop := fun q => ∃ o, o < zN ∧ q = G.2.2.1 o
def zInj (G : zG) : Prop := ∀ i j, i < zN → j < zN → G.2.2.1 i = G.2.2.1 j → i = j
abbrev zTy (G : zG) : List (ClassId × FieldType) := [(G.2.2.2 0, .int), (G.2.2.2 1, .byte), (G.2.2.2 2, .boolean), (G.2.2.2 3, .object "TemperIsles$Image"), (G.2.2.2 4, .object "TemperIsles$Sheet")]
abbrev zD (G : zG) : va_G := (G.1, G.2.1)
def zu (f : Int → Int) (k v : Int) : Int → Int := fun j => if j = k then v else f j
def zr (mem : zM) (o : Nat) (r : Int → Int) : zM := fun o' => if o' = o then r else mem o'
def zs (mem : zM) (o : Nat) (k v : Int) : zM := zr mem o (zu (mem o) k v)
theorem zr_s {mem : zM} {o : Nat} {r : Int → Int} : zr mem o r o = r := if_pos rfl
theorem zr_n {mem : zM} {o o' : Nat} {r : Int → Int} (h : o' ≠ o) : zr mem o r o' = mem o' := if_neg h
theorem zu_s {f : Int → Int} {k v : Int} : zu f k v k = v := if_pos rfl
theorem zu_n {f : Int → Int} {k v j : Int} (h : j ≠ k) : zu f k v j = f j := if_neg h
theorem zC_get {G : zG} {mem : zM} {o : Nat} (h : o < zN) : (zC G mem)[o]? = some (G.2.2.1 o, zE G (mem o) o) := by
  simp [zC, h]
theorem zC_len {G : zG} {mem : zM} : (zC G mem).length = zN := by simp [zC]
theorem zC_set {G : zG} {mem mem' : zM} {o : Nat} {e : va_E} (he : e = zE G (mem' o) o) (hn : ∀ o', o' ≠ o → mem' o' = mem o') : (zC G mem).set o (G.2.2.1 o, e) = zC G mem' := by
  subst he
  apply List.ext_getElem?
  intro i
  by_cases hi : i < zN
  · by_cases h : i = o
    · subst h
      rw [List.getElem?_set_self (by rw [zC_len]; exact hi), zC_get hi]
    · rw [List.getElem?_set_ne (fun q => h q.symm), zC_get hi, zC_get hi, hn i h]
  · rw [List.getElem?_eq_none (by rw [List.length_set, zC_len]; omega), List.getElem?_eq_none (by rw [zC_len]; omega)]
theorem zD_of {G : zG} (h : zInj G) (mem : zM) : va_D (zA G) (zC G mem) := by
  have key : ∀ (i : Nat) (p : Nat × va_E), (zC G mem)[i]? = some p → i < zN ∧ p.1 = G.2.2.1 i := by
    intro i p hp
    have hi : i < zN := by rw [← zC_len (G := G) (mem := mem)]; exact (List.getElem?_eq_some_iff.mp hp).1
    rw [zC_get hi] at hp
    cases hp
    exact ⟨hi, rfl⟩
  refine ⟨fun i j p q hi hj hpq => ?_, fun k q hk => ?_⟩
  · obtain ⟨a1, a2⟩ := key i p hi
    obtain ⟨b1, b2⟩ := key j q hj
    exact h i j a1 b1 (by rw [← a2, ← b2]; exact hpq)
  · obtain ⟨a1, a2⟩ := key k q hk
    exact ⟨k, a1, a2⟩
theorem zL_lt {o ci n : Nat} (h : zL o = (ci, n)) (h9 : ci ≠ 99) : o < zN := by
  have hlen : zLl.length = zN := by decide
  rcases Nat.lt_or_ge o zN with q | q
  · exact q
  · have : zL o = (99, 0) := by
      unfold zL
      rw [List.getD_eq_getElem?_getD, List.getElem?_eq_none (by omega)]
      rfl
    rw [this] at h
    cases h
    exact absurd rfl h9
theorem zE_int {G : zG} {r : Int → Int} {o n : Nat} (h : zL o = (10, n)) : zE G r o = .inl (G.2.2.2 0, n, .inl (fun k => Int32.ofInt (r k))) := by simp only [zE, h]
theorem zE_byte {G : zG} {r : Int → Int} {o n : Nat} (h : zL o = (11, n)) : zE G r o = .inl (G.2.2.2 1, n, .inl (fun k => Int32.ofInt (r k))) := by simp only [zE, h]
theorem zE_bool {G : zG} {r : Int → Int} {o n : Nat} (h : zL o = (12, n)) : zE G r o = .inl (G.2.2.2 2, n, .inl (fun k => Int32.ofInt (r k))) := by simp only [zE, h]
theorem zE_img {G : zG} {r : Int → Int} {o n : Nat} (h : zL o = (13, n)) : zE G r o = .inl (G.2.2.2 3, n, .inr (.inr (.inr (.inr (fun k => some (G.2.2.1 (zRf o k))))))) := by simp only [zE, h]
theorem zE_sht {G : zG} {r : Int → Int} {o n : Nat} (h : zL o = (14, n)) : zE G r o = .inl (G.2.2.2 4, n, .inr (.inr (.inr (.inr (fun k => some (G.2.2.1 (zRf o k))))))) := by simp only [zE, h]
theorem zE_obj {G : zG} {r : Int → Int} {o ci n : Nat} (h : zL o = (ci, n)) (hc : ci < 7) : zE G r o = .inr (ci, (List.range n).map (fun k => zF G r o ci k)) := by
  match ci, hc with
  | 0, _ => simp only [zE, h]
  | 1, _ => simp only [zE, h]
  | 2, _ => simp only [zE, h]
  | 3, _ => simp only [zE, h]
  | 4, _ => simp only [zE, h]
  | 5, _ => simp only [zE, h]
  | 6, _ => simp only [zE, h]
/-! ===== numbers ===== -/
theorem zw_bmod (x : Int) : zw x = x.bmod (2 ^ 32) := by
  rw [Int.bmod_def]
  unfold zw
  split <;> omega
theorem zw64_bmod (x : Int) : zw64 x = x.bmod (2 ^ 64) := by
  rw [Int.bmod_def]
  unfold zw64
  split <;> omega
theorem zw_in (x : Int) : zin32 (zw x) := by unfold zin32 zw; omega
theorem zw64_in (x : Int) : zin64 (zw64 x) := by unfold zin64 zw64; omega
theorem zw_id {x : Int} (h1 : -2147483648 ≤ x) (h2 : x < 2147483648) : zw x = x := by unfold zw; omega
theorem zw64_id {x : Int} (h1 : -9223372036854775808 ≤ x) (h2 : x < 9223372036854775808) : zw64 x = x := by unfold zw64; omega
theorem zw_of {x : Int} (h : zin32 x) : zw x = x := zw_id h.1 h.2
theorem zw64_of {x : Int} (h : zin64 x) : zw64 x = x := zw64_id h.1 h.2
theorem zo_toInt (x : Int) : (Int32.ofInt x).toInt = zw x := by rw [zw_bmod]; exact Int32.toInt_ofInt
theorem zo64_toInt (x : Int) : (Int64.ofInt x).toInt = zw64 x := by rw [zw64_bmod]; exact Int64.toInt_ofInt
theorem zo_w (x : Int) : Int32.ofInt (zw x) = Int32.ofInt x := Int32.toInt_inj.mp (by rw [zo_toInt, zo_toInt, zw_of (zw_in x)])
theorem zo64_w (x : Int) : Int64.ofInt (zw64 x) = Int64.ofInt x := Int64.toInt_inj.mp (by rw [zo64_toInt, zo64_toInt, zw64_of (zw64_in x)])
theorem zo_i (v : Int32) : Int32.ofInt v.toInt = v := Int32.ofInt_toInt v
theorem zo64_i (v : Int64) : Int64.ofInt v.toInt = v := Int64.ofInt_toInt v
theorem zi_in (v : Int32) : zin32 v.toInt := ⟨Int32.le_toInt v, Int32.toInt_lt v⟩
theorem zi64_in (v : Int64) : zin64 v.toInt := ⟨Int64.le_toInt v, Int64.toInt_lt v⟩
theorem zo_add (x y : Int) : Int32.ofInt x + Int32.ofInt y = Int32.ofInt (zw (x + y)) := by rw [zo_w]; exact (Int32.ofInt_add x y).symm
theorem zo_sub (x y : Int) : Int32.ofInt x - Int32.ofInt y = Int32.ofInt (zw (x - y)) := by rw [zo_w]; exact (Int32.ofInt_sub x y).symm
theorem zo_mul (x y : Int) : Int32.ofInt x * Int32.ofInt y = Int32.ofInt (zw (x * y)) := by rw [zo_w]; exact (Int32.ofInt_mul x y).symm
theorem zo_neg (x : Int) : -Int32.ofInt x = Int32.ofInt (zw (-x)) := by rw [zo_w]; exact (Int32.ofInt_neg x).symm
theorem zo64_add (x y : Int) : Int64.ofInt x + Int64.ofInt y = Int64.ofInt (zw64 (x + y)) := by rw [zo64_w]; exact (Int64.ofInt_add x y).symm
theorem zo64_sub (x y : Int) : Int64.ofInt x - Int64.ofInt y = Int64.ofInt (zw64 (x - y)) := by rw [zo64_w]; exact (Int64.ofInt_sub x y).symm
theorem zo64_mul (x y : Int) : Int64.ofInt x * Int64.ofInt y = Int64.ofInt (zw64 (x * y)) := by rw [zo64_w]; exact (Int64.ofInt_mul x y).symm
theorem zo_div {x y : Int} (hx : zin32 x) (hy : zin32 y) : Int32.ofInt x / Int32.ofInt y = Int32.ofInt (zw (x.tdiv y)) := Int32.toInt_inj.mp (by rw [Int32.toInt_div, zo_toInt, zo_toInt, zo_toInt, zw_of hx, zw_of hy, zw_of (zw_in _), zw_bmod])
theorem zo64_div {x y : Int} (hx : zin64 x) (hy : zin64 y) : Int64.ofInt x / Int64.ofInt y = Int64.ofInt (zw64 (x.tdiv y)) := Int64.toInt_inj.mp (by rw [Int64.toInt_div, zo64_toInt, zo64_toInt, zo64_toInt, zw64_of hx, zw64_of hy, zw64_of (zw64_in _), zw64_bmod])
theorem zo_lt {x y : Int} (hx : zin32 x) (hy : zin32 y) : Int32.ofInt x < Int32.ofInt y ↔ x < y := by rw [Int32.lt_iff_toInt_lt, zo_toInt, zo_toInt, zw_of hx, zw_of hy]
theorem zo_le {x y : Int} (hx : zin32 x) (hy : zin32 y) : Int32.ofInt x ≤ Int32.ofInt y ↔ x ≤ y := by rw [Int32.le_iff_toInt_le, zo_toInt, zo_toInt, zw_of hx, zw_of hy]
theorem zo_eq {x y : Int} (hx : zin32 x) (hy : zin32 y) : Int32.ofInt x = Int32.ofInt y ↔ x = y := by rw [← Int32.toInt_inj, zo_toInt, zo_toInt, zw_of hx, zw_of hy]
theorem zo64_lt {x y : Int} (hx : zin64 x) (hy : zin64 y) : Int64.ofInt x < Int64.ofInt y ↔ x < y := by rw [Int64.lt_iff_toInt_lt, zo64_toInt, zo64_toInt, zw64_of hx, zw64_of hy]
theorem zo64_eq {x y : Int} (hx : zin64 x) (hy : zin64 y) : Int64.ofInt x = Int64.ofInt y ↔ x = y := by rw [← Int64.toInt_inj, zo64_toInt, zo64_toInt, zw64_of hx, zw64_of hy]
theorem zin_0 : zin32 0 := by unfold zin32; omega
theorem zin64_0 : zin64 0 := by unfold zin64; omega
theorem zo_nat (n : Nat) : Int32.ofNat n = Int32.ofInt (n : Int) := rfl
theorem zo_clamp {x : Int} (h0 : 0 ≤ x) (h1 : x < 2147483648) : (Int32.ofInt x).toNatClampNeg = x.toNat := by
  show (Int32.ofInt x).toInt.toNat = x.toNat
  rw [zo_toInt, zw_id (by omega) h1]
theorem zo_in {x : Int} {n : Nat} (h0 : 0 ≤ x) (h1 : x < n) (hx : zin32 x) : vp_in (Int32.ofInt x) n := by
  rw [vp_in_iff, zo_toInt, zw_of hx]
  exact ⟨h0, h1⟩
theorem zokL.tl {v : zV} {l : List zV} (h : zokL (v :: l)) : zokL l := fun w hw => h w (List.mem_cons_of_mem _ hw)
theorem zokL.hd {v : zV} {l : List zV} (h : zokL (v :: l)) : zok v := h v List.mem_cons_self
theorem zokL.co {v : zV} {l : List zV} (h : zokL l) (hv : zok v) : zokL (v :: l) := fun w hw => (List.mem_cons.mp hw).elim (fun e => by rw [e]; exact hv) (h w)
theorem zokL.nil : zokL [] := fun w hw => absurd hw List.not_mem_nil
theorem zok_w (x : Int) : zok (zI (zw x)) := zw_in x
theorem zok_w64 (x : Int) : zok (zJ (zw64 x)) := zw64_in x
/-! ===== bits, by the machine's own numbers ===== -/
def zand (x y : Int) : Int := (Int32.ofInt x &&& Int32.ofInt y).toInt
def zor (x y : Int) : Int := (Int32.ofInt x ||| Int32.ofInt y).toInt
def zshl (x y : Int) : Int := (Int32.ofInt x <<< (Int32.ofInt y &&& 31)).toInt
def zshr (x y : Int) : Int := (Int32.ofInt x >>> (Int32.ofInt y &&& 31)).toInt
def zushr (x y : Int) : Int := ((Int32.ofInt x).toUInt32 >>> ((Int32.ofInt y).toUInt32 &&& Int32.toUInt32 31)).toInt32.toInt
def zi2b (x : Int) : Int := (Int32.ofInt x).toInt8.toInt32.toInt
def zi2s (x : Int) : Int := (Int32.ofInt x).toInt16.toInt32.toInt
def zcmp (x y : Int) : Int := if x < y then -1 else if x = y then 0 else 1
end
section
/-! ===== what the tables give, the strings, the judgement ===== -/
def ztb : List Cond := lw_tbl.filter goodWord
def zSl : List Nat := [5, 5, 4, 5, 5, 4, 5]
def zSb : List (List Int32) := [[112, 108, 97, 105, 110], [112, 114, 111, 117, 100], [102, 111, 110, 100], [119, 105, 100, 111, 119], [99, 114, 111, 115, 115], [114, 111, 112, 101], [102, 101, 97, 115, 116]]
def zSk : List Nat := [88, 94, 96, 98, 100, 102, 104]
def zSt : List String := ["plain", "proud", "fond", "widow", "cross", "rope", "feast"]
def zX (G : zG) (U : State) : Prop := vk_S 7 zSl zSb (fun i => G.2.2.1 (zN + i)) (fun i => G.2.2.1 (zN + 7 + i)) (zA G) U U.heap ∧ (∀ i, i < 7 → vk_R RX2 (zSk.getD i 0) (zSt.getD i "") (G.2.2.1 (zN + i)) U) ∧ va_Z "java/lang/String" "COMPACT_STRINGS" "Z" (.int 1) (zA G) U U.heap ∧ va_Nw (.methodLinkNest RX2 162 yX5_isWithin RX5) U
theorem zX.go {G : zG} {s U : State} (h : zX G s) (hk : ∀ q : Nat, q < s.heap.size → ¬ zA G q → U.heap[q]? = s.heap[q]?) (hW : s.WarmedH U.vm) : zX G U :=
  ⟨(h.1.kept hk).moved hW.alike, fun i hi => (h.2.1 i hi).warm hW, (h.2.2.1.kept hk).moved hW.alike, h.2.2.2.warmM hW⟩
/-- the whole world at a state -/
def zWd (G : zG) (mem : zM) (U : State) : Prop := zInj G ∧ zokM mem ∧ va_P (zD G) vwCl (zC G mem) U.heap ∧ va_K (zD G) vwCl (zTy G) U ∧ zX G U
def zCx (R : Room) (kc ks : Nat) (p : Program) (s : State) (m : MethodId) (args : Array Value) (meth : Method) (c : Code) (own : String) (cc : ByteArray) (nL : Nat) (ret : Option FieldType) : Prop :=
  p.tables.exec = Jvm.exec ∧ c.code = cc ∧ c.maxLocals = nL ∧ s.vm.findClass own = some m.cls ∧ (∀ w ∈ ztb, w.before args s = true) ∧ meth.sig.returnType = ret ∧ meth.locks = false ∧ kc ≤ R.cells ∧ ks ≤ R.slots
def zLs (G : zG) (lsA : Array Slot) (nL : Nat) (ls : List zV) : Prop := ls.length = nL ∧ lsA.size = nL ∧ lv_wf lsA ∧ ∀ (i : Nat) (v : zV), ls[i]? = some v → v ≠ zU → lsA[i]? = some (.val (zv G v))
def SW (l : Launch) (G : zG) (R : Room) (own : String) (cc : ByteArray) (nL : Nat) (ret : Option FieldType) (Z : List Frame → Array Value → State → State → Prop) (kc ks : Nat) (Ex : State → Prop) (pc : Nat) (ls st : List zV) (mem : zM) : Prop :=
  ∀ (p : Program) (e : Env) (s : State) (m : MethodId) (args : Array Value) (below : List Frame) (meth : Method) (c : Code) (H : Heap) (locs : List Loc) (lsA : Array Slot), zCx R kc ks p s m args meth c own cc nL ret → Ex s → zX G s → va_K (zD G) vwCl (zTy G) s → zInj G → va_P (zD G) vwCl (zC G mem) H → va_S (zA G) s.heap H locs → zLs G lsA nL ls → zokL ls → zokL st → zokM mem →
    W p l e R s m args below meth c H locs kc ks (Z below args s) (F0 m pc lsA (st.map (zv G)))
def zokO (r : Option zV) : Prop := ∀ v, r = some v → zok v
def zQC (G : zG) (post : Option zV → zM → Prop) : Array Value → State → Outcome → State → Prop := fun _ st oc t => (∃ (r : Option zV) (mem' : zM), oc = .returned (r.map (zv G)) ∧ post r mem' ∧ zokO r ∧ zWd G mem' t) ∧ va_F (zA G) st t
def zPc (G : zG) (As : List zV) (mem : zM) : Array Value → State → Prop := fun v U => v = (As.map (zv G)).toArray ∧ zWd G mem U ∧ zokL As
def zrm (d : Nat) : Room := { frames := d, cells := 0, slots := 0, locals := 100 * d }
abbrev zZ (G : zG) (post : Option zV → zM → Prop) : List Frame → Array Value → State → State → Prop := fun below args s => MQ below (zQC G post) args s 0 0 (zA G)
/-- a method's contract: from the world mem, with As, it ends with post -/
def CT (l : Launch) (G : zG) (y : MethodName) (cc : ByteArray) (nL : Nat) (ret : Option FieldType) (d : Nat) (As : List zV) (mem : zM) (post : Option zV → zM → Prop) : Prop :=
  Met l y (Cond.code y cc nL ret :: ztb) (zrm d) (zPc G As mem) (zQC G post) 0 0 (zA G)
/-- the same, with one answer and one world behind it -/
abbrev CF (l : Launch) (G : zG) (y : MethodName) (cc : ByteArray) (nL : Nat) (ret : Option FieldType) (d : Nat) (As : List zV) (mem : zM) (r : Option zV) (mem' : zM) : Prop :=
  CT l G y cc nL ret d As mem (fun r' m' => r' = r ∧ m' = mem')
/-! ===== locals ===== -/
def zas (G : zG) (ls : List zV) : List (Nat × Value) := ls.zipIdx.filterMap (fun q => match q.1 with
  | .inr (.inr (.inr _)) => none
  | v => some (q.2, zv G v))
theorem zas_mem {G : zG} {ls : List zV} {i : Nat} {v : zV} (h : ls[i]? = some v) (hv : v ≠ zU) : (i, zv G v) ∈ zas G ls := by
  refine List.mem_filterMap.mpr ⟨(v, i), ?_, ?_⟩
  · exact List.mem_zipIdx_iff_getElem?.mpr h
  · match v, hv with
    | .inl x, _ => rfl
    | .inr (.inl x), _ => rfl
    | .inr (.inr (.inl x)), _ => rfl
    | .inr (.inr (.inr ())), hv => exact absurd rfl hv
theorem zas_of {G : zG} {ls : List zV} {q : Nat × Value} (h : q ∈ zas G ls) : ∃ v, ls[q.1]? = some v ∧ v ≠ zU ∧ q.2 = zv G v := by
  obtain ⟨⟨v, i⟩, h1, h2⟩ := List.mem_filterMap.mp h
  have h1 := List.mem_zipIdx_iff_getElem?.mp h1
  match v, h2 with
  | .inl x, h2 => cases h2; exact ⟨_, h1, (fun e => by cases e), rfl⟩
  | .inr (.inl x), h2 => cases h2; exact ⟨_, h1, (fun e => by cases e), rfl⟩
  | .inr (.inr (.inl x)), h2 => cases h2; exact ⟨_, h1, (fun e => by cases e), rfl⟩
theorem zLs.has {G : zG} {lsA : Array Slot} {nL : Nat} {ls : List zV} (h : zLs G lsA nL ls) : lv_has lsA nL (zas G ls) := by
  refine ⟨h.2.1, h.2.2.1, fun q hq => ?_⟩
  obtain ⟨v, h1, h2, h3⟩ := zas_of hq
  rw [h3]
  exact h.2.2.2 q.1 v h1 h2
theorem zLs.at {G : zG} {lsA : Array Slot} {nL : Nat} {ls : List zV} {i : Nat} {v : zV} (h : zLs G lsA nL ls) (hi : ls[i]? = some v) (hv : v ≠ zU) : lsA[i]? = some (.val (zv G v)) := h.2.2.2 i v hi hv
def znl (ls : List zV) (i : Nat) : Bool := match i with
  | 0 => true
  | j + 1 => match ls[j]? with
    | some (.inr (.inl _)) => false
    | _ => true
def zst (ls : List zV) (i : Nat) : Bool := Nat.blt i ls.length && znl ls i
def zst2 (ls : List zV) (i : Nat) : Bool := Nat.blt (i + 1) ls.length && znl ls i
theorem zcat {G : zG} {v : zV} (h : (zv G v).category = 2) : ∃ x, v = zJ x := by
  match v, h with
  | .inl x, h => simp [zv, Value.category] at h
  | .inr (.inl x), _ => exact ⟨x, rfl⟩
  | .inr (.inr (.inl x)), h => simp [zv, Value.category] at h
  | .inr (.inr (.inr ())), h => simp [zv, Value.category] at h
theorem zLs.set1 {G : zG} {lsA : Array Slot} {nL i : Nat} {ls : List zV} {v : zV} (h0 : zLs G lsA nL ls) {ls' : Array Slot} (hs : zst ls i = true) (h : lv_has ls' nL ((i, zv G v) :: (zas G ls).filter (fun q => !(q.1 == i) && !(q.1 + 1 == i && q.2.category == 2)))) : zLs G ls' nL (ls.set i v) := by
  simp only [zst, Bool.and_eq_true] at hs
  refine ⟨by rw [List.length_set]; exact h0.1, h.1, h.2.1, fun j w hj hw => ?_⟩
  have hlt : i < ls.length := Nat.le_of_ble_eq_true hs.1
  by_cases hji : j = i
  · subst hji
    rw [List.getElem?_set_self hlt] at hj
    cases hj
    exact h.2.2 (j, zv G v) List.mem_cons_self
  · rw [List.getElem?_set_ne (fun q => hji q.symm)] at hj
    refine h.2.2 (j, zv G w) (List.mem_cons_of_mem _ (List.mem_filter.mpr ⟨zas_mem hj hw, ?_⟩))
    simp only [Bool.and_eq_true, Bool.not_eq_true', beq_eq_false_iff_ne, ne_eq, Bool.and_eq_false_iff]
    refine ⟨hji, ?_⟩
    by_cases h2 : j + 1 = i
    · refine Or.inr (fun hc => ?_)
      obtain ⟨x, rfl⟩ := zcat hc
      have := hs.2
      rw [← h2] at this
      simp only [znl, hj] at this
      cases this
    · exact Or.inl h2
theorem zLs.set2 {G : zG} {lsA : Array Slot} {nL i : Nat} {ls : List zV} {v : zV} (h0 : zLs G lsA nL ls) {ls' : Array Slot} (hs : zst2 ls i = true) (h : lv_has ls' nL ((i, zv G v) :: (zas G ls).filter (fun q => !(q.1 == i) && (!(q.1 == i + 1) && !(q.1 + 1 == i && q.2.category == 2))))) : zLs G ls' nL ((ls.set i v).set (i + 1) zU) := by
  simp only [zst2, Bool.and_eq_true] at hs
  refine ⟨by rw [List.length_set, List.length_set]; exact h0.1, h.1, h.2.1, fun j w hj hw => ?_⟩
  have hlt : i + 1 < ls.length := Nat.le_of_ble_eq_true hs.1
  by_cases hj1 : j = i + 1
  · subst hj1
    rw [List.getElem?_set_self (by rw [List.length_set]; exact hlt)] at hj
    cases hj
    exact absurd rfl hw
  rw [List.getElem?_set_ne (fun q => hj1 q.symm)] at hj
  by_cases hji : j = i
  · subst hji
    rw [List.getElem?_set_self (by omega)] at hj
    cases hj
    exact h.2.2 (j, zv G v) List.mem_cons_self
  · rw [List.getElem?_set_ne (fun q => hji q.symm)] at hj
    refine h.2.2 (j, zv G w) (List.mem_cons_of_mem _ (List.mem_filter.mpr ⟨zas_mem hj hw, ?_⟩))
    simp only [Bool.and_eq_true, Bool.not_eq_true', beq_eq_false_iff_ne, ne_eq, Bool.and_eq_false_iff]
    refine ⟨hji, hj1, ?_⟩
    by_cases h2 : j + 1 = i
    · refine Or.inr (fun hc => ?_)
      obtain ⟨x, rfl⟩ := zcat hc
      have := hs.2
      rw [← h2] at this
      simp only [znl, hj] at this
      cases this
    · exact Or.inl h2
theorem zokL.set {ls : List zV} {i : Nat} {v : zV} (h : zokL ls) (hv : zok v) : zokL (ls.set i v) := fun w hw => (List.mem_or_eq_of_mem_set hw).elim (h w) (fun e => by rw [e]; exact hv)
theorem zokL.get {ls : List zV} {i : Nat} {v : zV} (h : zokL ls) (hi : ls[i]? = some v) : zok v := h v (List.mem_of_getElem? hi)
theorem zst_lt {ls : List zV} {i : Nat} (h : zst ls i = true) : i < ls.length := by
  simp only [zst, Bool.and_eq_true] at h
  exact Nat.le_of_ble_eq_true h.1
theorem zst2_lt {ls : List zV} {i : Nat} (h : zst2 ls i = true) : i + 1 < ls.length := by
  simp only [zst2, Bool.and_eq_true] at h
  exact Nat.le_of_ble_eq_true h.1
/-! ===== rows ===== -/
section
variable {l : Launch} {G : zG} {R : Room} {own : String} {cc : ByteArray} {nL : Nat} {ret : Option FieldType} {Z : List Frame → Array Value → State → State → Prop} {kc ks : Nat} {Ex : State → Prop} {pc : Nat} {ls st : List zV} {mem : zM}
theorem r_iconst {n : Int} (hd : decode cc pc = .ok (.iconst n, 1)) (hn : zin32 n := by unfold zin32; decide) (k : SW l G R own cc nL ret Z kc ks Ex (pc + 1) ls (zI n :: st) mem) : SW l G R own cc nL ret Z kc ks Ex pc ls st mem := by
  intro p e s m args below meth c H locs lsA C hE hX hK hI hP hS hL ol os om
  exact lv_iconst C.1 C.2.1 hd rfl (k p e s m args below meth c H locs lsA C hE hX hK hI hP hS hL ol (os.co hn) om)
theorem r_bipush {n : Int} (hd : decode cc pc = .ok (.bipush n, 2)) (hn : (Int8.ofInt n).toInt32 = Int32.ofInt n := by decide) (hi : zin32 n := by unfold zin32; decide) (k : SW l G R own cc nL ret Z kc ks Ex (pc + 2) ls (zI n :: st) mem) : SW l G R own cc nL ret Z kc ks Ex pc ls st mem := by
  intro p e s m args below meth c H locs lsA C hE hX hK hI hP hS hL ol os om
  exact lv_bipush C.1 C.2.1 hd hn (k p e s m args below meth c H locs lsA C hE hX hK hI hP hS hL ol (os.co hi) om)
theorem r_sipush {n : Int} (hd : decode cc pc = .ok (.sipush n, 3)) (hn : (Int16.ofInt n).toInt32 = Int32.ofInt n := by decide) (hi : zin32 n := by unfold zin32; decide) (k : SW l G R own cc nL ret Z kc ks Ex (pc + 3) ls (zI n :: st) mem) : SW l G R own cc nL ret Z kc ks Ex pc ls st mem := by
  intro p e s m args below meth c H locs lsA C hE hX hK hI hP hS hL ol os om
  exact lv_sipush C.1 C.2.1 hd hn (k p e s m args below meth c H locs lsA C hE hX hK hI hP hS hL ol (os.co hi) om)
theorem r_lconst {n : Fin 2} (hd : decode cc pc = .ok (.lconst n, 1)) {x : Int} (hx : ((n : Nat) : Int) = x) (hi : zin64 x := by unfold zin64; decide) (k : SW l G R own cc nL ret Z kc ks Ex (pc + 1) ls (zJ x :: st) mem) : SW l G R own cc nL ret Z kc ks Ex pc ls st mem := by
  intro p e s m args below meth c H locs lsA C hE hX hK hI hP hS hL ol os om
  subst hx
  exact lv_lconst C.1 C.2.1 hd rfl (k p e s m args below meth c H locs lsA C hE hX hK hI hP hS hL ol (os.co hi) om)
theorem r_ldc {i : Nat} {v : Int32} (hw : Cond.constant own i v ∈ ztb) (hd : decode cc pc = .ok (.ldc i, 2)) {x : Int} (hx : v = Int32.ofInt x := by decide) (hi : zin32 x := by unfold zin32; decide) (k : SW l G R own cc nL ret Z kc ks Ex (pc + 2) ls (zI x :: st) mem) : SW l G R own cc nL ret Z kc ks Ex pc ls st mem := by
  intro p e s m args below meth c H locs lsA C hE hX hK hI hP hS hL ol os om
  subst hx
  exact lv_ldc C.1 C.2.1 C.2.2.2.1 (C.2.2.2.2.1 _ hw) hd (k p e s m args below meth c H locs lsA C hE hX hK hI hP hS hL ol (os.co hi) om)
theorem r_ldcw {i : Nat} {v : Int32} (hw : Cond.constant own i v ∈ ztb) (hd : decode cc pc = .ok (.ldc_w i, 3)) {x : Int} (hx : v = Int32.ofInt x := by decide) (hi : zin32 x := by unfold zin32; decide) (k : SW l G R own cc nL ret Z kc ks Ex (pc + 3) ls (zI x :: st) mem) : SW l G R own cc nL ret Z kc ks Ex pc ls st mem := by
  intro p e s m args below meth c H locs lsA C hE hX hK hI hP hS hL ol os om
  subst hx
  exact lv_ldcw C.1 C.2.1 C.2.2.2.1 (C.2.2.2.2.1 _ hw) hd (k p e s m args below meth c H locs lsA C hE hX hK hI hP hS hL ol (os.co hi) om)
theorem r_ldc2 {i : Nat} {v : Int64} (hw : Cond.constantLong own i v ∈ ztb) (hd : decode cc pc = .ok (.ldc2_w i, 3)) {x : Int} (hx : v = Int64.ofInt x := by decide) (hi : zin64 x := by unfold zin64; decide) (k : SW l G R own cc nL ret Z kc ks Ex (pc + 3) ls (zJ x :: st) mem) : SW l G R own cc nL ret Z kc ks Ex pc ls st mem := by
  intro p e s m args below meth c H locs lsA C hE hX hK hI hP hS hL ol os om
  subst hx
  exact lv_ldc2 C.1 C.2.1 C.2.2.2.1 (C.2.2.2.2.1 _ hw) hd (k p e s m args below meth c H locs lsA C hE hX hK hI hP hS hL ol (os.co hi) om)
theorem r_iload_n {j : Fin 4} {x : Int} (hd : decode cc pc = .ok (.iload_n j, 1)) (hl : ls[(j : Nat)]? = some (zI x)) (k : SW l G R own cc nL ret Z kc ks Ex (pc + 1) ls (zI x :: st) mem) : SW l G R own cc nL ret Z kc ks Ex pc ls st mem := by
  intro p e s m args below meth c H locs lsA C hE hX hK hI hP hS hL ol os om
  exact lv_iload_n C.1 C.2.1 hd rfl (hL.at hl (fun e => by cases e)) (k p e s m args below meth c H locs lsA C hE hX hK hI hP hS hL ol (os.co (ol.get hl)) om)
theorem r_iload {j : Nat} {x : Int} (hd : decode cc pc = .ok (.iload j, 2)) (hl : ls[j]? = some (zI x)) (k : SW l G R own cc nL ret Z kc ks Ex (pc + 2) ls (zI x :: st) mem) : SW l G R own cc nL ret Z kc ks Ex pc ls st mem := by
  intro p e s m args below meth c H locs lsA C hE hX hK hI hP hS hL ol os om
  exact lv_iload C.1 C.2.1 hd (hL.at hl (fun e => by cases e)) (k p e s m args below meth c H locs lsA C hE hX hK hI hP hS hL ol (os.co (ol.get hl)) om)
theorem r_lload_n {j : Fin 4} {x : Int} (hd : decode cc pc = .ok (.lload_n j, 1)) (hl : ls[(j : Nat)]? = some (zJ x)) (k : SW l G R own cc nL ret Z kc ks Ex (pc + 1) ls (zJ x :: st) mem) : SW l G R own cc nL ret Z kc ks Ex pc ls st mem := by
  intro p e s m args below meth c H locs lsA C hE hX hK hI hP hS hL ol os om
  exact lv_lload_n C.1 C.2.1 hd rfl (hL.at hl (fun e => by cases e)) (k p e s m args below meth c H locs lsA C hE hX hK hI hP hS hL ol (os.co (ol.get hl)) om)
theorem r_lload {j : Nat} {x : Int} (hd : decode cc pc = .ok (.lload j, 2)) (hl : ls[j]? = some (zJ x)) (k : SW l G R own cc nL ret Z kc ks Ex (pc + 2) ls (zJ x :: st) mem) : SW l G R own cc nL ret Z kc ks Ex pc ls st mem := by
  intro p e s m args below meth c H locs lsA C hE hX hK hI hP hS hL ol os om
  exact lv_lload C.1 C.2.1 hd (hL.at hl (fun e => by cases e)) (k p e s m args below meth c H locs lsA C hE hX hK hI hP hS hL ol (os.co (ol.get hl)) om)
theorem r_aload_n {j : Fin 4} {x : Nat} (hd : decode cc pc = .ok (.aload_n j, 1)) (hl : ls[(j : Nat)]? = some (zR x)) (k : SW l G R own cc nL ret Z kc ks Ex (pc + 1) ls (zR x :: st) mem) : SW l G R own cc nL ret Z kc ks Ex pc ls st mem := by
  intro p e s m args below meth c H locs lsA C hE hX hK hI hP hS hL ol os om
  exact lv_aload_n C.1 C.2.1 hd rfl (hL.at hl (fun e => by cases e)) (k p e s m args below meth c H locs lsA C hE hX hK hI hP hS hL ol (os.co (ol.get hl)) om)
theorem r_aload {j : Nat} {x : Nat} (hd : decode cc pc = .ok (.aload j, 2)) (hl : ls[j]? = some (zR x)) (k : SW l G R own cc nL ret Z kc ks Ex (pc + 2) ls (zR x :: st) mem) : SW l G R own cc nL ret Z kc ks Ex pc ls st mem := by
  intro p e s m args below meth c H locs lsA C hE hX hK hI hP hS hL ol os om
  exact lv_aload C.1 C.2.1 hd (hL.at hl (fun e => by cases e)) (k p e s m args below meth c H locs lsA C hE hX hK hI hP hS hL ol (os.co (ol.get hl)) om)
theorem r_istore_n {j : Fin 4} {x : Int} (hd : decode cc pc = .ok (.istore_n j, 1)) (hs : zst ls (j : Nat) = true) (k : SW l G R own cc nL ret Z kc ks Ex (pc + 1) (ls.set (j : Nat) (zI x)) st mem) : SW l G R own cc nL ret Z kc ks Ex pc ls (zI x :: st) mem := by
  intro p e s m args below meth c H locs lsA C hE hX hK hI hP hS hL ol os om
  exact lv_istore_n C.1 C.2.1 hd rfl hL.has (by rw [← hL.1]; exact zst_lt hs) rfl (fun ls9 h9 => k p e s m args below meth c H locs ls9 C hE hX hK hI hP hS (hL.set1 hs h9) (ol.set os.hd) os.tl om)
theorem r_istore {j : Nat} {x : Int} (hd : decode cc pc = .ok (.istore j, 2)) (hs : zst ls j = true) (k : SW l G R own cc nL ret Z kc ks Ex (pc + 2) (ls.set j (zI x)) st mem) : SW l G R own cc nL ret Z kc ks Ex pc ls (zI x :: st) mem := by
  intro p e s m args below meth c H locs lsA C hE hX hK hI hP hS hL ol os om
  exact lv_istore C.1 C.2.1 hd hL.has (by rw [← hL.1]; exact zst_lt hs) rfl (fun ls9 h9 => k p e s m args below meth c H locs ls9 C hE hX hK hI hP hS (hL.set1 hs h9) (ol.set os.hd) os.tl om)
theorem r_astore_n {j : Fin 4} {x : Nat} (hd : decode cc pc = .ok (.astore_n j, 1)) (hs : zst ls (j : Nat) = true) (k : SW l G R own cc nL ret Z kc ks Ex (pc + 1) (ls.set (j : Nat) (zR x)) st mem) : SW l G R own cc nL ret Z kc ks Ex pc ls (zR x :: st) mem := by
  intro p e s m args below meth c H locs lsA C hE hX hK hI hP hS hL ol os om
  exact lv_astore_n C.1 C.2.1 hd rfl hL.has (by rw [← hL.1]; exact zst_lt hs) rfl (fun ls9 h9 => k p e s m args below meth c H locs ls9 C hE hX hK hI hP hS (hL.set1 hs h9) (ol.set os.hd) os.tl om)
theorem r_astore {j : Nat} {x : Nat} (hd : decode cc pc = .ok (.astore j, 2)) (hs : zst ls j = true) (k : SW l G R own cc nL ret Z kc ks Ex (pc + 2) (ls.set j (zR x)) st mem) : SW l G R own cc nL ret Z kc ks Ex pc ls (zR x :: st) mem := by
  intro p e s m args below meth c H locs lsA C hE hX hK hI hP hS hL ol os om
  exact lv_astore C.1 C.2.1 hd hL.has (by rw [← hL.1]; exact zst_lt hs) rfl (fun ls9 h9 => k p e s m args below meth c H locs ls9 C hE hX hK hI hP hS (hL.set1 hs h9) (ol.set os.hd) os.tl om)
theorem r_lstore_n {j : Fin 4} {x : Int} (hd : decode cc pc = .ok (.lstore_n j, 1)) (hs : zst2 ls (j : Nat) = true) (k : SW l G R own cc nL ret Z kc ks Ex (pc + 1) ((ls.set (j : Nat) (zJ x)).set ((j : Nat) + 1) zU) st mem) : SW l G R own cc nL ret Z kc ks Ex pc ls (zJ x :: st) mem := by
  intro p e s m args below meth c H locs lsA C hE hX hK hI hP hS hL ol os om
  exact lv_lstore_n C.1 C.2.1 hd rfl hL.has (by rw [← hL.1]; exact zst2_lt hs) rfl (fun ls9 h9 => k p e s m args below meth c H locs ls9 C hE hX hK hI hP hS (hL.set2 hs h9) ((ol.set os.hd).set trivial) os.tl om)
theorem r_lstore {j : Nat} {x : Int} (hd : decode cc pc = .ok (.lstore j, 2)) (hs : zst2 ls j = true) (k : SW l G R own cc nL ret Z kc ks Ex (pc + 2) ((ls.set j (zJ x)).set (j + 1) zU) st mem) : SW l G R own cc nL ret Z kc ks Ex pc ls (zJ x :: st) mem := by
  intro p e s m args below meth c H locs lsA C hE hX hK hI hP hS hL ol os om
  exact lv_lstore C.1 C.2.1 hd hL.has (by rw [← hL.1]; exact zst2_lt hs) rfl (fun ls9 h9 => k p e s m args below meth c H locs ls9 C hE hX hK hI hP hS (hL.set2 hs h9) ((ol.set os.hd).set trivial) os.tl om)
theorem r_iinc {j : Nat} {n x : Int} (hd : decode cc pc = .ok (.iinc j n, 3)) (hl : ls[j]? = some (zI x)) (hs : zst ls j = true) (k : SW l G R own cc nL ret Z kc ks Ex (pc + 3) (ls.set j (zI (zw (x + n)))) st mem) : SW l G R own cc nL ret Z kc ks Ex pc ls st mem := by
  intro p e s m args below meth c H locs lsA C hE hX hK hI hP hS hL ol os om
  obtain ⟨q, hq⟩ := List.getElem?_of_mem (zas_mem (G := G) hl (fun e => by cases e))
  exact lv_iinc (v := Int32.ofInt (zw (x + n))) C.1 C.2.1 hd hL.has hq (zo_add x n) (by rw [← hL.1]; exact zst_lt hs) rfl (fun ls9 h9 => k p e s m args below meth c H locs ls9 C hE hX hK hI hP hS (hL.set1 (v := zI (zw (x + n))) hs h9) (ol.set (zok_w _)) os om)
theorem r_iadd {x y : Int} (hd : decode cc pc = .ok (.iadd, 1)) (k : SW l G R own cc nL ret Z kc ks Ex (pc + 1) ls (zI (zw (x + y)) :: st) mem) : SW l G R own cc nL ret Z kc ks Ex pc ls (zI y :: zI x :: st) mem := by
  intro p e s m args below meth c H locs lsA C hE hX hK hI hP hS hL ol os om
  have k9 := k p e s m args below meth c H locs lsA C hE hX hK hI hP hS hL ol (os.tl.tl.co (zok_w _)) om
  refine lv_iadd C.1 C.2.1 hd ?_
  rw [zo_add x y]
  exact k9
theorem r_isub {x y : Int} (hd : decode cc pc = .ok (.isub, 1)) (k : SW l G R own cc nL ret Z kc ks Ex (pc + 1) ls (zI (zw (x - y)) :: st) mem) : SW l G R own cc nL ret Z kc ks Ex pc ls (zI y :: zI x :: st) mem := by
  intro p e s m args below meth c H locs lsA C hE hX hK hI hP hS hL ol os om
  have k9 := k p e s m args below meth c H locs lsA C hE hX hK hI hP hS hL ol (os.tl.tl.co (zok_w _)) om
  refine lv_isub C.1 C.2.1 hd ?_
  rw [zo_sub x y]
  exact k9
theorem r_imul {x y : Int} (hd : decode cc pc = .ok (.imul, 1)) (k : SW l G R own cc nL ret Z kc ks Ex (pc + 1) ls (zI (zw (x * y)) :: st) mem) : SW l G R own cc nL ret Z kc ks Ex pc ls (zI y :: zI x :: st) mem := by
  intro p e s m args below meth c H locs lsA C hE hX hK hI hP hS hL ol os om
  have k9 := k p e s m args below meth c H locs lsA C hE hX hK hI hP hS hL ol (os.tl.tl.co (zok_w _)) om
  refine lv_imul C.1 C.2.1 hd ?_
  rw [zo_mul x y]
  exact k9
theorem r_ladd {x y : Int} (hd : decode cc pc = .ok (.ladd, 1)) (k : SW l G R own cc nL ret Z kc ks Ex (pc + 1) ls (zJ (zw64 (x + y)) :: st) mem) : SW l G R own cc nL ret Z kc ks Ex pc ls (zJ y :: zJ x :: st) mem := by
  intro p e s m args below meth c H locs lsA C hE hX hK hI hP hS hL ol os om
  have k9 := k p e s m args below meth c H locs lsA C hE hX hK hI hP hS hL ol (os.tl.tl.co (zok_w64 _)) om
  refine lv_ladd C.1 C.2.1 hd ?_
  rw [zo64_add x y]
  exact k9
theorem r_lmul {x y : Int} (hd : decode cc pc = .ok (.lmul, 1)) (k : SW l G R own cc nL ret Z kc ks Ex (pc + 1) ls (zJ (zw64 (x * y)) :: st) mem) : SW l G R own cc nL ret Z kc ks Ex pc ls (zJ y :: zJ x :: st) mem := by
  intro p e s m args below meth c H locs lsA C hE hX hK hI hP hS hL ol os om
  have k9 := k p e s m args below meth c H locs lsA C hE hX hK hI hP hS hL ol (os.tl.tl.co (zok_w64 _)) om
  refine lv_lmul C.1 C.2.1 hd ?_
  rw [zo64_mul x y]
  exact k9
theorem r_ineg {x : Int} (hd : decode cc pc = .ok (.ineg, 1)) (k : SW l G R own cc nL ret Z kc ks Ex (pc + 1) ls (zI (zw (-x)) :: st) mem) : SW l G R own cc nL ret Z kc ks Ex pc ls (zI x :: st) mem := by
  intro p e s m args below meth c H locs lsA C hE hX hK hI hP hS hL ol os om
  have k9 := k p e s m args below meth c H locs lsA C hE hX hK hI hP hS hL ol (os.tl.co (zok_w _)) om
  refine lv_ineg C.1 C.2.1 hd ?_
  rw [zo_neg x]
  exact k9
theorem r_idiv {x y : Int} (hd : decode cc pc = .ok (.idiv, 1)) (h0 : y ≠ 0) (k : SW l G R own cc nL ret Z kc ks Ex (pc + 1) ls (zI (zw (x.tdiv y)) :: st) mem) : SW l G R own cc nL ret Z kc ks Ex pc ls (zI y :: zI x :: st) mem := by
  intro p e s m args below meth c H locs lsA C hE hX hK hI hP hS hL ol os om
  have k9 := k p e s m args below meth c H locs lsA C hE hX hK hI hP hS hL ol (os.tl.tl.co (zok_w _)) om
  refine lv_idiv C.1 C.2.1 hd (fun q => h0 ((zo_eq os.hd zin_0).mp q)) ?_
  rw [zo_div os.tl.hd os.hd]
  exact k9
theorem r_irem {x y : Int} (hd : decode cc pc = .ok (.irem, 1)) (h0 : y ≠ 0) (k : SW l G R own cc nL ret Z kc ks Ex (pc + 1) ls (zI (zw (x.tmod y)) :: st) mem) : SW l G R own cc nL ret Z kc ks Ex pc ls (zI y :: zI x :: st) mem := by
  intro p e s m args below meth c H locs lsA C hE hX hK hI hP hS hL ol os om
  have k9 := k p e s m args below meth c H locs lsA C hE hX hK hI hP hS hL ol (os.tl.tl.co (zok_w _)) om
  refine lv_irem C.1 C.2.1 hd (fun q => h0 ((zo_eq os.hd zin_0).mp q)) ?_
  have e9 : Int32.ofInt x - Int32.ofInt x / Int32.ofInt y * Int32.ofInt y = Int32.ofInt (zw (x.tmod y)) := by
    rw [zo_div os.tl.hd os.hd, zo_w, ← Int32.ofInt_mul, ← Int32.ofInt_sub, zo_w, Int.tmod_def, Int.mul_comm]
  rw [e9]
  exact k9
theorem r_ldiv {x y : Int} (hd : decode cc pc = .ok (.ldiv, 1)) (h0 : y ≠ 0) (k : SW l G R own cc nL ret Z kc ks Ex (pc + 1) ls (zJ (zw64 (x.tdiv y)) :: st) mem) : SW l G R own cc nL ret Z kc ks Ex pc ls (zJ y :: zJ x :: st) mem := by
  intro p e s m args below meth c H locs lsA C hE hX hK hI hP hS hL ol os om
  have k9 := k p e s m args below meth c H locs lsA C hE hX hK hI hP hS hL ol (os.tl.tl.co (zok_w64 _)) om
  refine lv_ldiv C.1 C.2.1 hd (fun q => h0 ((zo64_eq os.hd zin64_0).mp q)) ?_
  rw [zo64_div os.tl.hd os.hd]
  exact k9
theorem r_lrem {x y : Int} (hd : decode cc pc = .ok (.lrem, 1)) (h0 : y ≠ 0) (k : SW l G R own cc nL ret Z kc ks Ex (pc + 1) ls (zJ (zw64 (x.tmod y)) :: st) mem) : SW l G R own cc nL ret Z kc ks Ex pc ls (zJ y :: zJ x :: st) mem := by
  intro p e s m args below meth c H locs lsA C hE hX hK hI hP hS hL ol os om
  have k9 := k p e s m args below meth c H locs lsA C hE hX hK hI hP hS hL ol (os.tl.tl.co (zok_w64 _)) om
  refine lv_lrem C.1 C.2.1 hd (fun q => h0 ((zo64_eq os.hd zin64_0).mp q)) ?_
  have e9 : Int64.ofInt x - Int64.ofInt x / Int64.ofInt y * Int64.ofInt y = Int64.ofInt (zw64 (x.tmod y)) := by
    rw [zo64_div os.tl.hd os.hd, zo64_w, ← Int64.ofInt_mul, ← Int64.ofInt_sub, zo64_w, Int.tmod_def, Int.mul_comm]
  rw [e9]
  exact k9
theorem r_iand {x y : Int} (hd : decode cc pc = .ok (.iand, 1)) (k : SW l G R own cc nL ret Z kc ks Ex (pc + 1) ls (zI (zand x y) :: st) mem) : SW l G R own cc nL ret Z kc ks Ex pc ls (zI y :: zI x :: st) mem := by
  intro p e s m args below meth c H locs lsA C hE hX hK hI hP hS hL ol os om
  have k9 := k p e s m args below meth c H locs lsA C hE hX hK hI hP hS hL ol (os.tl.tl.co (zi_in _)) om
  refine lv_iand C.1 C.2.1 hd ?_
  simp only [zand, List.map_cons, zv, zo_i] at k9
  exact k9
theorem r_ior {x y : Int} (hd : decode cc pc = .ok (.ior, 1)) (k : SW l G R own cc nL ret Z kc ks Ex (pc + 1) ls (zI (zor x y) :: st) mem) : SW l G R own cc nL ret Z kc ks Ex pc ls (zI y :: zI x :: st) mem := by
  intro p e s m args below meth c H locs lsA C hE hX hK hI hP hS hL ol os om
  have k9 := k p e s m args below meth c H locs lsA C hE hX hK hI hP hS hL ol (os.tl.tl.co (zi_in _)) om
  refine lv_ior C.1 C.2.1 hd ?_
  simp only [zor, List.map_cons, zv, zo_i] at k9
  exact k9
theorem r_ishl {x y : Int} (hd : decode cc pc = .ok (.ishl, 1)) (k : SW l G R own cc nL ret Z kc ks Ex (pc + 1) ls (zI (zshl x y) :: st) mem) : SW l G R own cc nL ret Z kc ks Ex pc ls (zI y :: zI x :: st) mem := by
  intro p e s m args below meth c H locs lsA C hE hX hK hI hP hS hL ol os om
  have k9 := k p e s m args below meth c H locs lsA C hE hX hK hI hP hS hL ol (os.tl.tl.co (zi_in _)) om
  refine lv_ishl C.1 C.2.1 hd ?_
  simp only [zshl, List.map_cons, zv, zo_i] at k9
  exact k9
theorem r_ishr {x y : Int} (hd : decode cc pc = .ok (.ishr, 1)) (k : SW l G R own cc nL ret Z kc ks Ex (pc + 1) ls (zI (zshr x y) :: st) mem) : SW l G R own cc nL ret Z kc ks Ex pc ls (zI y :: zI x :: st) mem := by
  intro p e s m args below meth c H locs lsA C hE hX hK hI hP hS hL ol os om
  have k9 := k p e s m args below meth c H locs lsA C hE hX hK hI hP hS hL ol (os.tl.tl.co (zi_in _)) om
  refine lv_ishr C.1 C.2.1 hd ?_
  simp only [zshr, List.map_cons, zv, zo_i] at k9
  exact k9
theorem r_iushr {x y : Int} (hd : decode cc pc = .ok (.iushr, 1)) (k : SW l G R own cc nL ret Z kc ks Ex (pc + 1) ls (zI (zushr x y) :: st) mem) : SW l G R own cc nL ret Z kc ks Ex pc ls (zI y :: zI x :: st) mem := by
  intro p e s m args below meth c H locs lsA C hE hX hK hI hP hS hL ol os om
  have k9 := k p e s m args below meth c H locs lsA C hE hX hK hI hP hS hL ol (os.tl.tl.co (zi_in _)) om
  refine lv_iushr C.1 C.2.1 hd rfl ?_
  simp only [zushr, List.map_cons, zv, zo_i] at k9
  exact k9
theorem r_i2b {x : Int} (hd : decode cc pc = .ok (.i2b, 1)) (k : SW l G R own cc nL ret Z kc ks Ex (pc + 1) ls (zI (zi2b x) :: st) mem) : SW l G R own cc nL ret Z kc ks Ex pc ls (zI x :: st) mem := by
  intro p e s m args below meth c H locs lsA C hE hX hK hI hP hS hL ol os om
  have k9 := k p e s m args below meth c H locs lsA C hE hX hK hI hP hS hL ol (os.tl.co (zi_in _)) om
  refine lv_i2b C.1 C.2.1 hd rfl ?_
  simp only [zi2b, List.map_cons, zv, zo_i] at k9
  exact k9
theorem r_i2s {x : Int} (hd : decode cc pc = .ok (.i2s, 1)) (k : SW l G R own cc nL ret Z kc ks Ex (pc + 1) ls (zI (zi2s x) :: st) mem) : SW l G R own cc nL ret Z kc ks Ex pc ls (zI x :: st) mem := by
  intro p e s m args below meth c H locs lsA C hE hX hK hI hP hS hL ol os om
  have k9 := k p e s m args below meth c H locs lsA C hE hX hK hI hP hS hL ol (os.tl.co (zi_in _)) om
  refine lv_i2s C.1 C.2.1 hd rfl ?_
  simp only [zi2s, List.map_cons, zv, zo_i] at k9
  exact k9
theorem zin3264 {x : Int} (h : zin32 x) : zin64 x := ⟨by have := h.1; omega, by have := h.2; omega⟩
theorem zo_l {x : Int} (h : zin32 x) : (Int32.ofInt x).toInt64 = Int64.ofInt x := Int64.toInt_inj.mp (by rw [Int32.toInt_toInt64, zo_toInt, zw_of h, zo64_toInt, zw64_of (zin3264 h)])
theorem zo_cmp {x y : Int} (hx : zin64 x) (hy : zin64 y) : lg_cmp (Int64.ofInt x) (Int64.ofInt y) = Int32.ofInt (zcmp x y) := by
  unfold lg_cmp zcmp
  have h1 := zo64_lt hy hx
  have h2 := zo64_eq hx hy
  by_cases a : x < y
  · rw [if_pos a, if_neg (fun q => absurd (h1.mp q) (by omega)), if_neg (fun q => absurd (h2.mp q) (by omega))]
    rfl
  · by_cases b : x = y
    · rw [if_neg a, if_pos b, if_neg (fun q => absurd (h1.mp q) (by omega)), if_pos (h2.mpr b)]
      rfl
    · rw [if_neg a, if_neg b, if_pos (h1.mpr (by omega))]
      rfl
theorem zcmp_in (x y : Int) : zin32 (zcmp x y) := by
  unfold zcmp zin32
  split <;> (try split) <;> omega
theorem r_i2l {x : Int} (hd : decode cc pc = .ok (.i2l, 1)) (k : SW l G R own cc nL ret Z kc ks Ex (pc + 1) ls (zJ x :: st) mem) : SW l G R own cc nL ret Z kc ks Ex pc ls (zI x :: st) mem := by
  intro p e s m args below meth c H locs lsA C hE hX hK hI hP hS hL ol os om
  exact lv_i2l C.1 C.2.1 hd (zo_l os.hd) (k p e s m args below meth c H locs lsA C hE hX hK hI hP hS hL ol (os.tl.co (zin3264 os.hd)) om)
theorem r_lcmp {x y : Int} (hd : decode cc pc = .ok (.lcmp, 1)) (k : SW l G R own cc nL ret Z kc ks Ex (pc + 1) ls (zI (zcmp x y) :: st) mem) : SW l G R own cc nL ret Z kc ks Ex pc ls (zJ y :: zJ x :: st) mem := by
  intro p e s m args below meth c H locs lsA C hE hX hK hI hP hS hL ol os om
  have k9 := k p e s m args below meth c H locs lsA C hE hX hK hI hP hS hL ol (os.tl.tl.co (zcmp_in _ _)) om
  refine W.lcmp C.1 C.2.1 hd ?_
  rw [zo_cmp os.tl.hd os.hd]
  exact k9
theorem zcat1 {G : zG} {v : zV} (h : (match v with | .inr (.inl _) => false | _ => true) = true) : (zv G v).category = 1 := by
  match v, h with
  | .inl x, _ => rfl
  | .inr (.inr (.inl x)), _ => rfl
  | .inr (.inr (.inr ())), _ => rfl
theorem zcatJ {G : zG} {x : Int} : (zv G (zJ x)).category = 2 := rfl
def zc1 (v : zV) : Bool := match v with
  | .inr (.inl _) => false
  | _ => true
theorem r_dup {v : zV} (hd : decode cc pc = .ok (.dup, 1)) (hc : zc1 v = true) (k : SW l G R own cc nL ret Z kc ks Ex (pc + 1) ls (v :: v :: st) mem) : SW l G R own cc nL ret Z kc ks Ex pc ls (v :: st) mem := by
  intro p e s m args below meth c H locs lsA C hE hX hK hI hP hS hL ol os om
  exact lv_dup C.1 C.2.1 hd (zcat1 hc) (k p e s m args below meth c H locs lsA C hE hX hK hI hP hS hL ol (os.co os.hd) om)
theorem r_dup2 {v w : zV} (hd : decode cc pc = .ok (.dup2, 1)) (hc : zc1 v = true) (hc2 : zc1 w = true) (k : SW l G R own cc nL ret Z kc ks Ex (pc + 1) ls (v :: w :: v :: w :: st) mem) : SW l G R own cc nL ret Z kc ks Ex pc ls (v :: w :: st) mem := by
  intro p e s m args below meth c H locs lsA C hE hX hK hI hP hS hL ol os om
  exact lv_dup2_11 C.1 C.2.1 hd (zcat1 hc) (zcat1 hc2) (k p e s m args below meth c H locs lsA C hE hX hK hI hP hS hL ol ((os.co os.tl.hd).co os.hd) om)
theorem r_pop {v : zV} (hd : decode cc pc = .ok (.pop, 1)) (hc : zc1 v = true) (k : SW l G R own cc nL ret Z kc ks Ex (pc + 1) ls st mem) : SW l G R own cc nL ret Z kc ks Ex pc ls (v :: st) mem := by
  intro p e s m args below meth c H locs lsA C hE hX hK hI hP hS hL ol os om
  exact lv_pop C.1 C.2.1 hd (zcat1 hc) (k p e s m args below meth c H locs lsA C hE hX hK hI hP hS hL ol os.tl om)
theorem r_goto {off : Int} {tgt : Nat} (hd : decode cc pc = .ok (.goto off, 3)) (ht : (pc : Int) + off = (tgt : Int)) (k : SW l G R own cc nL ret Z kc ks Ex tgt ls st mem) : SW l G R own cc nL ret Z kc ks Ex pc ls st mem := by
  intro p e s m args below meth c H locs lsA C hE hX hK hI hP hS hL ol os om
  exact lv_goto C.1 C.2.1 hd ht (k p e s m args below meth c H locs lsA C hE hX hK hI hP hS hL ol os om)
theorem r_icmp_eq {x y : Int} {off : Int} {tgt : Nat} (hd : decode cc pc = .ok (.if_icmp .eq off, 3)) (ht : (pc : Int) + off = (tgt : Int)) (kt : x = y → SW l G R own cc nL ret Z kc ks Ex tgt ls st mem) (kf : ¬ x = y → SW l G R own cc nL ret Z kc ks Ex (pc + 3) ls st mem) : SW l G R own cc nL ret Z kc ks Ex pc ls (zI y :: zI x :: st) mem := by
  intro p e s m args below meth c H locs lsA C hE hX hK hI hP hS hL ol os om
  exact lv_icmp_eq C.1 C.2.1 hd ht (fun q => kt ((zo_eq os.tl.hd os.hd).mp q) p e s m args below meth c H locs lsA C hE hX hK hI hP hS hL ol os.tl.tl om) (fun q => kf (fun z => q ((zo_eq os.tl.hd os.hd).mpr z)) p e s m args below meth c H locs lsA C hE hX hK hI hP hS hL ol os.tl.tl om)
theorem r_if_eq {x : Int} {off : Int} {tgt : Nat} (hd : decode cc pc = .ok (.ifCond .eq off, 3)) (ht : (pc : Int) + off = (tgt : Int)) (kt : x = 0 → SW l G R own cc nL ret Z kc ks Ex tgt ls st mem) (kf : ¬ x = 0 → SW l G R own cc nL ret Z kc ks Ex (pc + 3) ls st mem) : SW l G R own cc nL ret Z kc ks Ex pc ls (zI x :: st) mem := by
  intro p e s m args below meth c H locs lsA C hE hX hK hI hP hS hL ol os om
  exact lv_if_eq C.1 C.2.1 hd ht (fun q => kt ((zo_eq os.hd zin_0).mp q) p e s m args below meth c H locs lsA C hE hX hK hI hP hS hL ol os.tl om) (fun q => kf (fun z => q ((zo_eq os.hd zin_0).mpr z)) p e s m args below meth c H locs lsA C hE hX hK hI hP hS hL ol os.tl om)
theorem r_icmp_ne {x y : Int} {off : Int} {tgt : Nat} (hd : decode cc pc = .ok (.if_icmp .ne off, 3)) (ht : (pc : Int) + off = (tgt : Int)) (kt : ¬ x = y → SW l G R own cc nL ret Z kc ks Ex tgt ls st mem) (kf : x = y → SW l G R own cc nL ret Z kc ks Ex (pc + 3) ls st mem) : SW l G R own cc nL ret Z kc ks Ex pc ls (zI y :: zI x :: st) mem := by
  intro p e s m args below meth c H locs lsA C hE hX hK hI hP hS hL ol os om
  exact lv_icmp_ne C.1 C.2.1 hd ht (fun q => kt ((not_congr (zo_eq os.tl.hd os.hd)).mp q) p e s m args below meth c H locs lsA C hE hX hK hI hP hS hL ol os.tl.tl om) (fun q => kf ((zo_eq os.tl.hd os.hd).mp q) p e s m args below meth c H locs lsA C hE hX hK hI hP hS hL ol os.tl.tl om)
theorem r_if_ne {x : Int} {off : Int} {tgt : Nat} (hd : decode cc pc = .ok (.ifCond .ne off, 3)) (ht : (pc : Int) + off = (tgt : Int)) (kt : ¬ x = 0 → SW l G R own cc nL ret Z kc ks Ex tgt ls st mem) (kf : x = 0 → SW l G R own cc nL ret Z kc ks Ex (pc + 3) ls st mem) : SW l G R own cc nL ret Z kc ks Ex pc ls (zI x :: st) mem := by
  intro p e s m args below meth c H locs lsA C hE hX hK hI hP hS hL ol os om
  exact lv_if_ne C.1 C.2.1 hd ht (fun q => kt ((not_congr (zo_eq os.hd zin_0)).mp q) p e s m args below meth c H locs lsA C hE hX hK hI hP hS hL ol os.tl om) (fun q => kf ((zo_eq os.hd zin_0).mp q) p e s m args below meth c H locs lsA C hE hX hK hI hP hS hL ol os.tl om)
theorem r_icmp_lt {x y : Int} {off : Int} {tgt : Nat} (hd : decode cc pc = .ok (.if_icmp .lt off, 3)) (ht : (pc : Int) + off = (tgt : Int)) (kt : x < y → SW l G R own cc nL ret Z kc ks Ex tgt ls st mem) (kf : ¬ x < y → SW l G R own cc nL ret Z kc ks Ex (pc + 3) ls st mem) : SW l G R own cc nL ret Z kc ks Ex pc ls (zI y :: zI x :: st) mem := by
  intro p e s m args below meth c H locs lsA C hE hX hK hI hP hS hL ol os om
  exact lv_icmp_lt C.1 C.2.1 hd ht (fun q => kt ((zo_lt os.tl.hd os.hd).mp q) p e s m args below meth c H locs lsA C hE hX hK hI hP hS hL ol os.tl.tl om) (fun q => kf (fun z => q ((zo_lt os.tl.hd os.hd).mpr z)) p e s m args below meth c H locs lsA C hE hX hK hI hP hS hL ol os.tl.tl om)
theorem r_if_lt {x : Int} {off : Int} {tgt : Nat} (hd : decode cc pc = .ok (.ifCond .lt off, 3)) (ht : (pc : Int) + off = (tgt : Int)) (kt : x < 0 → SW l G R own cc nL ret Z kc ks Ex tgt ls st mem) (kf : ¬ x < 0 → SW l G R own cc nL ret Z kc ks Ex (pc + 3) ls st mem) : SW l G R own cc nL ret Z kc ks Ex pc ls (zI x :: st) mem := by
  intro p e s m args below meth c H locs lsA C hE hX hK hI hP hS hL ol os om
  exact lv_if_lt C.1 C.2.1 hd ht (fun q => kt ((zo_lt os.hd zin_0).mp q) p e s m args below meth c H locs lsA C hE hX hK hI hP hS hL ol os.tl om) (fun q => kf (fun z => q ((zo_lt os.hd zin_0).mpr z)) p e s m args below meth c H locs lsA C hE hX hK hI hP hS hL ol os.tl om)
theorem r_icmp_le {x y : Int} {off : Int} {tgt : Nat} (hd : decode cc pc = .ok (.if_icmp .le off, 3)) (ht : (pc : Int) + off = (tgt : Int)) (kt : x ≤ y → SW l G R own cc nL ret Z kc ks Ex tgt ls st mem) (kf : ¬ x ≤ y → SW l G R own cc nL ret Z kc ks Ex (pc + 3) ls st mem) : SW l G R own cc nL ret Z kc ks Ex pc ls (zI y :: zI x :: st) mem := by
  intro p e s m args below meth c H locs lsA C hE hX hK hI hP hS hL ol os om
  exact lv_icmp_le C.1 C.2.1 hd ht (fun q => kt ((zo_le os.tl.hd os.hd).mp q) p e s m args below meth c H locs lsA C hE hX hK hI hP hS hL ol os.tl.tl om) (fun q => kf (fun z => q ((zo_le os.tl.hd os.hd).mpr z)) p e s m args below meth c H locs lsA C hE hX hK hI hP hS hL ol os.tl.tl om)
theorem r_if_le {x : Int} {off : Int} {tgt : Nat} (hd : decode cc pc = .ok (.ifCond .le off, 3)) (ht : (pc : Int) + off = (tgt : Int)) (kt : x ≤ 0 → SW l G R own cc nL ret Z kc ks Ex tgt ls st mem) (kf : ¬ x ≤ 0 → SW l G R own cc nL ret Z kc ks Ex (pc + 3) ls st mem) : SW l G R own cc nL ret Z kc ks Ex pc ls (zI x :: st) mem := by
  intro p e s m args below meth c H locs lsA C hE hX hK hI hP hS hL ol os om
  exact lv_if_le C.1 C.2.1 hd ht (fun q => kt ((zo_le os.hd zin_0).mp q) p e s m args below meth c H locs lsA C hE hX hK hI hP hS hL ol os.tl om) (fun q => kf (fun z => q ((zo_le os.hd zin_0).mpr z)) p e s m args below meth c H locs lsA C hE hX hK hI hP hS hL ol os.tl om)
theorem r_icmp_ge {x y : Int} {off : Int} {tgt : Nat} (hd : decode cc pc = .ok (.if_icmp .ge off, 3)) (ht : (pc : Int) + off = (tgt : Int)) (kt : y ≤ x → SW l G R own cc nL ret Z kc ks Ex tgt ls st mem) (kf : ¬ y ≤ x → SW l G R own cc nL ret Z kc ks Ex (pc + 3) ls st mem) : SW l G R own cc nL ret Z kc ks Ex pc ls (zI y :: zI x :: st) mem := by
  intro p e s m args below meth c H locs lsA C hE hX hK hI hP hS hL ol os om
  exact lv_icmp_ge C.1 C.2.1 hd ht (fun q => kt ((zo_le os.hd os.tl.hd).mp q) p e s m args below meth c H locs lsA C hE hX hK hI hP hS hL ol os.tl.tl om) (fun q => kf (fun z => q ((zo_le os.hd os.tl.hd).mpr z)) p e s m args below meth c H locs lsA C hE hX hK hI hP hS hL ol os.tl.tl om)
theorem r_if_ge {x : Int} {off : Int} {tgt : Nat} (hd : decode cc pc = .ok (.ifCond .ge off, 3)) (ht : (pc : Int) + off = (tgt : Int)) (kt : 0 ≤ x → SW l G R own cc nL ret Z kc ks Ex tgt ls st mem) (kf : ¬ 0 ≤ x → SW l G R own cc nL ret Z kc ks Ex (pc + 3) ls st mem) : SW l G R own cc nL ret Z kc ks Ex pc ls (zI x :: st) mem := by
  intro p e s m args below meth c H locs lsA C hE hX hK hI hP hS hL ol os om
  exact lv_if_ge C.1 C.2.1 hd ht (fun q => kt ((zo_le zin_0 os.hd).mp q) p e s m args below meth c H locs lsA C hE hX hK hI hP hS hL ol os.tl om) (fun q => kf (fun z => q ((zo_le zin_0 os.hd).mpr z)) p e s m args below meth c H locs lsA C hE hX hK hI hP hS hL ol os.tl om)
theorem r_icmp_gt {x y : Int} {off : Int} {tgt : Nat} (hd : decode cc pc = .ok (.if_icmp .gt off, 3)) (ht : (pc : Int) + off = (tgt : Int)) (kt : y < x → SW l G R own cc nL ret Z kc ks Ex tgt ls st mem) (kf : ¬ y < x → SW l G R own cc nL ret Z kc ks Ex (pc + 3) ls st mem) : SW l G R own cc nL ret Z kc ks Ex pc ls (zI y :: zI x :: st) mem := by
  intro p e s m args below meth c H locs lsA C hE hX hK hI hP hS hL ol os om
  exact lv_icmp_gt C.1 C.2.1 hd ht (fun q => kt ((zo_lt os.hd os.tl.hd).mp q) p e s m args below meth c H locs lsA C hE hX hK hI hP hS hL ol os.tl.tl om) (fun q => kf (fun z => q ((zo_lt os.hd os.tl.hd).mpr z)) p e s m args below meth c H locs lsA C hE hX hK hI hP hS hL ol os.tl.tl om)
theorem r_if_gt {x : Int} {off : Int} {tgt : Nat} (hd : decode cc pc = .ok (.ifCond .gt off, 3)) (ht : (pc : Int) + off = (tgt : Int)) (kt : 0 < x → SW l G R own cc nL ret Z kc ks Ex tgt ls st mem) (kf : ¬ 0 < x → SW l G R own cc nL ret Z kc ks Ex (pc + 3) ls st mem) : SW l G R own cc nL ret Z kc ks Ex pc ls (zI x :: st) mem := by
  intro p e s m args below meth c H locs lsA C hE hX hK hI hP hS hL ol os om
  exact lv_if_gt C.1 C.2.1 hd ht (fun q => kt ((zo_lt zin_0 os.hd).mp q) p e s m args below meth c H locs lsA C hE hX hK hI hP hS hL ol os.tl om) (fun q => kf (fun z => q ((zo_lt zin_0 os.hd).mpr z)) p e s m args below meth c H locs lsA C hE hX hK hI hP hS hL ol os.tl om)
theorem r_tswIn {dflt lo hi : Int} {offs : Array Int} {len : Nat} {x off : Int} {tgt : Nat} (hd : decode cc pc = .ok (.tableswitch dflt lo hi offs, len)) (h : lo ≤ x ∧ x ≤ hi) (ho : offs[(x - lo).toNat]? = some off) (ht : (pc : Int) + off = (tgt : Int)) (k : SW l G R own cc nL ret Z kc ks Ex tgt ls st mem) : SW l G R own cc nL ret Z kc ks Ex pc ls (zI x :: st) mem := by
  intro p e s m args below meth c H locs lsA C hE hX hK hI hP hS hL ol os om
  have hx : (Int32.ofInt x).toInt = x := by rw [zo_toInt, zw_of os.hd]
  exact lv_tableIn C.1 C.2.1 hd (by rw [hx]; omega) (by rw [hx]; omega) (by rw [hx]; exact ho) ht (k p e s m args below meth c H locs lsA C hE hX hK hI hP hS hL ol os.tl om)
theorem r_tswOut {dflt lo hi : Int} {offs : Array Int} {len : Nat} {x : Int} {tgt : Nat} (hd : decode cc pc = .ok (.tableswitch dflt lo hi offs, len)) (h : x < lo ∨ hi < x) (ht : (pc : Int) + dflt = (tgt : Int)) (k : SW l G R own cc nL ret Z kc ks Ex tgt ls st mem) : SW l G R own cc nL ret Z kc ks Ex pc ls (zI x :: st) mem := by
  intro p e s m args below meth c H locs lsA C hE hX hK hI hP hS hL ol os om
  have hx : (Int32.ofInt x).toInt = x := by rw [zo_toInt, zw_of os.hd]
  exact lv_tableOut C.1 C.2.1 hd (by rw [hx]; exact h) ht (k p e s m args below meth c H locs lsA C hE hX hK hI hP hS hL ol os.tl om)
theorem r_lsw {dflt : Int} {ps : Array (Int × Int)} {len : Nat} {x off : Int} {tgt : Nat} (hd : decode cc pc = .ok (.lookupswitch dflt ps, len)) (hp : (ps.toList.zip (ps.toList.drop 1)).all (fun (a, next) => a.1 < next.1) = true) (ho : Op.lookupswitch.offset ps.toList dflt x = off) (ht : (pc : Int) + off = (tgt : Int)) (k : SW l G R own cc nL ret Z kc ks Ex tgt ls st mem) : SW l G R own cc nL ret Z kc ks Ex pc ls (zI x :: st) mem := by
  intro p e s m args below meth c H locs lsA C hE hX hK hI hP hS hL ol os om
  have hx : (Int32.ofInt x).toInt = x := by rw [zo_toInt, zw_of os.hd]
  exact lv_lookup C.1 C.2.1 hd hp (by rw [hx]; exact ho) ht (k p e s m args below meth c H locs lsA C hE hX hK hI hP hS hL ol os.tl om)
end
end
section
/-! ===== fields and arrays ===== -/
def zNf (ci : Nat) : Nat := (zTl.getD ci []).length
def zFt (t : Nat) : FieldType := match t with
  | 1 => .long
  | 3 => .boolean
  | _ => .int
/-- a field that the class own reads by its pool's entry index: the slot k, of the sort t, of the class ci -/
def zFd (own : String) (index ci k t : Nat) : Prop := ∃ (C : String) (T : u_T), vwCl[ci]? = some (C, T, zNf ci) ∧ (∀ w ∈ u_ws C T (zNf ci), w ∈ ztb) ∧ k < zNf ci ∧ ci < 7 ∧ zT ci k = t ∧ Cond.fieldLink own index (T k).1 (T k).2.1 (T k).2.2.1 ∈ ztb
/-- one that it writes too -/
def zFp (own : String) (index ci k t : Nat) : Prop := ∃ (C : String) (T : u_T) (ty0 : Nat → FieldType), vwCl[ci]? = some (C, T, zNf ci) ∧ (∀ w ∈ u_ws C T (zNf ci), w ∈ ztb) ∧ (∀ k, k < zNf ci → parseFieldDescriptor (T k).2.2.1 = some (ty0 k)) ∧ (∀ a, a < zNf ci → ∀ b, b < zNf ci → a ≠ b → (T a).2.1 ≠ (T b).2.1) ∧ k < zNf ci ∧ ci < 7 ∧ zT ci k = t ∧ Cond.fieldLink own index (T k).1 (T k).2.1 (T k).2.2.1 ∈ ztb ∧ (T k).2.2.2 = false ∧ parseFieldDescriptor (T k).2.2.1 = some (zFt t)
theorem zfs_get {G : zG} {r : Int → Int} {o ci n k : Nat} (hk : k < n) : ((List.range n).map (fun k => zF G r o ci k))[k]? = some (zF G r o ci k) := by simp [hk]
theorem zfs_set {G : zG} {r : Int → Int} {o ci n k : Nat} {x : Int} {v : Value} (hk : k < n) (hv : v = zF G (zu r (k : Int) x) o ci k) : ((List.range n).map (fun k => zF G r o ci k)).set k v = (List.range n).map (fun k9 : Nat => zF G (zu r (k : Int) x) o ci k9) := by
  subst hv
  apply List.ext_getElem?
  intro j
  by_cases hj : j < n
  · by_cases h : j = k
    · subst h
      rw [List.getElem?_set_self (by simpa using hj), zfs_get hj]
    · rw [List.getElem?_set_ne (fun q => h q.symm), zfs_get hj, zfs_get hj]
      have : zu r k x (j : Int) = r j := zu_n (fun q => h (by omega))
      simp only [zF, this]
  · rw [List.getElem?_eq_none (by simp; omega), List.getElem?_eq_none (by simp; omega)]
theorem zlong_fld {o ci n k : Nat} (hL : zL o = (ci, n)) : zlong o (k : Int) ↔ zT ci k = 1 := by
  constructor
  · rintro ⟨m, h1, h2⟩
    have : m = k := by omega
    subst this
    rw [hL] at h2
    exact h2
  · intro h
    exact ⟨k, rfl, by rw [hL]; exact h⟩
theorem zlong_arr {o ci n : Nat} {k : Int} (hL : zL o = (ci, n)) (hc : 7 ≤ ci) : ¬ zlong o k := by
  rintro ⟨m, -, h2⟩
  rw [hL] at h2
  have : zT ci m = 0 := by
    have h9 : zTl.getD ci [] = [] := by
      rw [List.getD_eq_getElem?_getD, List.getElem?_eq_none (by show 7 ≤ ci; exact hc)]
      rfl
    unfold zT
    rw [h9]
    rfl
  rw [this] at h2
  cases h2
theorem zokM.set {mem : zM} {o : Nat} {k v : Int} (h : zokM mem) (h1 : zlong o k → zin64 v) (h2 : ¬ zlong o k → zin32 v) : zokM (zs mem o k v) := by
  intro o' k'
  by_cases ho : o' = o
  · subst ho
    unfold zs
    rw [zr_s]
    by_cases hk : k' = k
    · subst hk
      rw [zu_s]
      exact ⟨h1, h2⟩
    · rw [zu_n hk]
      exact h o' k'
  · unfold zs
    rw [zr_n ho]
    exact h o' k'
section
variable {l : Launch} {G : zG} {R : Room} {own : String} {cc : ByteArray} {nL : Nat} {ret : Option FieldType} {Z : List Frame → Array Value → State → State → Prop} {kc ks : Nat} {Ex : State → Prop} {pc : Nat} {ls st : List zV} {mem : zM}
theorem r_getI {index ci k t o : Nat} (hf : zFd own index ci k t) (hL9 : zL o = (ci, zNf ci)) (ht9 : t = 0 ∨ t = 3) (hd : decode cc pc = .ok (.getfield index, 3)) (kk : SW l G R own cc nL ret Z kc ks Ex (pc + 3) ls (zI (mem o k) :: st) mem) : SW l G R own cc nL ret Z kc ks Ex pc ls (zR o :: st) mem := by
  intro p e s m args below meth c H locs lsA C hE hX hK hI hP hS hL ol os om
  obtain ⟨C9, T, h1, h2, h3, h4, h5, h6⟩ := hf
  have hlt := zL_lt hL9 (by omega)
  have hv : zF G (mem o) o ci k = .int (Int32.ofInt (mem o k)) := by
    rcases ht9 with h | h <;> simp only [zF, h5, h]
  have hn : ¬ zlong o (k : Int) := fun q => by rw [zlong_fld hL9, h5] at q; omega
  exact va_get C.1 C.2.1 C.2.2.2.2.1 h2 C.2.2.2.1 hK hP o (by rw [zC_get hlt, zE_obj hL9 h4]) h1 k h3 (C.2.2.2.2.1 _ h6) (fun _ h9 => h9) (v := .int (Int32.ofInt (mem o k))) (by rw [zfs_get h3, hv]) hd (kk p e s m args below meth c H locs lsA C hE hX hK hI hP hS hL ol (os.tl.co ((om o k).2 hn)) om)
theorem r_getJ {index ci k o : Nat} (hf : zFd own index ci k 1) (hL9 : zL o = (ci, zNf ci)) (hd : decode cc pc = .ok (.getfield index, 3)) (kk : SW l G R own cc nL ret Z kc ks Ex (pc + 3) ls (zJ (mem o k) :: st) mem) : SW l G R own cc nL ret Z kc ks Ex pc ls (zR o :: st) mem := by
  intro p e s m args below meth c H locs lsA C hE hX hK hI hP hS hL ol os om
  obtain ⟨C9, T, h1, h2, h3, h4, h5, h6⟩ := hf
  have hlt := zL_lt hL9 (by omega)
  have hv : zF G (mem o) o ci k = .long (Int64.ofInt (mem o k)) := by simp only [zF, h5]
  have hn : zlong o (k : Int) := (zlong_fld hL9).mpr h5
  exact va_get C.1 C.2.1 C.2.2.2.2.1 h2 C.2.2.2.1 hK hP o (by rw [zC_get hlt, zE_obj hL9 h4]) h1 k h3 (C.2.2.2.2.1 _ h6) (fun _ h9 => h9) (v := .long (Int64.ofInt (mem o k))) (by rw [zfs_get h3, hv]) hd (kk p e s m args below meth c H locs lsA C hE hX hK hI hP hS hL ol (os.tl.co ((om o k).1 hn)) om)
theorem r_getR {index ci k o q : Nat} (hf : zFd own index ci k 2) (hL9 : zL o = (ci, zNf ci)) (hq : zRf o k = q) (hd : decode cc pc = .ok (.getfield index, 3)) (kk : SW l G R own cc nL ret Z kc ks Ex (pc + 3) ls (zR q :: st) mem) : SW l G R own cc nL ret Z kc ks Ex pc ls (zR o :: st) mem := by
  intro p e s m args below meth c H locs lsA C hE hX hK hI hP hS hL ol os om
  subst hq
  obtain ⟨C9, T, h1, h2, h3, h4, h5, h6⟩ := hf
  have hlt := zL_lt hL9 (by omega)
  have hv : zF G (mem o) o ci k = .ref (G.2.2.1 (zRf o k)) := by simp only [zF, h5]
  exact va_get C.1 C.2.1 C.2.2.2.2.1 h2 C.2.2.2.1 hK hP o (by rw [zC_get hlt, zE_obj hL9 h4]) h1 k h3 (C.2.2.2.2.1 _ h6) (fun _ h9 => h9) (v := .ref (G.2.2.1 (zRf o k))) (by rw [zfs_get h3, hv]) hd (kk p e s m args below meth c H locs lsA C hE hX hK hI hP hS hL ol (os.tl.co trivial) om)
theorem r_putI {index ci k o : Nat} {x : Int} (hf : zFp own index ci k 0) (hL9 : zL o = (ci, zNf ci)) (hd : decode cc pc = .ok (.putfield index, 3)) (kk : SW l G R own cc nL ret Z kc ks Ex (pc + 3) ls st (zs mem o k x)) : SW l G R own cc nL ret Z kc ks Ex pc ls (zI x :: zR o :: st) mem := by
  intro p e s m args below meth c H locs lsA C hE hX hK hI hP hS hL ol os om
  obtain ⟨C9, T, ty0, h1, h2, h2a, h2b, h3, h4, h5, h6, h7, h8⟩ := hf
  have hlt := zL_lt hL9 (by omega)
  have hn : ¬ zlong o (k : Int) := fun q => by rw [zlong_fld hL9, h5] at q; cases q
  refine va_put C.1 C.2.1 C.2.2.2.2.1 h2 ty0 h2a h2b C.2.2.2.1 hK hP (zD_of hI mem) hS o (by rw [zC_get hlt, zE_obj hL9 h4]) h1 k h3 (C.2.2.2.2.1 _ h6) (fun _ h9 => h9) h7 (v := .int (Int32.ofInt x)) h8 rfl rfl (by simpa using h3) hd (fun H1 locs1 hP1 hD1 hS1 => ?_)
  have hset : (zC G mem).set o (G.2.2.1 o, .inr (ci, ((List.range (zNf ci)).map (fun k => zF G (mem o) o ci k)).set k (.int (Int32.ofInt x)))) = zC G (zs mem o k x) := by
    refine zC_set ?_ (fun o' h => zr_n h)
    rw [zE_obj hL9 h4]
    show _ = Sum.inr (ci, (List.range (zNf ci)).map (fun k9 => zF G (zr mem o (zu (mem o) k x) o) o ci k9))
    rw [zr_s, zfs_set (x := x) h3]
    simp only [zF, h5, zu_s]
  rw [hset] at hP1
  exact kk p e s m args below meth c H1 locs1 lsA C hE hX hK hI hP1 hS1 hL ol os.tl.tl (om.set (fun q => absurd q hn) (fun _ => os.hd))
theorem r_putZ {index ci k o : Nat} {x : Int} (hf : zFp own index ci k 3) (hL9 : zL o = (ci, zNf ci)) (h01 : x = 0 ∨ x = 1) (hd : decode cc pc = .ok (.putfield index, 3)) (kk : SW l G R own cc nL ret Z kc ks Ex (pc + 3) ls st (zs mem o k x)) : SW l G R own cc nL ret Z kc ks Ex pc ls (zI x :: zR o :: st) mem := by
  intro p e s m args below meth c H locs lsA C hE hX hK hI hP hS hL ol os om
  obtain ⟨C9, T, ty0, h1, h2, h2a, h2b, h3, h4, h5, h6, h7, h8⟩ := hf
  have hlt := zL_lt hL9 (by omega)
  have hn : ¬ zlong o (k : Int) := fun q => by rw [zlong_fld hL9, h5] at q; cases q
  refine va_put C.1 C.2.1 C.2.2.2.2.1 h2 ty0 h2a h2b C.2.2.2.1 hK hP (zD_of hI mem) hS o (by rw [zC_get hlt, zE_obj hL9 h4]) h1 k h3 (C.2.2.2.2.1 _ h6) (fun _ h9 => h9) h7 (v := .int (Int32.ofInt x)) h8 (by rcases h01 with rfl | rfl <;> decide) (by rcases h01 with rfl | rfl <;> decide) (by simpa using h3) hd (fun H1 locs1 hP1 hD1 hS1 => ?_)
  have hset : (zC G mem).set o (G.2.2.1 o, .inr (ci, ((List.range (zNf ci)).map (fun k => zF G (mem o) o ci k)).set k (.int (Int32.ofInt x)))) = zC G (zs mem o k x) := by
    refine zC_set ?_ (fun o' h => zr_n h)
    rw [zE_obj hL9 h4]
    show _ = Sum.inr (ci, (List.range (zNf ci)).map (fun k9 => zF G (zr mem o (zu (mem o) k x) o) o ci k9))
    rw [zr_s, zfs_set (x := x) h3]
    simp only [zF, h5, zu_s]
  rw [hset] at hP1
  exact kk p e s m args below meth c H1 locs1 lsA C hE hX hK hI hP1 hS1 hL ol os.tl.tl (om.set (fun q => absurd q hn) (fun _ => os.hd))
theorem r_putJ {index ci k o : Nat} {x : Int} (hf : zFp own index ci k 1) (hL9 : zL o = (ci, zNf ci)) (hd : decode cc pc = .ok (.putfield index, 3)) (kk : SW l G R own cc nL ret Z kc ks Ex (pc + 3) ls st (zs mem o k x)) : SW l G R own cc nL ret Z kc ks Ex pc ls (zJ x :: zR o :: st) mem := by
  intro p e s m args below meth c H locs lsA C hE hX hK hI hP hS hL ol os om
  obtain ⟨C9, T, ty0, h1, h2, h2a, h2b, h3, h4, h5, h6, h7, h8⟩ := hf
  have hlt := zL_lt hL9 (by omega)
  have hn : zlong o (k : Int) := (zlong_fld hL9).mpr h5
  refine va_put C.1 C.2.1 C.2.2.2.2.1 h2 ty0 h2a h2b C.2.2.2.1 hK hP (zD_of hI mem) hS o (by rw [zC_get hlt, zE_obj hL9 h4]) h1 k h3 (C.2.2.2.2.1 _ h6) (fun _ h9 => h9) h7 (v := .long (Int64.ofInt x)) h8 rfl rfl (by simpa using h3) hd (fun H1 locs1 hP1 hD1 hS1 => ?_)
  have hset : (zC G mem).set o (G.2.2.1 o, .inr (ci, ((List.range (zNf ci)).map (fun k => zF G (mem o) o ci k)).set k (.long (Int64.ofInt x)))) = zC G (zs mem o k x) := by
    refine zC_set ?_ (fun o' h => zr_n h)
    rw [zE_obj hL9 h4]
    show _ = Sum.inr (ci, (List.range (zNf ci)).map (fun k9 => zF G (zr mem o (zu (mem o) k x) o) o ci k9))
    rw [zr_s, zfs_set (x := x) h3]
    simp only [zF, h5, zu_s]
  rw [hset] at hP1
  exact kk p e s m args below meth c H1 locs1 lsA C hE hX hK hI hP1 hS1 hL ol os.tl.tl (om.set (fun _ => os.hd) (fun q => absurd hn q))
theorem z_upd {r : Int → Int} {i x : Int} (h0 : 0 ≤ i) (h1 : i < 2147483648) {v : Int32} (hv : v = Int32.ofInt x) : upd (fun k : Nat => Int32.ofInt (r (k : Int))) (Int32.ofInt i).toNatClampNeg v = fun k : Nat => Int32.ofInt (zu r i x (k : Int)) := by
  subst hv
  funext j
  rw [zo_clamp h0 h1]
  unfold upd zu
  by_cases h : j = i.toNat
  · rw [if_pos h, if_pos (by omega)]
  · rw [if_neg h, if_neg (by omega)]
theorem r_iald {o n : Nat} {i : Int} (hL9 : zL o = (10, n)) (h0 : 0 ≤ i) (h1 : i < (n : Int)) (hd : decode cc pc = .ok (.iaload, 1)) (kk : SW l G R own cc nL ret Z kc ks Ex (pc + 1) ls (zI (mem o i) :: st) mem) : SW l G R own cc nL ret Z kc ks Ex pc ls (zI i :: zR o :: st) mem := by
  intro p e s m args below meth c H locs lsA C hE hX hK hI hP hS hL ol os om
  have hlt := zL_lt hL9 (by decide)
  have hv : Int32.ofInt (mem o ((Int32.ofInt i).toNatClampNeg : Int)) = Int32.ofInt (mem o i) := by rw [zo_clamp h0 (os.hd).2, Int.toNat_of_nonneg h0]
  have k9 := kk p e s m args below meth c H locs lsA C hE hX hK hI hP hS hL ol (os.tl.tl.co ((om o i).2 (zlong_arr hL9 (by decide)))) om
  refine va_iald C.1 C.2.1 hK hP o 0 (by rw [zC_get hlt, zE_int hL9]) rfl (zo_in h0 h1 os.hd) hd ?_
  show W p l e R s m args below meth c H locs kc ks (Z below args s) (F0 m (pc + 1) lsA (.int (Int32.ofInt (mem o ((Int32.ofInt i).toNatClampNeg : Int))) :: st.map (zv G)))
  rw [hv]
  exact k9
theorem r_bald {o n : Nat} {i : Int} (hL9 : zL o = (11, n)) (h0 : 0 ≤ i) (h1 : i < (n : Int)) (hd : decode cc pc = .ok (.baload, 1)) (kk : SW l G R own cc nL ret Z kc ks Ex (pc + 1) ls (zI (mem o i) :: st) mem) : SW l G R own cc nL ret Z kc ks Ex pc ls (zI i :: zR o :: st) mem := by
  intro p e s m args below meth c H locs lsA C hE hX hK hI hP hS hL ol os om
  have hlt := zL_lt hL9 (by decide)
  have hv : Int32.ofInt (mem o ((Int32.ofInt i).toNatClampNeg : Int)) = Int32.ofInt (mem o i) := by rw [zo_clamp h0 (os.hd).2, Int.toNat_of_nonneg h0]
  have k9 := kk p e s m args below meth c H locs lsA C hE hX hK hI hP hS hL ol (os.tl.tl.co ((om o i).2 (zlong_arr hL9 (by decide)))) om
  refine va_bald C.1 C.2.1 hK hP o 1 (by rw [zC_get hlt, zE_byte hL9]) rfl (zo_in h0 h1 os.hd) hd ?_
  show W p l e R s m args below meth c H locs kc ks (Z below args s) (F0 m (pc + 1) lsA (.int (Int32.ofInt (mem o ((Int32.ofInt i).toNatClampNeg : Int))) :: st.map (zv G)))
  rw [hv]
  exact k9
theorem r_zald {o n : Nat} {i : Int} (hL9 : zL o = (12, n)) (h0 : 0 ≤ i) (h1 : i < (n : Int)) (hd : decode cc pc = .ok (.baload, 1)) (kk : SW l G R own cc nL ret Z kc ks Ex (pc + 1) ls (zI (mem o i) :: st) mem) : SW l G R own cc nL ret Z kc ks Ex pc ls (zI i :: zR o :: st) mem := by
  intro p e s m args below meth c H locs lsA C hE hX hK hI hP hS hL ol os om
  have hlt := zL_lt hL9 (by decide)
  have hv : Int32.ofInt (mem o ((Int32.ofInt i).toNatClampNeg : Int)) = Int32.ofInt (mem o i) := by rw [zo_clamp h0 (os.hd).2, Int.toNat_of_nonneg h0]
  have k9 := kk p e s m args below meth c H locs lsA C hE hX hK hI hP hS hL ol (os.tl.tl.co ((om o i).2 (zlong_arr hL9 (by decide)))) om
  refine va_zald C.1 C.2.1 hK hP o 2 (by rw [zC_get hlt, zE_bool hL9]) rfl (zo_in h0 h1 os.hd) hd ?_
  show W p l e R s m args below meth c H locs kc ks (Z below args s) (F0 m (pc + 1) lsA (.int (Int32.ofInt (mem o ((Int32.ofInt i).toNatClampNeg : Int))) :: st.map (zv G)))
  rw [hv]
  exact k9
theorem r_iast {o n : Nat} {i x : Int} (hL9 : zL o = (10, n)) (h0 : 0 ≤ i) (h1 : i < (n : Int))  (hd : decode cc pc = .ok (.iastore, 1)) (kk : SW l G R own cc nL ret Z kc ks Ex (pc + 1) ls st (zs mem o i (x))) : SW l G R own cc nL ret Z kc ks Ex pc ls (zI x :: zI i :: zR o :: st) mem := by
  intro p e s m args below meth c H locs lsA C hE hX hK hI hP hS hL ol os om
  have hlt := zL_lt hL9 (by decide)
  refine va_iast C.1 C.2.1 hK hP (zD_of hI mem) hS o 0 (by rw [zC_get hlt, zE_int hL9]) rfl (zo_in h0 h1 os.tl.hd) hd (fun H1 locs1 hP1 hD1 hS1 => ?_)
  rw [z_upd (x := x) h0 (os.tl.hd).2 (rfl)] at hP1
  rw [zC_set (mem' := zs mem o i (x)) (by rw [zE_int hL9]; show _ = Sum.inl (_, _, Sum.inl (fun k : Nat => Int32.ofInt (zr mem o (zu (mem o) i (x)) o (k : Int)))); rw [zr_s]) (fun o' h => zr_n h)] at hP1
  exact kk p e s m args below meth c H1 locs1 lsA C hE hX hK hI hP1 hS1 hL ol os.tl.tl.tl (om.set (fun q => absurd q (zlong_arr hL9 (by decide))) (fun _ => os.hd))
theorem r_bast {o n : Nat} {i x : Int} (hL9 : zL o = (11, n)) (h0 : 0 ≤ i) (h1 : i < (n : Int))  (hd : decode cc pc = .ok (.bastore, 1)) (kk : SW l G R own cc nL ret Z kc ks Ex (pc + 1) ls st (zs mem o i (zi2b x))) : SW l G R own cc nL ret Z kc ks Ex pc ls (zI x :: zI i :: zR o :: st) mem := by
  intro p e s m args below meth c H locs lsA C hE hX hK hI hP hS hL ol os om
  have hlt := zL_lt hL9 (by decide)
  refine va_bast C.1 C.2.1 hK hP (zD_of hI mem) hS o 1 (by rw [zC_get hlt, zE_byte hL9]) rfl (zo_in h0 h1 os.tl.hd) hd (fun H1 locs1 hP1 hD1 hS1 => ?_)
  rw [z_upd (x := zi2b x) h0 (os.tl.hd).2 (by rw [zi2b, zo_i]; exact vp_nar_byte _)] at hP1
  rw [zC_set (mem' := zs mem o i (zi2b x)) (by rw [zE_byte hL9]; show _ = Sum.inl (_, _, Sum.inl (fun k : Nat => Int32.ofInt (zr mem o (zu (mem o) i (zi2b x)) o (k : Int)))); rw [zr_s]) (fun o' h => zr_n h)] at hP1
  exact kk p e s m args below meth c H1 locs1 lsA C hE hX hK hI hP1 hS1 hL ol os.tl.tl.tl (om.set (fun q => absurd q (zlong_arr hL9 (by decide))) (fun _ => zi_in _))
theorem r_zast {o n : Nat} {i x : Int} (hL9 : zL o = (12, n)) (h0 : 0 ≤ i) (h1 : i < (n : Int)) (h01 : x = 0 ∨ x = 1) (hd : decode cc pc = .ok (.bastore, 1)) (kk : SW l G R own cc nL ret Z kc ks Ex (pc + 1) ls st (zs mem o i (x))) : SW l G R own cc nL ret Z kc ks Ex pc ls (zI x :: zI i :: zR o :: st) mem := by
  intro p e s m args below meth c H locs lsA C hE hX hK hI hP hS hL ol os om
  have hlt := zL_lt hL9 (by decide)
  refine va_zast C.1 C.2.1 hK hP (zD_of hI mem) hS o 2 (by rw [zC_get hlt, zE_bool hL9]) rfl (zo_in h0 h1 os.tl.hd) hd (fun H1 locs1 hP1 hD1 hS1 => ?_)
  rw [z_upd (x := x) h0 (os.tl.hd).2 (by rcases h01 with rfl | rfl <;> decide)] at hP1
  rw [zC_set (mem' := zs mem o i (x)) (by rw [zE_bool hL9]; show _ = Sum.inl (_, _, Sum.inl (fun k : Nat => Int32.ofInt (zr mem o (zu (mem o) i (x)) o (k : Int)))); rw [zr_s]) (fun o' h => zr_n h)] at hP1
  exact kk p e s m args below meth c H1 locs1 lsA C hE hX hK hI hP1 hS1 hL ol os.tl.tl.tl (om.set (fun q => absurd q (zlong_arr hL9 (by decide))) (fun _ => os.hd))
theorem r_aaldM {o n q : Nat} {i : Int} (hL9 : zL o = (13, n)) (h0 : 0 ≤ i) (h1 : i < (n : Int)) (hq : zRf o i.toNat = q) (hd : decode cc pc = .ok (.aaload, 1)) (kk : SW l G R own cc nL ret Z kc ks Ex (pc + 1) ls (zR q :: st) mem) : SW l G R own cc nL ret Z kc ks Ex pc ls (zI i :: zR o :: st) mem := by
  intro p e s m args below meth c H locs lsA C hE hX hK hI hP hS hL ol os om
  subst hq
  have hlt := zL_lt hL9 (by decide)
  have k9 := kk p e s m args below meth c H locs lsA C hE hX hK hI hP hS hL ol (os.tl.tl.co trivial) om
  refine va_aldq C.1 C.2.1 hK hP o 3 (by rw [zC_get hlt, zE_img hL9]) rfl (zo_in h0 h1 os.hd) hd ?_
  show W p l e R s m args below meth c H locs kc ks (Z below args s) (F0 m (pc + 1) lsA (.ref (G.2.2.1 (zRf o ((Int32.ofInt i).toNatClampNeg))) :: st.map (zv G)))
  rw [zo_clamp h0 (os.hd).2]
  exact k9
theorem r_aaldS {o n q : Nat} {i : Int} (hL9 : zL o = (14, n)) (h0 : 0 ≤ i) (h1 : i < (n : Int)) (hq : zRf o i.toNat = q) (hd : decode cc pc = .ok (.aaload, 1)) (kk : SW l G R own cc nL ret Z kc ks Ex (pc + 1) ls (zR q :: st) mem) : SW l G R own cc nL ret Z kc ks Ex pc ls (zI i :: zR o :: st) mem := by
  intro p e s m args below meth c H locs lsA C hE hX hK hI hP hS hL ol os om
  subst hq
  have hlt := zL_lt hL9 (by decide)
  have k9 := kk p e s m args below meth c H locs lsA C hE hX hK hI hP hS hL ol (os.tl.tl.co trivial) om
  refine va_aldq C.1 C.2.1 hK hP o 4 (by rw [zC_get hlt, zE_sht hL9]) rfl (zo_in h0 h1 os.hd) hd ?_
  show W p l e R s m args below meth c H locs kc ks (Z below args s) (F0 m (pc + 1) lsA (.ref (G.2.2.1 (zRf o ((Int32.ofInt i).toNatClampNeg))) :: st.map (zv G)))
  rw [zo_clamp h0 (os.hd).2]
  exact k9
theorem r_alen {o n : Nat} (hL9 : zL o = (10, n)) (hn9 : zin32 (n : Int)) (hd : decode cc pc = .ok (.arraylength, 1)) (kk : SW l G R own cc nL ret Z kc ks Ex (pc + 1) ls (zI (n : Int) :: st) mem) : SW l G R own cc nL ret Z kc ks Ex pc ls (zR o :: st) mem := by
  intro p e s m args below meth c H locs lsA C hE hX hK hI hP hS hL ol os om
  have hlt := zL_lt hL9 (by decide)
  exact va_alen C.1 C.2.1 hK hP o 0 (by rw [zC_get hlt, zE_int hL9]) rfl (v := Int32.ofInt (n : Int)) rfl hd (kk p e s m args below meth c H locs lsA C hE hX hK hI hP hS hL ol (os.tl.co hn9) om)
theorem r_alenZ {o n : Nat} (hL9 : zL o = (12, n)) (hn9 : zin32 (n : Int)) (hd : decode cc pc = .ok (.arraylength, 1)) (kk : SW l G R own cc nL ret Z kc ks Ex (pc + 1) ls (zI (n : Int) :: st) mem) : SW l G R own cc nL ret Z kc ks Ex pc ls (zR o :: st) mem := by
  intro p e s m args below meth c H locs lsA C hE hX hK hI hP hS hL ol os om
  have hlt := zL_lt hL9 (by decide)
  exact va_alen C.1 C.2.1 hK hP o 2 (by rw [zC_get hlt, zE_bool hL9]) rfl (v := Int32.ofInt (n : Int)) rfl hd (kk p e s m args below meth c H locs lsA C hE hX hK hI hP hS hL ol (os.tl.co hn9) om)
theorem r_alenM {o n : Nat} (hL9 : zL o = (13, n)) (hn9 : zin32 (n : Int)) (hd : decode cc pc = .ok (.arraylength, 1)) (kk : SW l G R own cc nL ret Z kc ks Ex (pc + 1) ls (zI (n : Int) :: st) mem) : SW l G R own cc nL ret Z kc ks Ex pc ls (zR o :: st) mem := by
  intro p e s m args below meth c H locs lsA C hE hX hK hI hP hS hL ol os om
  have hlt := zL_lt hL9 (by decide)
  exact va_alen C.1 C.2.1 hK hP o 3 (by rw [zC_get hlt, zE_img hL9]) rfl (v := Int32.ofInt (n : Int)) rfl hd (kk p e s m args below meth c H locs lsA C hE hX hK hI hP hS hL ol (os.tl.co hn9) om)
end
end
section
/-! ===== ends, entries, calls ===== -/
theorem zgood : ztb.all goodWord = true := List.all_eq_true.mpr (fun w hw => (List.mem_filter.mp hw).2)
theorem zgoodIn {y : MethodName} {cc : ByteArray} {nL : Nat} {ret : Option FieldType} (h : Cond.code y cc nL ret ∈ ztb) : GoodIn ztb (Cond.code y cc nL ret :: ztb) := by
  intro w hw
  have hm : w ∈ ztb := (List.mem_cons.mp hw).elim (fun e => by rw [e]; exact h) id
  exact ⟨hm, good_of_word (List.all_eq_true.mp zgood w hm)⟩
theorem zWd.end {G : zG} {mem : zM} {s t : State} {H : Heap} {locs : List Loc} (hX : zX G s) (hK : va_K (zD G) vwCl (zTy G) s) (hI : zInj G) (hP : va_P (zD G) vwCl (zC G mem) H) (hS : va_S (zA G) s.heap H locs) (om : zokM mem) (ht : t.heap = H) (hW : s.WarmedH t.vm) : zWd G mem t :=
  ⟨hI, om, by rw [ht]; exact hP, va_K.moved hW.alike hK, hX.go (by rw [ht]; exact hS.2.1) hW⟩
section
variable {l : Launch} {G : zG} {R : Room} {own : String} {cc : ByteArray} {nL : Nat} {post : Option zV → zM → Prop} {Ex : State → Prop} {pc : Nat} {ls : List zV} {mem : zM}
theorem r_iret {x : Int} (hd : decode cc pc = .ok (.ireturn, 1)) (h : post (some (zI x)) mem) : SW l G R own cc nL (some .int) (zZ G post) 0 0 Ex pc ls [zI x] mem := by
  intro p e s m args below meth c H locs lsA C hE hX hK hI hP hS hL ol os om
  exact W.iret (v := Int32.ofInt x) C.1 C.2.1 C.2.2.2.2.2.1 (fun t ht hW => ⟨⟨some (zI x), mem, rfl, h, fun v hv => by cases hv; exact os.hd, zWd.end hX hK hI hP hS om ht hW⟩, hS.F ht⟩) hS.2.2 hd (hlocks := C.2.2.2.2.2.2.1)
theorem r_zret {x : Int} (hd : decode cc pc = .ok (.ireturn, 1)) (h01 : x = 0 ∨ x = 1) (h : post (some (zI x)) mem) : SW l G R own cc nL (some .boolean) (zZ G post) 0 0 Ex pc ls [zI x] mem := by
  intro p e s m args below meth c H locs lsA C hE hX hK hI hP hS hL ol os om
  exact W.zret (v := Int32.ofInt x) C.1 C.2.1 C.2.2.2.2.2.1 (by rcases h01 with rfl | rfl <;> decide) (fun t ht hW => ⟨⟨some (zI x), mem, rfl, h, fun v hv => by cases hv; exact os.hd, zWd.end hX hK hI hP hS om ht hW⟩, hS.F ht⟩) hS.2.2 hd (hlocks := C.2.2.2.2.2.2.1)
theorem r_lret {x : Int} (hd : decode cc pc = .ok (.lreturn, 1)) (h : post (some (zJ x)) mem) : SW l G R own cc nL (some .long) (zZ G post) 0 0 Ex pc ls [zJ x] mem := by
  intro p e s m args below meth c H locs lsA C hE hX hK hI hP hS hL ol os om
  exact W.lret (v := Int64.ofInt x) C.1 C.2.1 C.2.2.2.2.2.1 (fun t ht hW => ⟨⟨some (zJ x), mem, rfl, h, fun v hv => by cases hv; exact os.hd, zWd.end hX hK hI hP hS om ht hW⟩, hS.F ht⟩) hS.2.2 hd (hlocks := C.2.2.2.2.2.2.1)
theorem r_aret {o : Nat} {nm : String} (hd : decode cc pc = .ok (.areturn, 1)) (h : post (some (zR o)) mem) : SW l G R own cc nL (some (.object nm)) (zZ G post) 0 0 Ex pc ls [zR o] mem := by
  intro p e s m args below meth c H locs lsA C hE hX hK hI hP hS hL ol os om
  exact W.aret (v := .ref (G.2.2.1 o)) C.1 C.2.1 C.2.2.2.2.2.1 (Or.inl ⟨nm, rfl⟩) (Or.inr ⟨_, rfl⟩) (fun t ht hW => ⟨⟨some (zR o), mem, rfl, h, fun v hv => by cases hv; exact trivial, zWd.end hX hK hI hP hS om ht hW⟩, hS.F ht⟩) hS.2.2 hd (hlocks := C.2.2.2.2.2.2.1)
theorem r_vret (hd : decode cc pc = .ok (.return_, 1)) (h : post none mem) : SW l G R own cc nL none (zZ G post) 0 0 Ex pc ls [] mem := by
  intro p e s m args below meth c H locs lsA C hE hX hK hI hP hS hL ol os om
  exact W.vret C.1 C.2.1 C.2.2.2.2.2.1 (fun t ht hW => ⟨⟨none, mem, rfl, h, (fun v hv => by cases hv), zWd.end hX hK hI hP hS om ht hW⟩, hS.F ht⟩) hS.2.2 hd (hlocks := C.2.2.2.2.2.2.1)
end
def zent : List zV → List zV
  | [] => []
  | .inr (.inl x) :: t => zJ x :: zU :: zent t
  | v :: t => v :: zent t
def zent0 (As : List zV) (nL : Nat) : List zV := zent As ++ List.replicate (nL - (zent As).length) zU
theorem zent_args {G : zG} : ∀ (As : List zV) (k i : Nat) (v : zV), (zent As)[i]? = some v → v ≠ zU → (k + i, zv G v) ∈ lv_args k (As.map (zv G))
  | [], k, i, v, h, _ => by simp [zent] at h
  | .inl x :: t, k, i, v, h, hv => by
    cases i with
    | zero => simp [zent] at h; subst h; exact List.mem_cons_self
    | succ i =>
      have h2 : (zent t)[i]? = some v := by simpa [zent] using h
      have := zent_args (G := G) t (k + 1) i v h2 hv
      rw [show k + (i + 1) = k + 1 + i by omega]
      exact List.mem_cons_of_mem _ this
  | .inr (.inl x) :: t, k, i, v, h, hv => by
    match i with
    | 0 => simp [zent] at h; subst h; exact List.mem_cons_self
    | 1 => simp [zent] at h; subst h; exact absurd rfl hv
    | i + 2 =>
      have h2 : (zent t)[i]? = some v := by simpa [zent] using h
      have := zent_args (G := G) t (k + 2) i v h2 hv
      rw [show k + (i + 2) = k + 2 + i by omega]
      exact List.mem_cons_of_mem _ this
  | .inr (.inr (.inl x)) :: t, k, i, v, h, hv => by
    cases i with
    | zero => simp [zent] at h; subst h; exact List.mem_cons_self
    | succ i =>
      have h2 : (zent t)[i]? = some v := by simpa [zent] using h
      have := zent_args (G := G) t (k + 1) i v h2 hv
      rw [show k + (i + 1) = k + 1 + i by omega]
      exact List.mem_cons_of_mem _ this
  | .inr (.inr (.inr ())) :: t, k, i, v, h, hv => by
    cases i with
    | zero => simp [zent] at h; subst h; exact absurd rfl hv
    | succ i =>
      have h2 : (zent t)[i]? = some v := by simpa [zent] using h
      have := zent_args (G := G) t (k + 1) i v h2 hv
      rw [show k + (i + 1) = k + 1 + i by omega]
      exact List.mem_cons_of_mem _ this
theorem zent_len {G : zG} : ∀ (As : List zV), (lg_sl (As.map (zv G))).length = (zent As).length
  | [] => rfl
  | .inl x :: t => by have := zent_len (G := G) t; simp [lg_sl, zent, zv, Value.category] at this ⊢; omega
  | .inr (.inl x) :: t => by have := zent_len (G := G) t; simp [lg_sl, zent, zv, Value.category] at this ⊢; omega
  | .inr (.inr (.inl x)) :: t => by have := zent_len (G := G) t; simp [lg_sl, zent, zv, Value.category] at this ⊢; omega
  | .inr (.inr (.inr ())) :: t => by have := zent_len (G := G) t; simp [lg_sl, zent, zv, Value.category] at this ⊢; omega
theorem zent_ok : ∀ (As : List zV), zokL As → zokL (zent As)
  | [], h => h
  | .inl x :: t, h => (zent_ok t h.tl).co h.hd
  | .inr (.inl x) :: t, h => ((zent_ok t h.tl).co (v := zU) trivial).co h.hd
  | .inr (.inr (.inl x)) :: t, h => (zent_ok t h.tl).co h.hd
  | .inr (.inr (.inr ())) :: t, h => (zent_ok t h.tl).co h.hd
theorem zent0_ls {G : zG} {As : List zV} {nL : Nat} (h : (zent As).length ≤ nL) : zLs G ((lg_sl (As.map (zv G)) ++ List.replicate (nL - (lg_sl (As.map (zv G))).length) Slot.unset).toArray) nL (zent0 As nL) := by
  have he := lv_entry (As.map (zv G)) (n := nL) (by rw [zent_len]; exact h)
  refine ⟨by simp [zent0]; omega, he.1, he.2.1, fun i v hi hv => ?_⟩
  unfold zent0 at hi
  by_cases hl : i < (zent As).length
  · rw [List.getElem?_append_left hl] at hi
    have := zent_args (G := G) As 0 i v hi hv
    rw [Nat.zero_add] at this
    exact he.2.2 _ this
  · rw [List.getElem?_append_right (by omega)] at hi
    have := List.eq_of_mem_replicate (List.mem_of_getElem? hi)
    exact absurd this hv
theorem CT.of {l : Launch} {G : zG} {y : MethodName} {cc : ByteArray} {nL : Nat} {ret : Option FieldType} {d : Nat} {As : List zV} {mem : zM} {post : Option zV → zM → Prop} (hy : plainName y.cls = true) (hn : (zent As).length ≤ nL) (h : SW l G (zrm d) y.cls cc nL ret (zZ G post) 0 0 (fun _ => True) 0 (zent0 As nL) [] mem) : CT l G y cc nL ret d As mem post := by
  refine Met.ofW (cc := cc) (maxL := nL) (ret := ret) hy rfl ?_
  intro p e s m args below meth c s₁ B hml hv
  obtain ⟨rfl, ⟨hI, om, hP, hK, hX⟩, hA⟩ := hv
  have hts := atoms_spec (ws := Cond.code y cc nL ret :: ztb) B.pre
  rw [lg_entry_eq]
  refine h p e s m _ below meth c s.heap [] _ ⟨B.exec, B.bytes, hml, findClass_of_methodNamed B.named, fun w hw => hts w (List.mem_cons_of_mem _ hw), B.returns, B.notSynchronized, Nat.zero_le _, Nat.zero_le _⟩ trivial hX hK hI hP va_S.rf (zent0_ls hn) ?_ zokL.nil om
  intro v hv
  rcases List.mem_append.mp hv with q | q
  · exact zent_ok As hA v q
  · rw [List.eq_of_mem_replicate q]; exact trivial
/-- less is asked of a contract -/
theorem CT.imp {l : Launch} {G : zG} {y : MethodName} {cc : ByteArray} {nL : Nat} {ret : Option FieldType} {d : Nat} {As : List zV} {mem : zM} {post post' : Option zV → zM → Prop} (h : CT l G y cc nL ret d As mem post) (hp : ∀ r m, post r m → post' r m) : CT l G y cc nL ret d As mem post' := by
  intro p e ha hc hk s m args below hf happ hP hT
  obtain ⟨k, o, h1, h2, h3, ⟨⟨r, m', e1, e2, e3⟩, hF⟩, hL⟩ := h p e ha hc hk s m args below hf happ hP hT
  exact ⟨k, o, h1, h2, h3, ⟨⟨r, m', e1, hp _ _ e2, e3⟩, hF⟩, hL⟩
theorem zPc_blind {G : zG} {As : List zV} {mem : zM} : FrameBlind (zPc G As mem) := by
  intro a U g mk h
  obtain ⟨h1, ⟨hI, om, hP, hK, hX⟩, h3⟩ := h
  exact ⟨h1, ⟨hI, om, hP, va_K.moved (u := U) (U := U.calling g mk a) (Vm.Alike.refl U.vm) hK, ⟨vk_S.moved (u := U) (U := U.calling g mk a) (Vm.Alike.refl U.vm) hX.1, fun i hi => vk_R.same (u := U) (U := U.calling g mk a) rfl (hX.2.1 i hi), va_Z.moved (u := U) (U := U.calling g mk a) (Vm.Alike.refl U.vm) hX.2.2.1, va_Nw.same (u := U) (U := U.calling g mk a) rfl rfl hX.2.2.2⟩⟩, h3⟩
def zwd : List zV → Nat
  | [] => 0
  | .inr (.inl _) :: t => 2 + zwd t
  | _ :: t => 1 + zwd t
theorem zwd_eq {G : zG} : ∀ (st : List zV), ((st.map (zv G)).map fun v => v.category).sum = zwd st
  | [] => rfl
  | .inl x :: t => by simp [zwd, zv, Value.category, ← zwd_eq (G := G) t]
  | .inr (.inl x) :: t => by simp [zwd, zv, Value.category, ← zwd_eq (G := G) t]
  | .inr (.inr (.inl x)) :: t => by simp [zwd, zv, Value.category, ← zwd_eq (G := G) t]
  | .inr (.inr (.inr ())) :: t => by simp [zwd, zv, Value.category, ← zwd_eq (G := G) t]
section
variable {p : Program} {l : Launch} {e : Env} {R : Room} {s : State} {m : MethodId} {args : Array Value} {below : List Frame} {meth : Method} {c : Code} {H : Heap} {locs : List Loc} {cells slots : Nat} {Q : State → Prop}
theorem z_call {G : zG} {post : Option zV → zM → Prop} {pc : Nat} {lsA : Array Slot} {st0 rest : List Value} {a : Array Value} (hr : va_Run p l e R s m args below meth c H locs cells slots 0 0 (F0 m pc lsA st0) rest (zQC G post a) (zA G)) (hS : va_S (zA G) s.heap H locs)
    (kk : ∀ (r : Option zV) (mem' : zM) (H1 : Heap) (locs1 : List Loc), post r mem' → zokO r → zokM mem' → va_P (zD G) vwCl (zC G mem') H1 → va_S (zA G) s.heap H1 locs1 → W p l e R s m args below meth c H1 locs1 cells slots Q (F0 m (pc + 3) lsA ((r.map (zv G)).toList ++ rest))) : W p l e R s m args below meth c H locs cells slots Q (F0 m pc lsA st0) := by
  intro T hT X
  obtain ⟨v, st₀, t, T', L, h0, X', hL, e1, e2, ⟨⟨r, mem', hv, hp, hok, hI, om, hP, hK, hX⟩, hz, hk⟩, st⟩ := hr T hT X
  have hv : v = r.map (zv G) := by cases hv; rfl
  subst hv
  rw [h0] at hz hk
  obtain ⟨t2, a1, b1⟩ := kk r mem' T'.heap (locs ++ L) hp hok om (by rw [e1]; exact hP)
    ⟨Nat.le_trans hS.1 (by rw [e1]; exact hz), fun q h1 h2 => by rw [e1, hk q (Nat.lt_of_lt_of_le h1 hS.1) h2]; exact hS.2.1 q h1 h2, fun q hq => by
      rcases List.mem_append.mp hq with h | h
      · exact hS.2.2 q h
      · exact hL q h⟩ T' rfl X'
  exact ⟨t2, st t2 a1, b1⟩
end
/-- what the tables say of a method that is called on an object of its own class -/
def zYv (y : MethodName) (cc : ByteArray) (nL : Nat) (ret : Option FieldType) (n : Nat) : Prop := Cond.code y cc nL ret ∈ ztb ∧ Cond.initialized y.cls ∈ ztb ∧ (y.cls ≠ "java/lang/invoke/MethodHandle" ∧ y.cls ≠ "java/lang/invoke/VarHandle") ∧ (parseMethodDescriptor y.desc).map (fun d => d.parameters.length) = some n ∧ Cond.instanceMethod y ∈ ztb ∧ Cond.selects y.cls y y ∈ ztb
/-- of a static one -/
def zYs (y : MethodName) (cc : ByteArray) (nL : Nat) (ret : Option FieldType) (n : Nat) : Prop := Cond.code y cc nL ret ∈ ztb ∧ Cond.initialized y.cls ∈ ztb ∧ (y.cls ≠ "java/lang/invoke/MethodHandle" ∧ y.cls ≠ "java/lang/invoke/VarHandle") ∧ (parseMethodDescriptor y.desc).map (fun d => d.parameters.length) = some n ∧ Cond.static y ∈ ztb
section
variable {l : Launch} {G : zG} {R : Room} {own : String} {cc : ByteArray} {nL : Nat} {ret : Option FieldType} {Z : List Frame → Array Value → State → State → Prop} {kc ks : Nat} {Ex : State → Prop} {pc : Nat} {ls st : List zV} {mem : zM}
theorem z_go {s U : State} {H : Heap} {locs : List Loc} {As : List zV} (hX : zX G s) (hK : va_K (zD G) vwCl (zTy G) s) (hI : zInj G) (hP : va_P (zD G) vwCl (zC G mem) H) (hS : va_S (zA G) s.heap H locs) (om : zokM mem) (hA : zokL As) (hU : U.heap = H) (hW : s.WarmedH U.vm) : zPc G As mem (As.map (zv G)).toArray U :=
  ⟨rfl, zWd.end hX hK hI hP hS om hU hW, hA⟩
theorem zokL.app {a b : List zV} (ha : zokL a) (hb : zokL b) : zokL (a ++ b) := fun v hv => (List.mem_append.mp hv).elim (ha v) (hb v)
/-- a call of an object's method, by its contract -/
theorem r_callV {y : MethodName} {bytes : ByteArray} {nL' : Nat} {ret' : Option FieldType} {d n index b ci : Nat} {As rest : List zV} {post : Option zV → zM → Prop} {T : u_T} {N : Nat} (hM : CT l G y bytes nL' ret' d (zR b :: As) mem post) (hY : zYv y bytes nL' ret' n) (hl : Cond.methodLink own index y ∈ ztb) (hL9 : zL b = (ci, zNf ci)) (hc9 : ci < 7) (hcl : vwCl[ci]? = some (y.cls, T, N)) (hn : As.length = n) (hst : st = As.reverse ++ zR b :: rest) (hR : d + 1 ≤ R.frames ∧ 8 + (nL' + 11) + 100 * d ≤ R.locals) (hw : zwd rest ≤ 8) (hd : decode cc pc = .ok (.invokevirtual index, 3))
    (kk : ∀ (r : Option zV) (mem' : zM), post r mem' → SW l G R own cc nL ret Z kc ks Ex (pc + 3) ls (r.toList ++ rest) mem') : SW l G R own cc nL ret Z kc ks Ex pc ls st mem := by
  intro p e s m args below meth c H locs lsA C hE hX hK hI hP hS hL ol os om
  obtain ⟨y1, y2, y3, y4, y5, y6⟩ := hY
  have hlt := zL_lt hL9 (by omega)
  have hAs : zokL As := fun v hv => os v (by rw [hst]; exact List.mem_append_left _ (List.mem_reverse.mpr hv))
  have hrs : zokL rest := fun v hv => os v (by rw [hst]; exact List.mem_append_right _ (List.mem_cons_of_mem _ hv))
  have cw : CallW R s args own y.cls index y bytes nL' ret' (Cond.code y bytes nL' ret' :: ztb) (zrm d) 0 0 n := ⟨callB_of n C.2.2.2.2.1 (zgoodIn y1) rfl rfl rfl (C.2.2.2.2.1 _ y2) (C.2.2.2.2.1 _ hl) ⟨y3.1, y3.2, y4⟩ hR, C.2.2.2.2.1 _ y5, C.2.2.2.2.1 _ y6⟩
  refine z_call (va_runV (As := As.map (zv G)) (rest := rest.map (zv G)) (b := G.2.2.1 b) (Ts := ztb) ⟨C.1, C.2.1, C.2.2.1, C.2.2.2.1, C.2.2.2.2.1⟩ hM cw ⟨zPc_blind, va_recv hK hP hcl (q0 := b) (by rw [zC_get hlt, zE_obj hL9 hc9]), fun U hU hW => z_go hX hK hI hP hS om (As := zR b :: As) (hAs.co trivial) hU hW⟩ rfl (by rw [List.length_map]; exact hn) hL.2.1 (by rw [hst]; simp [zv]) (lv_room (by rw [zwd_eq]; exact hw)) hd ⟨C.2.2.2.2.2.2.2.1, C.2.2.2.2.2.2.2.2⟩) hS (fun r mem' H1 locs1 hp hok om1 hP1 hS1 => ?_)
  have k9 := kk r mem' hp p e s m args below meth c H1 locs1 lsA C hE hX hK hI hP1 hS1 hL ol (zokL.app (fun v hv => hok v (by cases r with | none => simp at hv | some w => simp at hv; rw [hv])) hrs) om1
  rw [List.map_append] at k9
  have : (r.map (zv G)).toList = r.toList.map (zv G) := by cases r <;> rfl
  rw [this]
  exact k9
/-- a call of a static method -/
theorem r_callS {y : MethodName} {bytes : ByteArray} {nL' : Nat} {ret' : Option FieldType} {d n index : Nat} {As rest : List zV} {post : Option zV → zM → Prop} (hM : CT l G y bytes nL' ret' d As mem post) (hY : zYs y bytes nL' ret' n) (hl : Cond.methodLink own index y ∈ ztb) (hn : As.length = n) (hst : st = As.reverse ++ rest) (hR : d + 1 ≤ R.frames ∧ 8 + (nL' + 11) + 100 * d ≤ R.locals) (hw : zwd rest ≤ 8) (hd : decode cc pc = .ok (.invokestatic index, 3))
    (kk : ∀ (r : Option zV) (mem' : zM), post r mem' → SW l G R own cc nL ret Z kc ks Ex (pc + 3) ls (r.toList ++ rest) mem') : SW l G R own cc nL ret Z kc ks Ex pc ls st mem := by
  intro p e s m args below meth c H locs lsA C hE hX hK hI hP hS hL ol os om
  obtain ⟨y1, y2, y3, y4, y5⟩ := hY
  have hAs : zokL As := fun v hv => os v (by rw [hst]; exact List.mem_append_left _ (List.mem_reverse.mpr hv))
  have hrs : zokL rest := fun v hv => os v (by rw [hst]; exact List.mem_append_right _ hv)
  have cw : CallB R s args own index y bytes nL' ret' (Cond.code y bytes nL' ret' :: ztb) (zrm d) 0 0 n ∧ (Cond.static y).before args s = true := ⟨callB_of n C.2.2.2.2.1 (zgoodIn y1) rfl rfl rfl (C.2.2.2.2.1 _ y2) (C.2.2.2.2.1 _ hl) ⟨y3.1, y3.2, y4⟩ hR, C.2.2.2.2.1 _ y5⟩
  refine z_call (va_runS (As := As.map (zv G)) (rest := rest.map (zv G)) (Ts := ztb) ⟨C.1, C.2.1, C.2.2.1, C.2.2.2.1, C.2.2.2.2.1⟩ hM cw ⟨zPc_blind, fun U hU hW => z_go hX hK hI hP hS om (As := As) hAs hU hW⟩ rfl (by rw [List.length_map]; exact hn) hL.2.1 (by rw [hst]; simp) (lv_room (by rw [zwd_eq]; exact hw)) hd ⟨C.2.2.2.2.2.2.2.1, C.2.2.2.2.2.2.2.2⟩) hS (fun r mem' H1 locs1 hp hok om1 hP1 hS1 => ?_)
  have k9 := kk r mem' hp p e s m args below meth c H1 locs1 lsA C hE hX hK hI hP1 hS1 hL ol (zokL.app (fun v hv => hok v (by cases r with | none => simp at hv | some w => simp at hv; rw [hv])) hrs) om1
  rw [List.map_append] at k9
  have : (r.map (zv G)).toList = r.toList.map (zv G) := by cases r <;> rfl
  rw [this]
  exact k9
/-- a static method of a nest mate -/
theorem r_callSN {y : MethodName} {bytes : ByteArray} {nL' : Nat} {ret' : Option FieldType} {d n index : Nat} {host : String} {As rest : List zV} {post : Option zV → zM → Prop} (hM : CT l G y bytes nL' ret' d As mem post) (hY : zYs y bytes nL' ret' n) (hl : ∀ s, zX G s → va_Nw (.methodLinkNest own index y host) s) (hn : As.length = n) (hst : st = As.reverse ++ rest) (hR : d + 1 ≤ R.frames ∧ 8 + (nL' + 11) + 100 * d ≤ R.locals) (hw : zwd rest ≤ 8) (hd : decode cc pc = .ok (.invokestatic index, 3))
    (kk : ∀ (r : Option zV) (mem' : zM), post r mem' → SW l G R own cc nL ret Z kc ks Ex (pc + 3) ls (r.toList ++ rest) mem') : SW l G R own cc nL ret Z kc ks Ex pc ls st mem := by
  intro p e s m args below meth c H locs lsA C hE hX hK hI hP hS hL ol os om
  obtain ⟨y1, y2, y3, y4, y5⟩ := hY
  have hAs : zokL As := fun v hv => os v (by rw [hst]; exact List.mem_append_left _ (List.mem_reverse.mpr hv))
  have hrs : zokL rest := fun v hv => os v (by rw [hst]; exact List.mem_append_right _ hv)
  have cw : va_CN R s args own index y host bytes nL' ret' (Cond.code y bytes nL' ret' :: ztb) (zrm d) 0 0 n ∧ (Cond.static y).before args s = true ∧ True := ⟨va_cnB n C.2.2.2.2.1 (zgoodIn y1) rfl rfl rfl (hl s hX) (C.2.2.2.2.1 _ y2) ⟨y3.1, y3.2, y4⟩ hR, C.2.2.2.2.1 _ y5, trivial⟩
  refine z_call (va_runSN (As := As.map (zv G)) (rest := rest.map (zv G)) (Ts := ztb) ⟨C.1, C.2.1, C.2.2.1, C.2.2.2.1, C.2.2.2.2.1⟩ hM cw ⟨zPc_blind, fun U hU hW => z_go hX hK hI hP hS om (As := As) hAs hU hW⟩ rfl (by rw [List.length_map]; exact hn) hL.2.1 (by rw [hst]; simp) (lv_room (by rw [zwd_eq]; exact hw)) hd ⟨C.2.2.2.2.2.2.2.1, C.2.2.2.2.2.2.2.2⟩) hS (fun r mem' H1 locs1 hp hok om1 hP1 hS1 => ?_)
  have k9 := kk r mem' hp p e s m args below meth c H1 locs1 lsA C hE hX hK hI hP1 hS1 hL ol (zokL.app (fun v hv => hok v (by cases r with | none => simp at hv | some w => simp at hv; rw [hv])) hrs) om1
  rw [List.map_append] at k9
  have : (r.map (zv G)).toList = r.toList.map (zv G) := by cases r <;> rfl
  rw [this]
  exact k9
end
end
section
/-! ===== rows of calls with one answer; the fields, methods and constants that the classes link ===== -/
/-- one answer, one world behind it -/
def zP1 (v : zV) (m : zM) : Option zV → zM → Prop := fun r m' => r = some v ∧ m' = m
def zP0 (m : zM) : Option zV → zM → Prop := fun r m' => r = none ∧ m' = m
theorem zP1.i {v : zV} {m : zM} : zP1 v m (some v) m := ⟨rfl, rfl⟩
theorem zP1.of {v w : zV} {m m2 : zM} (h : v = w) (h2 : m = m2) : zP1 w m2 (some v) m := ⟨by rw [h], h2⟩
theorem zP0.i {m : zM} : zP0 m none m := ⟨rfl, rfl⟩
theorem zP0.of {m m2 : zM} (h2 : m = m2) : zP0 m2 none m := ⟨rfl, h2⟩
def zCl (own : String) (index : Nat) (y : MethodName) (cc : ByteArray) (nL : Nat) (ret : Option FieldType) (n ci : Nat) : Prop := zYv y cc nL ret n ∧ Cond.methodLink own index y ∈ ztb ∧ ci < 7 ∧ ∃ (T : u_T) (N : Nat), vwCl[ci]? = some (y.cls, T, N)
def zCs (own : String) (index : Nat) (y : MethodName) (cc : ByteArray) (nL : Nat) (ret : Option FieldType) (n : Nat) : Prop := zYs y cc nL ret n ∧ Cond.methodLink own index y ∈ ztb
def zb (b : Bool) : Int := if b then 1 else 0
theorem zb_01 (b : Bool) : zb b = 0 ∨ zb b = 1 := by cases b <;> simp [zb]
theorem zb_t : zb true = 1 := rfl
theorem zb_f : zb false = 0 := rfl
section
variable {l : Launch} {G : zG} {R : Room} {own : String} {cc : ByteArray} {nL : Nat} {ret : Option FieldType} {Z : List Frame → Array Value → State → State → Prop} {kc ks : Nat} {Ex : State → Prop} {pc : Nat} {ls st : List zV} {mem mem' : zM}
variable {y : MethodName} {bytes : ByteArray} {nL' : Nat} {ret' : Option FieldType} {d index b ci : Nat} {v a1 a2 a3 a4 a5 : zV}
theorem r_ifb_eq {x : Bool} {off : Int} {tgt : Nat} (hd : decode cc pc = .ok (.ifCond .eq off, 3)) (ht : (pc : Int) + off = (tgt : Int)) (kt : x = false → SW l G R own cc nL ret Z kc ks Ex tgt ls st mem) (kf : x = true → SW l G R own cc nL ret Z kc ks Ex (pc + 3) ls st mem) : SW l G R own cc nL ret Z kc ks Ex pc ls (zI (zb x) :: st) mem :=
  r_if_eq hd ht (fun h => kt (by cases x; rfl; simp [zb] at h)) (fun h => kf (by cases x; exact absurd rfl h; rfl))
theorem r_ifb_ne {x : Bool} {off : Int} {tgt : Nat} (hd : decode cc pc = .ok (.ifCond .ne off, 3)) (ht : (pc : Int) + off = (tgt : Int)) (kt : x = true → SW l G R own cc nL ret Z kc ks Ex tgt ls st mem) (kf : x = false → SW l G R own cc nL ret Z kc ks Ex (pc + 3) ls st mem) : SW l G R own cc nL ret Z kc ks Ex pc ls (zI (zb x) :: st) mem :=
  r_if_ne hd ht (fun h => kt (by cases x; exact absurd rfl h; rfl)) (fun h => kf (by cases x; rfl; simp [zb] at h))
theorem r_v0 (hM : CT l G y bytes nL' ret' d (zR b :: []) mem (zP1 v mem')) (hk : zCl own index y bytes nL' ret' 0 ci) (hL9 : zL b = (ci, zNf ci)) (hd : decode cc pc = .ok (.invokevirtual index, 3)) (kk : SW l G R own cc nL ret Z kc ks Ex (pc + 3) ls (v :: st) mem') (hR : d + 1 ≤ R.frames ∧ 8 + (nL' + 11) + 100 * d ≤ R.locals := by exact ⟨Nat.le_of_ble_eq_true rfl, Nat.le_of_ble_eq_true rfl⟩) (hw : zwd st ≤ 8 := by exact Nat.le_of_ble_eq_true rfl) : SW l G R own cc nL ret Z kc ks Ex pc ls (zR b :: st) mem := by
  obtain ⟨h1, h2, h3, T, N, h4⟩ := hk
  exact r_callV hM h1 h2 hL9 h3 h4 rfl rfl hR hw hd (fun r m9 h9 => by obtain ⟨rfl, rfl⟩ := h9; exact kk)
theorem r_w0 (hM : CT l G y bytes nL' ret' d (zR b :: []) mem (zP0 mem')) (hk : zCl own index y bytes nL' ret' 0 ci) (hL9 : zL b = (ci, zNf ci)) (hd : decode cc pc = .ok (.invokevirtual index, 3)) (kk : SW l G R own cc nL ret Z kc ks Ex (pc + 3) ls st mem') (hR : d + 1 ≤ R.frames ∧ 8 + (nL' + 11) + 100 * d ≤ R.locals := by exact ⟨Nat.le_of_ble_eq_true rfl, Nat.le_of_ble_eq_true rfl⟩) (hw : zwd st ≤ 8 := by exact Nat.le_of_ble_eq_true rfl) : SW l G R own cc nL ret Z kc ks Ex pc ls (zR b :: st) mem := by
  obtain ⟨h1, h2, h3, T, N, h4⟩ := hk
  exact r_callV hM h1 h2 hL9 h3 h4 rfl rfl hR hw hd (fun r m9 h9 => by obtain ⟨rfl, rfl⟩ := h9; exact kk)
theorem r_v1 (hM : CT l G y bytes nL' ret' d (zR b :: [a1]) mem (zP1 v mem')) (hk : zCl own index y bytes nL' ret' 1 ci) (hL9 : zL b = (ci, zNf ci)) (hd : decode cc pc = .ok (.invokevirtual index, 3)) (kk : SW l G R own cc nL ret Z kc ks Ex (pc + 3) ls (v :: st) mem') (hR : d + 1 ≤ R.frames ∧ 8 + (nL' + 11) + 100 * d ≤ R.locals := by exact ⟨Nat.le_of_ble_eq_true rfl, Nat.le_of_ble_eq_true rfl⟩) (hw : zwd st ≤ 8 := by exact Nat.le_of_ble_eq_true rfl) : SW l G R own cc nL ret Z kc ks Ex pc ls (a1 :: zR b :: st) mem := by
  obtain ⟨h1, h2, h3, T, N, h4⟩ := hk
  exact r_callV hM h1 h2 hL9 h3 h4 rfl rfl hR hw hd (fun r m9 h9 => by obtain ⟨rfl, rfl⟩ := h9; exact kk)
theorem r_w1 (hM : CT l G y bytes nL' ret' d (zR b :: [a1]) mem (zP0 mem')) (hk : zCl own index y bytes nL' ret' 1 ci) (hL9 : zL b = (ci, zNf ci)) (hd : decode cc pc = .ok (.invokevirtual index, 3)) (kk : SW l G R own cc nL ret Z kc ks Ex (pc + 3) ls st mem') (hR : d + 1 ≤ R.frames ∧ 8 + (nL' + 11) + 100 * d ≤ R.locals := by exact ⟨Nat.le_of_ble_eq_true rfl, Nat.le_of_ble_eq_true rfl⟩) (hw : zwd st ≤ 8 := by exact Nat.le_of_ble_eq_true rfl) : SW l G R own cc nL ret Z kc ks Ex pc ls (a1 :: zR b :: st) mem := by
  obtain ⟨h1, h2, h3, T, N, h4⟩ := hk
  exact r_callV hM h1 h2 hL9 h3 h4 rfl rfl hR hw hd (fun r m9 h9 => by obtain ⟨rfl, rfl⟩ := h9; exact kk)
theorem r_s1 (hM : CT l G y bytes nL' ret' d [a1] mem (zP1 v mem')) (hk : zCs own index y bytes nL' ret' 1) (hd : decode cc pc = .ok (.invokestatic index, 3)) (kk : SW l G R own cc nL ret Z kc ks Ex (pc + 3) ls (v :: st) mem') (hR : d + 1 ≤ R.frames ∧ 8 + (nL' + 11) + 100 * d ≤ R.locals := by exact ⟨Nat.le_of_ble_eq_true rfl, Nat.le_of_ble_eq_true rfl⟩) (hw : zwd st ≤ 8 := by exact Nat.le_of_ble_eq_true rfl) : SW l G R own cc nL ret Z kc ks Ex pc ls (a1 :: st) mem := by
  obtain ⟨h1, h2⟩ := hk
  exact r_callS hM h1 h2 rfl rfl hR hw hd (fun r m9 h9 => by obtain ⟨rfl, rfl⟩ := h9; exact kk)
theorem r_t1 (hM : CT l G y bytes nL' ret' d [a1] mem (zP0 mem')) (hk : zCs own index y bytes nL' ret' 1) (hd : decode cc pc = .ok (.invokestatic index, 3)) (kk : SW l G R own cc nL ret Z kc ks Ex (pc + 3) ls st mem') (hR : d + 1 ≤ R.frames ∧ 8 + (nL' + 11) + 100 * d ≤ R.locals := by exact ⟨Nat.le_of_ble_eq_true rfl, Nat.le_of_ble_eq_true rfl⟩) (hw : zwd st ≤ 8 := by exact Nat.le_of_ble_eq_true rfl) : SW l G R own cc nL ret Z kc ks Ex pc ls (a1 :: st) mem := by
  obtain ⟨h1, h2⟩ := hk
  exact r_callS hM h1 h2 rfl rfl hR hw hd (fun r m9 h9 => by obtain ⟨rfl, rfl⟩ := h9; exact kk)
theorem r_v2 (hM : CT l G y bytes nL' ret' d (zR b :: [a1, a2]) mem (zP1 v mem')) (hk : zCl own index y bytes nL' ret' 2 ci) (hL9 : zL b = (ci, zNf ci)) (hd : decode cc pc = .ok (.invokevirtual index, 3)) (kk : SW l G R own cc nL ret Z kc ks Ex (pc + 3) ls (v :: st) mem') (hR : d + 1 ≤ R.frames ∧ 8 + (nL' + 11) + 100 * d ≤ R.locals := by exact ⟨Nat.le_of_ble_eq_true rfl, Nat.le_of_ble_eq_true rfl⟩) (hw : zwd st ≤ 8 := by exact Nat.le_of_ble_eq_true rfl) : SW l G R own cc nL ret Z kc ks Ex pc ls (a2 :: a1 :: zR b :: st) mem := by
  obtain ⟨h1, h2, h3, T, N, h4⟩ := hk
  exact r_callV hM h1 h2 hL9 h3 h4 rfl rfl hR hw hd (fun r m9 h9 => by obtain ⟨rfl, rfl⟩ := h9; exact kk)
theorem r_w2 (hM : CT l G y bytes nL' ret' d (zR b :: [a1, a2]) mem (zP0 mem')) (hk : zCl own index y bytes nL' ret' 2 ci) (hL9 : zL b = (ci, zNf ci)) (hd : decode cc pc = .ok (.invokevirtual index, 3)) (kk : SW l G R own cc nL ret Z kc ks Ex (pc + 3) ls st mem') (hR : d + 1 ≤ R.frames ∧ 8 + (nL' + 11) + 100 * d ≤ R.locals := by exact ⟨Nat.le_of_ble_eq_true rfl, Nat.le_of_ble_eq_true rfl⟩) (hw : zwd st ≤ 8 := by exact Nat.le_of_ble_eq_true rfl) : SW l G R own cc nL ret Z kc ks Ex pc ls (a2 :: a1 :: zR b :: st) mem := by
  obtain ⟨h1, h2, h3, T, N, h4⟩ := hk
  exact r_callV hM h1 h2 hL9 h3 h4 rfl rfl hR hw hd (fun r m9 h9 => by obtain ⟨rfl, rfl⟩ := h9; exact kk)
theorem r_s2 (hM : CT l G y bytes nL' ret' d [a1, a2] mem (zP1 v mem')) (hk : zCs own index y bytes nL' ret' 2) (hd : decode cc pc = .ok (.invokestatic index, 3)) (kk : SW l G R own cc nL ret Z kc ks Ex (pc + 3) ls (v :: st) mem') (hR : d + 1 ≤ R.frames ∧ 8 + (nL' + 11) + 100 * d ≤ R.locals := by exact ⟨Nat.le_of_ble_eq_true rfl, Nat.le_of_ble_eq_true rfl⟩) (hw : zwd st ≤ 8 := by exact Nat.le_of_ble_eq_true rfl) : SW l G R own cc nL ret Z kc ks Ex pc ls (a2 :: a1 :: st) mem := by
  obtain ⟨h1, h2⟩ := hk
  exact r_callS hM h1 h2 rfl rfl hR hw hd (fun r m9 h9 => by obtain ⟨rfl, rfl⟩ := h9; exact kk)
theorem r_t2 (hM : CT l G y bytes nL' ret' d [a1, a2] mem (zP0 mem')) (hk : zCs own index y bytes nL' ret' 2) (hd : decode cc pc = .ok (.invokestatic index, 3)) (kk : SW l G R own cc nL ret Z kc ks Ex (pc + 3) ls st mem') (hR : d + 1 ≤ R.frames ∧ 8 + (nL' + 11) + 100 * d ≤ R.locals := by exact ⟨Nat.le_of_ble_eq_true rfl, Nat.le_of_ble_eq_true rfl⟩) (hw : zwd st ≤ 8 := by exact Nat.le_of_ble_eq_true rfl) : SW l G R own cc nL ret Z kc ks Ex pc ls (a2 :: a1 :: st) mem := by
  obtain ⟨h1, h2⟩ := hk
  exact r_callS hM h1 h2 rfl rfl hR hw hd (fun r m9 h9 => by obtain ⟨rfl, rfl⟩ := h9; exact kk)
theorem r_v3 (hM : CT l G y bytes nL' ret' d (zR b :: [a1, a2, a3]) mem (zP1 v mem')) (hk : zCl own index y bytes nL' ret' 3 ci) (hL9 : zL b = (ci, zNf ci)) (hd : decode cc pc = .ok (.invokevirtual index, 3)) (kk : SW l G R own cc nL ret Z kc ks Ex (pc + 3) ls (v :: st) mem') (hR : d + 1 ≤ R.frames ∧ 8 + (nL' + 11) + 100 * d ≤ R.locals := by exact ⟨Nat.le_of_ble_eq_true rfl, Nat.le_of_ble_eq_true rfl⟩) (hw : zwd st ≤ 8 := by exact Nat.le_of_ble_eq_true rfl) : SW l G R own cc nL ret Z kc ks Ex pc ls (a3 :: a2 :: a1 :: zR b :: st) mem := by
  obtain ⟨h1, h2, h3, T, N, h4⟩ := hk
  exact r_callV hM h1 h2 hL9 h3 h4 rfl rfl hR hw hd (fun r m9 h9 => by obtain ⟨rfl, rfl⟩ := h9; exact kk)
theorem r_w3 (hM : CT l G y bytes nL' ret' d (zR b :: [a1, a2, a3]) mem (zP0 mem')) (hk : zCl own index y bytes nL' ret' 3 ci) (hL9 : zL b = (ci, zNf ci)) (hd : decode cc pc = .ok (.invokevirtual index, 3)) (kk : SW l G R own cc nL ret Z kc ks Ex (pc + 3) ls st mem') (hR : d + 1 ≤ R.frames ∧ 8 + (nL' + 11) + 100 * d ≤ R.locals := by exact ⟨Nat.le_of_ble_eq_true rfl, Nat.le_of_ble_eq_true rfl⟩) (hw : zwd st ≤ 8 := by exact Nat.le_of_ble_eq_true rfl) : SW l G R own cc nL ret Z kc ks Ex pc ls (a3 :: a2 :: a1 :: zR b :: st) mem := by
  obtain ⟨h1, h2, h3, T, N, h4⟩ := hk
  exact r_callV hM h1 h2 hL9 h3 h4 rfl rfl hR hw hd (fun r m9 h9 => by obtain ⟨rfl, rfl⟩ := h9; exact kk)
theorem r_s3 (hM : CT l G y bytes nL' ret' d [a1, a2, a3] mem (zP1 v mem')) (hk : zCs own index y bytes nL' ret' 3) (hd : decode cc pc = .ok (.invokestatic index, 3)) (kk : SW l G R own cc nL ret Z kc ks Ex (pc + 3) ls (v :: st) mem') (hR : d + 1 ≤ R.frames ∧ 8 + (nL' + 11) + 100 * d ≤ R.locals := by exact ⟨Nat.le_of_ble_eq_true rfl, Nat.le_of_ble_eq_true rfl⟩) (hw : zwd st ≤ 8 := by exact Nat.le_of_ble_eq_true rfl) : SW l G R own cc nL ret Z kc ks Ex pc ls (a3 :: a2 :: a1 :: st) mem := by
  obtain ⟨h1, h2⟩ := hk
  exact r_callS hM h1 h2 rfl rfl hR hw hd (fun r m9 h9 => by obtain ⟨rfl, rfl⟩ := h9; exact kk)
theorem r_t3 (hM : CT l G y bytes nL' ret' d [a1, a2, a3] mem (zP0 mem')) (hk : zCs own index y bytes nL' ret' 3) (hd : decode cc pc = .ok (.invokestatic index, 3)) (kk : SW l G R own cc nL ret Z kc ks Ex (pc + 3) ls st mem') (hR : d + 1 ≤ R.frames ∧ 8 + (nL' + 11) + 100 * d ≤ R.locals := by exact ⟨Nat.le_of_ble_eq_true rfl, Nat.le_of_ble_eq_true rfl⟩) (hw : zwd st ≤ 8 := by exact Nat.le_of_ble_eq_true rfl) : SW l G R own cc nL ret Z kc ks Ex pc ls (a3 :: a2 :: a1 :: st) mem := by
  obtain ⟨h1, h2⟩ := hk
  exact r_callS hM h1 h2 rfl rfl hR hw hd (fun r m9 h9 => by obtain ⟨rfl, rfl⟩ := h9; exact kk)
theorem r_v4 (hM : CT l G y bytes nL' ret' d (zR b :: [a1, a2, a3, a4]) mem (zP1 v mem')) (hk : zCl own index y bytes nL' ret' 4 ci) (hL9 : zL b = (ci, zNf ci)) (hd : decode cc pc = .ok (.invokevirtual index, 3)) (kk : SW l G R own cc nL ret Z kc ks Ex (pc + 3) ls (v :: st) mem') (hR : d + 1 ≤ R.frames ∧ 8 + (nL' + 11) + 100 * d ≤ R.locals := by exact ⟨Nat.le_of_ble_eq_true rfl, Nat.le_of_ble_eq_true rfl⟩) (hw : zwd st ≤ 8 := by exact Nat.le_of_ble_eq_true rfl) : SW l G R own cc nL ret Z kc ks Ex pc ls (a4 :: a3 :: a2 :: a1 :: zR b :: st) mem := by
  obtain ⟨h1, h2, h3, T, N, h4⟩ := hk
  exact r_callV hM h1 h2 hL9 h3 h4 rfl rfl hR hw hd (fun r m9 h9 => by obtain ⟨rfl, rfl⟩ := h9; exact kk)
theorem r_w4 (hM : CT l G y bytes nL' ret' d (zR b :: [a1, a2, a3, a4]) mem (zP0 mem')) (hk : zCl own index y bytes nL' ret' 4 ci) (hL9 : zL b = (ci, zNf ci)) (hd : decode cc pc = .ok (.invokevirtual index, 3)) (kk : SW l G R own cc nL ret Z kc ks Ex (pc + 3) ls st mem') (hR : d + 1 ≤ R.frames ∧ 8 + (nL' + 11) + 100 * d ≤ R.locals := by exact ⟨Nat.le_of_ble_eq_true rfl, Nat.le_of_ble_eq_true rfl⟩) (hw : zwd st ≤ 8 := by exact Nat.le_of_ble_eq_true rfl) : SW l G R own cc nL ret Z kc ks Ex pc ls (a4 :: a3 :: a2 :: a1 :: zR b :: st) mem := by
  obtain ⟨h1, h2, h3, T, N, h4⟩ := hk
  exact r_callV hM h1 h2 hL9 h3 h4 rfl rfl hR hw hd (fun r m9 h9 => by obtain ⟨rfl, rfl⟩ := h9; exact kk)
theorem r_s4 (hM : CT l G y bytes nL' ret' d [a1, a2, a3, a4] mem (zP1 v mem')) (hk : zCs own index y bytes nL' ret' 4) (hd : decode cc pc = .ok (.invokestatic index, 3)) (kk : SW l G R own cc nL ret Z kc ks Ex (pc + 3) ls (v :: st) mem') (hR : d + 1 ≤ R.frames ∧ 8 + (nL' + 11) + 100 * d ≤ R.locals := by exact ⟨Nat.le_of_ble_eq_true rfl, Nat.le_of_ble_eq_true rfl⟩) (hw : zwd st ≤ 8 := by exact Nat.le_of_ble_eq_true rfl) : SW l G R own cc nL ret Z kc ks Ex pc ls (a4 :: a3 :: a2 :: a1 :: st) mem := by
  obtain ⟨h1, h2⟩ := hk
  exact r_callS hM h1 h2 rfl rfl hR hw hd (fun r m9 h9 => by obtain ⟨rfl, rfl⟩ := h9; exact kk)
theorem r_t4 (hM : CT l G y bytes nL' ret' d [a1, a2, a3, a4] mem (zP0 mem')) (hk : zCs own index y bytes nL' ret' 4) (hd : decode cc pc = .ok (.invokestatic index, 3)) (kk : SW l G R own cc nL ret Z kc ks Ex (pc + 3) ls st mem') (hR : d + 1 ≤ R.frames ∧ 8 + (nL' + 11) + 100 * d ≤ R.locals := by exact ⟨Nat.le_of_ble_eq_true rfl, Nat.le_of_ble_eq_true rfl⟩) (hw : zwd st ≤ 8 := by exact Nat.le_of_ble_eq_true rfl) : SW l G R own cc nL ret Z kc ks Ex pc ls (a4 :: a3 :: a2 :: a1 :: st) mem := by
  obtain ⟨h1, h2⟩ := hk
  exact r_callS hM h1 h2 rfl rfl hR hw hd (fun r m9 h9 => by obtain ⟨rfl, rfl⟩ := h9; exact kk)
theorem r_v5 (hM : CT l G y bytes nL' ret' d (zR b :: [a1, a2, a3, a4, a5]) mem (zP1 v mem')) (hk : zCl own index y bytes nL' ret' 5 ci) (hL9 : zL b = (ci, zNf ci)) (hd : decode cc pc = .ok (.invokevirtual index, 3)) (kk : SW l G R own cc nL ret Z kc ks Ex (pc + 3) ls (v :: st) mem') (hR : d + 1 ≤ R.frames ∧ 8 + (nL' + 11) + 100 * d ≤ R.locals := by exact ⟨Nat.le_of_ble_eq_true rfl, Nat.le_of_ble_eq_true rfl⟩) (hw : zwd st ≤ 8 := by exact Nat.le_of_ble_eq_true rfl) : SW l G R own cc nL ret Z kc ks Ex pc ls (a5 :: a4 :: a3 :: a2 :: a1 :: zR b :: st) mem := by
  obtain ⟨h1, h2, h3, T, N, h4⟩ := hk
  exact r_callV hM h1 h2 hL9 h3 h4 rfl rfl hR hw hd (fun r m9 h9 => by obtain ⟨rfl, rfl⟩ := h9; exact kk)
theorem r_w5 (hM : CT l G y bytes nL' ret' d (zR b :: [a1, a2, a3, a4, a5]) mem (zP0 mem')) (hk : zCl own index y bytes nL' ret' 5 ci) (hL9 : zL b = (ci, zNf ci)) (hd : decode cc pc = .ok (.invokevirtual index, 3)) (kk : SW l G R own cc nL ret Z kc ks Ex (pc + 3) ls st mem') (hR : d + 1 ≤ R.frames ∧ 8 + (nL' + 11) + 100 * d ≤ R.locals := by exact ⟨Nat.le_of_ble_eq_true rfl, Nat.le_of_ble_eq_true rfl⟩) (hw : zwd st ≤ 8 := by exact Nat.le_of_ble_eq_true rfl) : SW l G R own cc nL ret Z kc ks Ex pc ls (a5 :: a4 :: a3 :: a2 :: a1 :: zR b :: st) mem := by
  obtain ⟨h1, h2, h3, T, N, h4⟩ := hk
  exact r_callV hM h1 h2 hL9 h3 h4 rfl rfl hR hw hd (fun r m9 h9 => by obtain ⟨rfl, rfl⟩ := h9; exact kk)
theorem r_s5 (hM : CT l G y bytes nL' ret' d [a1, a2, a3, a4, a5] mem (zP1 v mem')) (hk : zCs own index y bytes nL' ret' 5) (hd : decode cc pc = .ok (.invokestatic index, 3)) (kk : SW l G R own cc nL ret Z kc ks Ex (pc + 3) ls (v :: st) mem') (hR : d + 1 ≤ R.frames ∧ 8 + (nL' + 11) + 100 * d ≤ R.locals := by exact ⟨Nat.le_of_ble_eq_true rfl, Nat.le_of_ble_eq_true rfl⟩) (hw : zwd st ≤ 8 := by exact Nat.le_of_ble_eq_true rfl) : SW l G R own cc nL ret Z kc ks Ex pc ls (a5 :: a4 :: a3 :: a2 :: a1 :: st) mem := by
  obtain ⟨h1, h2⟩ := hk
  exact r_callS hM h1 h2 rfl rfl hR hw hd (fun r m9 h9 => by obtain ⟨rfl, rfl⟩ := h9; exact kk)
theorem r_t5 (hM : CT l G y bytes nL' ret' d [a1, a2, a3, a4, a5] mem (zP0 mem')) (hk : zCs own index y bytes nL' ret' 5) (hd : decode cc pc = .ok (.invokestatic index, 3)) (kk : SW l G R own cc nL ret Z kc ks Ex (pc + 3) ls st mem') (hR : d + 1 ≤ R.frames ∧ 8 + (nL' + 11) + 100 * d ≤ R.locals := by exact ⟨Nat.le_of_ble_eq_true rfl, Nat.le_of_ble_eq_true rfl⟩) (hw : zwd st ≤ 8 := by exact Nat.le_of_ble_eq_true rfl) : SW l G R own cc nL ret Z kc ks Ex pc ls (a5 :: a4 :: a3 :: a2 :: a1 :: st) mem := by
  obtain ⟨h1, h2⟩ := hk
  exact r_callS hM h1 h2 rfl rfl hR hw hd (fun r m9 h9 => by obtain ⟨rfl, rfl⟩ := h9; exact kk)
theorem r_sN3 (hM : CT l G yX5_isWithin cX5_isWithin 3 (some .boolean) d [a1, a2, a3] mem (zP1 v mem')) (hY : zYs yX5_isWithin cX5_isWithin 3 (some .boolean) 3) (hd : decode cc pc = .ok (.invokestatic 162, 3)) (kk : SW l G R RX2 cc nL ret Z kc ks Ex (pc + 3) ls (v :: st) mem') (hR : d + 1 ≤ R.frames ∧ 8 + (3 + 11) + 100 * d ≤ R.locals := by exact ⟨Nat.le_of_ble_eq_true rfl, Nat.le_of_ble_eq_true rfl⟩) (hw : zwd st ≤ 8 := by exact Nat.le_of_ble_eq_true rfl) : SW l G R RX2 cc nL ret Z kc ks Ex pc ls (a3 :: a2 :: a1 :: st) mem :=
  r_callSN hM hY (fun s h => h.2.2.2) rfl rfl hR hw hd (fun r m9 h9 => by obtain ⟨rfl, rfl⟩ := h9; exact kk)
end
theorem ztb_at {w : Cond} (i : Nat) (h : lw_tbl[i]? = some w) (hg : goodWord w = true) : w ∈ ztb := List.mem_filter.mpr ⟨List.mem_of_getElem? h, hg⟩
theorem inX0z : ∀ w ∈ u_ws RX0 TX0 11, w ∈ ztb := by decide +kernel
theorem inX1z : ∀ w ∈ u_ws RX1 TX1 3, w ∈ ztb := by decide +kernel
theorem inX2z : ∀ w ∈ u_ws RX2 TX2 15, w ∈ ztb := by decide +kernel
theorem inX3z : ∀ w ∈ u_ws RX3 TX3 3, w ∈ ztb := by decide +kernel
theorem inX4z : ∀ w ∈ u_ws RX4 TX4 4, w ∈ ztb := by decide +kernel
theorem inX5z : ∀ w ∈ u_ws RX5 TX5 9, w ∈ ztb := by decide +kernel
theorem inX6z : ∀ w ∈ u_ws RX6 TX6 29, w ∈ ztb := by decide +kernel
theorem fX0_9 : zFd RX0 9 0 0 0 := ⟨RX0, TX0, rfl, inX0z, by decide, by decide, rfl, (ztb_at 101 (by decide +kernel) (by decide +kernel))⟩
theorem fX0_15 : zFd RX0 15 0 1 2 := ⟨RX0, TX0, rfl, inX0z, by decide, by decide, rfl, (ztb_at 104 (by decide +kernel) (by decide +kernel))⟩
theorem fX0_19 : zFd RX0 19 0 2 2 := ⟨RX0, TX0, rfl, inX0z, by decide, by decide, rfl, (ztb_at 106 (by decide +kernel) (by decide +kernel))⟩
theorem fX0_22 : zFd RX0 22 0 3 2 := ⟨RX0, TX0, rfl, inX0z, by decide, by decide, rfl, (ztb_at 109 (by decide +kernel) (by decide +kernel))⟩
theorem fX0_25 : zFd RX0 25 0 4 0 := ⟨RX0, TX0, rfl, inX0z, by decide, by decide, rfl, (ztb_at 110 (by decide +kernel) (by decide +kernel))⟩
theorem fX0_28 : zFd RX0 28 0 5 2 := ⟨RX0, TX0, rfl, inX0z, by decide, by decide, rfl, (ztb_at 113 (by decide +kernel) (by decide +kernel))⟩
theorem fX0_31 : zFd RX0 31 0 6 2 := ⟨RX0, TX0, rfl, inX0z, by decide, by decide, rfl, (ztb_at 115 (by decide +kernel) (by decide +kernel))⟩
theorem fX0_34 : zFd RX0 34 0 7 2 := ⟨RX0, TX0, rfl, inX0z, by decide, by decide, rfl, (ztb_at 117 (by decide +kernel) (by decide +kernel))⟩
theorem fX0_37 : zFd RX0 37 0 8 0 := ⟨RX0, TX0, rfl, inX0z, by decide, by decide, rfl, (ztb_at 119 (by decide +kernel) (by decide +kernel))⟩
theorem fX0_40 : zFd RX0 40 0 9 0 := ⟨RX0, TX0, rfl, inX0z, by decide, by decide, rfl, (ztb_at 122 (by decide +kernel) (by decide +kernel))⟩
theorem fX0_43 : zFd RX0 43 0 10 0 := ⟨RX0, TX0, rfl, inX0z, by decide, by decide, rfl, (ztb_at 124 (by decide +kernel) (by decide +kernel))⟩
theorem fX2_9 : zFd RX2 9 2 0 2 := ⟨RX2, TX2, rfl, inX2z, by decide, by decide, rfl, (ztb_at 222 (by decide +kernel) (by decide +kernel))⟩
theorem fX2_15 : zFd RX2 15 2 1 0 := ⟨RX2, TX2, rfl, inX2z, by decide, by decide, rfl, (ztb_at 224 (by decide +kernel) (by decide +kernel))⟩
theorem fX2_22 : zFd RX2 22 2 2 2 := ⟨RX2, TX2, rfl, inX2z, by decide, by decide, rfl, (ztb_at 226 (by decide +kernel) (by decide +kernel))⟩
theorem fX2_26 : zFd RX2 26 2 3 0 := ⟨RX2, TX2, rfl, inX2z, by decide, by decide, rfl, (ztb_at 228 (by decide +kernel) (by decide +kernel))⟩
theorem fX2_35 : zFd RX2 35 2 6 2 := ⟨RX2, TX2, rfl, inX2z, by decide, by decide, rfl, (ztb_at 234 (by decide +kernel) (by decide +kernel))⟩
theorem fX2_39 : zFd RX2 39 2 7 3 := ⟨RX2, TX2, rfl, inX2z, by decide, by decide, rfl, (ztb_at 235 (by decide +kernel) (by decide +kernel))⟩
theorem fX2_43 : zFd RX2 43 2 8 0 := ⟨RX2, TX2, rfl, inX2z, by decide, by decide, rfl, (ztb_at 236 (by decide +kernel) (by decide +kernel))⟩
theorem fX2_46 : zFd RX2 46 2 9 0 := ⟨RX2, TX2, rfl, inX2z, by decide, by decide, rfl, (ztb_at 237 (by decide +kernel) (by decide +kernel))⟩
theorem fX2_49 : zFd RX2 49 2 10 0 := ⟨RX2, TX2, rfl, inX2z, by decide, by decide, rfl, (ztb_at 238 (by decide +kernel) (by decide +kernel))⟩
theorem fX2_52 : zFd RX2 52 2 11 0 := ⟨RX2, TX2, rfl, inX2z, by decide, by decide, rfl, (ztb_at 239 (by decide +kernel) (by decide +kernel))⟩
theorem fX2_55 : zFd RX2 55 2 12 0 := ⟨RX2, TX2, rfl, inX2z, by decide, by decide, rfl, (ztb_at 240 (by decide +kernel) (by decide +kernel))⟩
theorem fX2_58 : zFd RX2 58 2 13 0 := ⟨RX2, TX2, rfl, inX2z, by decide, by decide, rfl, (ztb_at 241 (by decide +kernel) (by decide +kernel))⟩
theorem fX2_61 : zFd RX2 61 2 14 0 := ⟨RX2, TX2, rfl, inX2z, by decide, by decide, rfl, (ztb_at 242 (by decide +kernel) (by decide +kernel))⟩
theorem fX2_71 : zFd RX2 71 0 0 0 := ⟨RX0, TX0, rfl, inX0z, by decide, by decide, rfl, (ztb_at 102 (by decide +kernel) (by decide +kernel))⟩
theorem fX2_120 : zFd RX2 120 0 4 0 := ⟨RX0, TX0, rfl, inX0z, by decide, by decide, rfl, (ztb_at 112 (by decide +kernel) (by decide +kernel))⟩
theorem fX3_9 : zFd RX3 9 3 0 0 := ⟨RX3, TX3, rfl, inX3z, by decide, by decide, rfl, (ztb_at 201 (by decide +kernel) (by decide +kernel))⟩
theorem fX3_15 : zFd RX3 15 3 1 0 := ⟨RX3, TX3, rfl, inX3z, by decide, by decide, rfl, (ztb_at 203 (by decide +kernel) (by decide +kernel))⟩
theorem fX3_18 : zFd RX3 18 3 2 2 := ⟨RX3, TX3, rfl, inX3z, by decide, by decide, rfl, (ztb_at 205 (by decide +kernel) (by decide +kernel))⟩
theorem fX4_9 : zFd RX4 9 4 0 0 := ⟨RX4, TX4, rfl, inX4z, by decide, by decide, rfl, (ztb_at 156 (by decide +kernel) (by decide +kernel))⟩
theorem fX4_15 : zFd RX4 15 4 1 2 := ⟨RX4, TX4, rfl, inX4z, by decide, by decide, rfl, (ztb_at 158 (by decide +kernel) (by decide +kernel))⟩
theorem fX4_19 : zFd RX4 19 4 2 2 := ⟨RX4, TX4, rfl, inX4z, by decide, by decide, rfl, (ztb_at 159 (by decide +kernel) (by decide +kernel))⟩
theorem fX4_22 : zFd RX4 22 4 3 2 := ⟨RX4, TX4, rfl, inX4z, by decide, by decide, rfl, (ztb_at 160 (by decide +kernel) (by decide +kernel))⟩
theorem fX4_46 : zFd RX4 46 0 2 2 := ⟨RX0, TX0, rfl, inX0z, by decide, by decide, rfl, (ztb_at 107 (by decide +kernel) (by decide +kernel))⟩
theorem fX5_10 : zFd RX5 10 5 0 2 := ⟨RX5, TX5, rfl, inX5z, by decide, by decide, rfl, (ztb_at 276 (by decide +kernel) (by decide +kernel))⟩
theorem fX5_16 : zFd RX5 16 5 1 2 := ⟨RX5, TX5, rfl, inX5z, by decide, by decide, rfl, (ztb_at 277 (by decide +kernel) (by decide +kernel))⟩
theorem fX5_22 : zFd RX5 22 5 2 2 := ⟨RX5, TX5, rfl, inX5z, by decide, by decide, rfl, (ztb_at 278 (by decide +kernel) (by decide +kernel))⟩
theorem fX5_29 : zFd RX5 29 5 3 2 := ⟨RX5, TX5, rfl, inX5z, by decide, by decide, rfl, (ztb_at 279 (by decide +kernel) (by decide +kernel))⟩
theorem fX5_36 : zFd RX5 36 5 4 2 := ⟨RX5, TX5, rfl, inX5z, by decide, by decide, rfl, (ztb_at 280 (by decide +kernel) (by decide +kernel))⟩
theorem fX5_43 : zFd RX5 43 5 5 2 := ⟨RX5, TX5, rfl, inX5z, by decide, by decide, rfl, (ztb_at 281 (by decide +kernel) (by decide +kernel))⟩
theorem fX5_47 : zFd RX5 47 5 6 2 := ⟨RX5, TX5, rfl, inX5z, by decide, by decide, rfl, (ztb_at 282 (by decide +kernel) (by decide +kernel))⟩
theorem fX5_51 : zFd RX5 51 5 7 2 := ⟨RX5, TX5, rfl, inX5z, by decide, by decide, rfl, (ztb_at 283 (by decide +kernel) (by decide +kernel))⟩
theorem fX5_54 : zFd RX5 54 5 8 0 := ⟨RX5, TX5, rfl, inX5z, by decide, by decide, rfl, (ztb_at 284 (by decide +kernel) (by decide +kernel))⟩
theorem fX5_58 : zFd RX5 58 2 1 0 := ⟨RX2, TX2, rfl, inX2z, by decide, by decide, rfl, (ztb_at 225 (by decide +kernel) (by decide +kernel))⟩
theorem fX5_61 : zFd RX5 61 2 0 2 := ⟨RX2, TX2, rfl, inX2z, by decide, by decide, rfl, (ztb_at 223 (by decide +kernel) (by decide +kernel))⟩
theorem fX5_69 : zFd RX5 69 2 5 0 := ⟨RX2, TX2, rfl, inX2z, by decide, by decide, rfl, (ztb_at 233 (by decide +kernel) (by decide +kernel))⟩
theorem fX5_72 : zFd RX5 72 2 2 2 := ⟨RX2, TX2, rfl, inX2z, by decide, by decide, rfl, (ztb_at 227 (by decide +kernel) (by decide +kernel))⟩
theorem fX5_79 : zFd RX5 79 4 0 0 := ⟨RX4, TX4, rfl, inX4z, by decide, by decide, rfl, (ztb_at 157 (by decide +kernel) (by decide +kernel))⟩
theorem fX5_82 : zFd RX5 82 1 0 3 := ⟨RX1, TX1, rfl, inX1z, by decide, by decide, rfl, (ztb_at 182 (by decide +kernel) (by decide +kernel))⟩
theorem fX5_86 : zFd RX5 86 2 3 0 := ⟨RX2, TX2, rfl, inX2z, by decide, by decide, rfl, (ztb_at 229 (by decide +kernel) (by decide +kernel))⟩
theorem fX5_89 : zFd RX5 89 2 4 0 := ⟨RX2, TX2, rfl, inX2z, by decide, by decide, rfl, (ztb_at 231 (by decide +kernel) (by decide +kernel))⟩
theorem fX5_92 : zFd RX5 92 0 0 0 := ⟨RX0, TX0, rfl, inX0z, by decide, by decide, rfl, (ztb_at 103 (by decide +kernel) (by decide +kernel))⟩
theorem fX5_95 : zFd RX5 95 0 4 0 := ⟨RX0, TX0, rfl, inX0z, by decide, by decide, rfl, (ztb_at 111 (by decide +kernel) (by decide +kernel))⟩
theorem fX5_98 : zFd RX5 98 0 9 0 := ⟨RX0, TX0, rfl, inX0z, by decide, by decide, rfl, (ztb_at 123 (by decide +kernel) (by decide +kernel))⟩
theorem fX5_101 : zFd RX5 101 0 8 0 := ⟨RX0, TX0, rfl, inX0z, by decide, by decide, rfl, (ztb_at 120 (by decide +kernel) (by decide +kernel))⟩
theorem fX5_104 : zFd RX5 104 0 10 0 := ⟨RX0, TX0, rfl, inX0z, by decide, by decide, rfl, (ztb_at 125 (by decide +kernel) (by decide +kernel))⟩
theorem fX5_115 : zFd RX5 115 0 1 2 := ⟨RX0, TX0, rfl, inX0z, by decide, by decide, rfl, (ztb_at 105 (by decide +kernel) (by decide +kernel))⟩
theorem fX5_118 : zFd RX5 118 0 2 2 := ⟨RX0, TX0, rfl, inX0z, by decide, by decide, rfl, (ztb_at 108 (by decide +kernel) (by decide +kernel))⟩
theorem fX5_147 : zFd RX5 147 0 5 2 := ⟨RX0, TX0, rfl, inX0z, by decide, by decide, rfl, (ztb_at 114 (by decide +kernel) (by decide +kernel))⟩
theorem fX5_150 : zFd RX5 150 0 6 2 := ⟨RX0, TX0, rfl, inX0z, by decide, by decide, rfl, (ztb_at 116 (by decide +kernel) (by decide +kernel))⟩
theorem fX5_153 : zFd RX5 153 0 7 2 := ⟨RX0, TX0, rfl, inX0z, by decide, by decide, rfl, (ztb_at 118 (by decide +kernel) (by decide +kernel))⟩
theorem fX5_234 : zFd RX5 234 1 1 2 := ⟨RX1, TX1, rfl, inX1z, by decide, by decide, rfl, (ztb_at 184 (by decide +kernel) (by decide +kernel))⟩
theorem fX5_237 : zFd RX5 237 1 2 2 := ⟨RX1, TX1, rfl, inX1z, by decide, by decide, rfl, (ztb_at 186 (by decide +kernel) (by decide +kernel))⟩
theorem fX5_245 : zFd RX5 245 3 0 0 := ⟨RX3, TX3, rfl, inX3z, by decide, by decide, rfl, (ztb_at 202 (by decide +kernel) (by decide +kernel))⟩
theorem fX5_257 : zFd RX5 257 3 2 2 := ⟨RX3, TX3, rfl, inX3z, by decide, by decide, rfl, (ztb_at 206 (by decide +kernel) (by decide +kernel))⟩
theorem fX5_260 : zFd RX5 260 3 1 0 := ⟨RX3, TX3, rfl, inX3z, by decide, by decide, rfl, (ztb_at 204 (by decide +kernel) (by decide +kernel))⟩
theorem fX6_7 : zFd RX6 7 6 0 2 := ⟨RX6, TX6, rfl, inX6z, by decide, by decide, rfl, (ztb_at 808 (by decide +kernel) (by decide +kernel))⟩
theorem fX6_13 : zFd RX6 13 6 1 2 := ⟨RX6, TX6, rfl, inX6z, by decide, by decide, rfl, (ztb_at 809 (by decide +kernel) (by decide +kernel))⟩
theorem fX6_16 : zFd RX6 16 6 2 2 := ⟨RX6, TX6, rfl, inX6z, by decide, by decide, rfl, (ztb_at 810 (by decide +kernel) (by decide +kernel))⟩
theorem fX6_20 : zFd RX6 20 6 4 2 := ⟨RX6, TX6, rfl, inX6z, by decide, by decide, rfl, (ztb_at 812 (by decide +kernel) (by decide +kernel))⟩
theorem fX6_23 : zFd RX6 23 6 9 2 := ⟨RX6, TX6, rfl, inX6z, by decide, by decide, rfl, (ztb_at 817 (by decide +kernel) (by decide +kernel))⟩
theorem fX6_26 : zFd RX6 26 6 22 2 := ⟨RX6, TX6, rfl, inX6z, by decide, by decide, rfl, (ztb_at 830 (by decide +kernel) (by decide +kernel))⟩
theorem fX6_29 : zFd RX6 29 6 23 2 := ⟨RX6, TX6, rfl, inX6z, by decide, by decide, rfl, (ztb_at 831 (by decide +kernel) (by decide +kernel))⟩
theorem fX6_32 : zFd RX6 32 6 24 2 := ⟨RX6, TX6, rfl, inX6z, by decide, by decide, rfl, (ztb_at 832 (by decide +kernel) (by decide +kernel))⟩
theorem fX6_35 : zFd RX6 35 6 25 2 := ⟨RX6, TX6, rfl, inX6z, by decide, by decide, rfl, (ztb_at 833 (by decide +kernel) (by decide +kernel))⟩
theorem fX6_38 : zFd RX6 38 6 26 2 := ⟨RX6, TX6, rfl, inX6z, by decide, by decide, rfl, (ztb_at 834 (by decide +kernel) (by decide +kernel))⟩
theorem fX6_41 : zFd RX6 41 6 28 2 := ⟨RX6, TX6, rfl, inX6z, by decide, by decide, rfl, (ztb_at 836 (by decide +kernel) (by decide +kernel))⟩
theorem fX6_50 : zFd RX6 50 6 5 0 := ⟨RX6, TX6, rfl, inX6z, by decide, by decide, rfl, (ztb_at 813 (by decide +kernel) (by decide +kernel))⟩
theorem fX6_54 : zFd RX6 54 6 6 3 := ⟨RX6, TX6, rfl, inX6z, by decide, by decide, rfl, (ztb_at 814 (by decide +kernel) (by decide +kernel))⟩
theorem fX6_58 : zFd RX6 58 6 7 0 := ⟨RX6, TX6, rfl, inX6z, by decide, by decide, rfl, (ztb_at 815 (by decide +kernel) (by decide +kernel))⟩
theorem fX6_61 : zFd RX6 61 6 8 0 := ⟨RX6, TX6, rfl, inX6z, by decide, by decide, rfl, (ztb_at 816 (by decide +kernel) (by decide +kernel))⟩
theorem fX6_64 : zFd RX6 64 6 3 0 := ⟨RX6, TX6, rfl, inX6z, by decide, by decide, rfl, (ztb_at 811 (by decide +kernel) (by decide +kernel))⟩
theorem fX6_73 : zFd RX6 73 6 10 0 := ⟨RX6, TX6, rfl, inX6z, by decide, by decide, rfl, (ztb_at 818 (by decide +kernel) (by decide +kernel))⟩
theorem fX6_76 : zFd RX6 76 6 15 0 := ⟨RX6, TX6, rfl, inX6z, by decide, by decide, rfl, (ztb_at 823 (by decide +kernel) (by decide +kernel))⟩
theorem fX6_79 : zFd RX6 79 6 12 0 := ⟨RX6, TX6, rfl, inX6z, by decide, by decide, rfl, (ztb_at 820 (by decide +kernel) (by decide +kernel))⟩
theorem fX6_82 : zFd RX6 82 6 16 0 := ⟨RX6, TX6, rfl, inX6z, by decide, by decide, rfl, (ztb_at 824 (by decide +kernel) (by decide +kernel))⟩
theorem fX6_85 : zFd RX6 85 6 11 0 := ⟨RX6, TX6, rfl, inX6z, by decide, by decide, rfl, (ztb_at 819 (by decide +kernel) (by decide +kernel))⟩
theorem fX6_100 : zFd RX6 100 6 13 0 := ⟨RX6, TX6, rfl, inX6z, by decide, by decide, rfl, (ztb_at 821 (by decide +kernel) (by decide +kernel))⟩
theorem fX6_111 : zFd RX6 111 6 14 0 := ⟨RX6, TX6, rfl, inX6z, by decide, by decide, rfl, (ztb_at 822 (by decide +kernel) (by decide +kernel))⟩
theorem fX6_245 : zFd RX6 245 6 17 0 := ⟨RX6, TX6, rfl, inX6z, by decide, by decide, rfl, (ztb_at 825 (by decide +kernel) (by decide +kernel))⟩
theorem fX6_248 : zFd RX6 248 6 18 0 := ⟨RX6, TX6, rfl, inX6z, by decide, by decide, rfl, (ztb_at 826 (by decide +kernel) (by decide +kernel))⟩
theorem fX6_275 : zFd RX6 275 6 19 1 := ⟨RX6, TX6, rfl, inX6z, by decide, by decide, rfl, (ztb_at 827 (by decide +kernel) (by decide +kernel))⟩
theorem fX6_279 : zFd RX6 279 6 20 1 := ⟨RX6, TX6, rfl, inX6z, by decide, by decide, rfl, (ztb_at 828 (by decide +kernel) (by decide +kernel))⟩
theorem fX6_282 : zFd RX6 282 6 21 1 := ⟨RX6, TX6, rfl, inX6z, by decide, by decide, rfl, (ztb_at 829 (by decide +kernel) (by decide +kernel))⟩
theorem fX6_319 : zFd RX6 319 6 27 0 := ⟨RX6, TX6, rfl, inX6z, by decide, by decide, rfl, (ztb_at 835 (by decide +kernel) (by decide +kernel))⟩
theorem pX0_9 : zFp RX0 9 0 0 0 := ⟨RX0, TX0, tyX0, rfl, inX0z, tyX0_ok, nmX0, by decide, by decide, rfl, (ztb_at 101 (by decide +kernel) (by decide +kernel)), rfl, by decide +kernel⟩
theorem pX0_25 : zFp RX0 25 0 4 0 := ⟨RX0, TX0, tyX0, rfl, inX0z, tyX0_ok, nmX0, by decide, by decide, rfl, (ztb_at 110 (by decide +kernel) (by decide +kernel)), rfl, by decide +kernel⟩
theorem pX0_37 : zFp RX0 37 0 8 0 := ⟨RX0, TX0, tyX0, rfl, inX0z, tyX0_ok, nmX0, by decide, by decide, rfl, (ztb_at 119 (by decide +kernel) (by decide +kernel)), rfl, by decide +kernel⟩
theorem pX0_40 : zFp RX0 40 0 9 0 := ⟨RX0, TX0, tyX0, rfl, inX0z, tyX0_ok, nmX0, by decide, by decide, rfl, (ztb_at 122 (by decide +kernel) (by decide +kernel)), rfl, by decide +kernel⟩
theorem pX0_43 : zFp RX0 43 0 10 0 := ⟨RX0, TX0, tyX0, rfl, inX0z, tyX0_ok, nmX0, by decide, by decide, rfl, (ztb_at 124 (by decide +kernel) (by decide +kernel)), rfl, by decide +kernel⟩
theorem pX2_26 : zFp RX2 26 2 3 0 := ⟨RX2, TX2, tyX2, rfl, inX2z, tyX2_ok, nmX2, by decide, by decide, rfl, (ztb_at 228 (by decide +kernel) (by decide +kernel)), rfl, by decide +kernel⟩
theorem pX2_29 : zFp RX2 29 2 4 0 := ⟨RX2, TX2, tyX2, rfl, inX2z, tyX2_ok, nmX2, by decide, by decide, rfl, (ztb_at 230 (by decide +kernel) (by decide +kernel)), rfl, by decide +kernel⟩
theorem pX2_32 : zFp RX2 32 2 5 0 := ⟨RX2, TX2, tyX2, rfl, inX2z, tyX2_ok, nmX2, by decide, by decide, rfl, (ztb_at 232 (by decide +kernel) (by decide +kernel)), rfl, by decide +kernel⟩
theorem pX2_39 : zFp RX2 39 2 7 3 := ⟨RX2, TX2, tyX2, rfl, inX2z, tyX2_ok, nmX2, by decide, by decide, rfl, (ztb_at 235 (by decide +kernel) (by decide +kernel)), rfl, by decide +kernel⟩
theorem pX2_43 : zFp RX2 43 2 8 0 := ⟨RX2, TX2, tyX2, rfl, inX2z, tyX2_ok, nmX2, by decide, by decide, rfl, (ztb_at 236 (by decide +kernel) (by decide +kernel)), rfl, by decide +kernel⟩
theorem pX2_46 : zFp RX2 46 2 9 0 := ⟨RX2, TX2, tyX2, rfl, inX2z, tyX2_ok, nmX2, by decide, by decide, rfl, (ztb_at 237 (by decide +kernel) (by decide +kernel)), rfl, by decide +kernel⟩
theorem pX2_49 : zFp RX2 49 2 10 0 := ⟨RX2, TX2, tyX2, rfl, inX2z, tyX2_ok, nmX2, by decide, by decide, rfl, (ztb_at 238 (by decide +kernel) (by decide +kernel)), rfl, by decide +kernel⟩
theorem pX2_52 : zFp RX2 52 2 11 0 := ⟨RX2, TX2, tyX2, rfl, inX2z, tyX2_ok, nmX2, by decide, by decide, rfl, (ztb_at 239 (by decide +kernel) (by decide +kernel)), rfl, by decide +kernel⟩
theorem pX2_55 : zFp RX2 55 2 12 0 := ⟨RX2, TX2, tyX2, rfl, inX2z, tyX2_ok, nmX2, by decide, by decide, rfl, (ztb_at 240 (by decide +kernel) (by decide +kernel)), rfl, by decide +kernel⟩
theorem pX2_58 : zFp RX2 58 2 13 0 := ⟨RX2, TX2, tyX2, rfl, inX2z, tyX2_ok, nmX2, by decide, by decide, rfl, (ztb_at 241 (by decide +kernel) (by decide +kernel)), rfl, by decide +kernel⟩
theorem pX2_61 : zFp RX2 61 2 14 0 := ⟨RX2, TX2, tyX2, rfl, inX2z, tyX2_ok, nmX2, by decide, by decide, rfl, (ztb_at 242 (by decide +kernel) (by decide +kernel)), rfl, by decide +kernel⟩
theorem pX2_159 : zFp RX2 159 0 8 0 := ⟨RX0, TX0, tyX0, rfl, inX0z, tyX0_ok, nmX0, by decide, by decide, rfl, (ztb_at 121 (by decide +kernel) (by decide +kernel)), rfl, by decide +kernel⟩
theorem pX3_9 : zFp RX3 9 3 0 0 := ⟨RX3, TX3, tyX3, rfl, inX3z, tyX3_ok, nmX3, by decide, by decide, rfl, (ztb_at 201 (by decide +kernel) (by decide +kernel)), rfl, by decide +kernel⟩
theorem pX3_15 : zFp RX3 15 3 1 0 := ⟨RX3, TX3, tyX3, rfl, inX3z, tyX3_ok, nmX3, by decide, by decide, rfl, (ztb_at 203 (by decide +kernel) (by decide +kernel)), rfl, by decide +kernel⟩
theorem pX4_9 : zFp RX4 9 4 0 0 := ⟨RX4, TX4, tyX4, rfl, inX4z, tyX4_ok, nmX4, by decide, by decide, rfl, (ztb_at 156 (by decide +kernel) (by decide +kernel)), rfl, by decide +kernel⟩
theorem pX5_54 : zFp RX5 54 5 8 0 := ⟨RX5, TX5, tyX5, rfl, inX5z, tyX5_ok, nmX5, by decide, by decide, rfl, (ztb_at 284 (by decide +kernel) (by decide +kernel)), rfl, by decide +kernel⟩
theorem pX5_58 : zFp RX5 58 2 1 0 := ⟨RX2, TX2, tyX2, rfl, inX2z, tyX2_ok, nmX2, by decide, by decide, rfl, (ztb_at 225 (by decide +kernel) (by decide +kernel)), rfl, by decide +kernel⟩
theorem pX5_79 : zFp RX5 79 4 0 0 := ⟨RX4, TX4, tyX4, rfl, inX4z, tyX4_ok, nmX4, by decide, by decide, rfl, (ztb_at 157 (by decide +kernel) (by decide +kernel)), rfl, by decide +kernel⟩
theorem pX5_82 : zFp RX5 82 1 0 3 := ⟨RX1, TX1, tyX1, rfl, inX1z, tyX1_ok, nmX1, by decide, by decide, rfl, (ztb_at 182 (by decide +kernel) (by decide +kernel)), rfl, by decide +kernel⟩
theorem pX5_95 : zFp RX5 95 0 4 0 := ⟨RX0, TX0, tyX0, rfl, inX0z, tyX0_ok, nmX0, by decide, by decide, rfl, (ztb_at 111 (by decide +kernel) (by decide +kernel)), rfl, by decide +kernel⟩
theorem pX5_98 : zFp RX5 98 0 9 0 := ⟨RX0, TX0, tyX0, rfl, inX0z, tyX0_ok, nmX0, by decide, by decide, rfl, (ztb_at 123 (by decide +kernel) (by decide +kernel)), rfl, by decide +kernel⟩
theorem pX5_101 : zFp RX5 101 0 8 0 := ⟨RX0, TX0, tyX0, rfl, inX0z, tyX0_ok, nmX0, by decide, by decide, rfl, (ztb_at 120 (by decide +kernel) (by decide +kernel)), rfl, by decide +kernel⟩
theorem pX6_50 : zFp RX6 50 6 5 0 := ⟨RX6, TX6, tyX6, rfl, inX6z, tyX6_ok, nmX6, by decide, by decide, rfl, (ztb_at 813 (by decide +kernel) (by decide +kernel)), rfl, by decide +kernel⟩
theorem pX6_54 : zFp RX6 54 6 6 3 := ⟨RX6, TX6, tyX6, rfl, inX6z, tyX6_ok, nmX6, by decide, by decide, rfl, (ztb_at 814 (by decide +kernel) (by decide +kernel)), rfl, by decide +kernel⟩
theorem pX6_58 : zFp RX6 58 6 7 0 := ⟨RX6, TX6, tyX6, rfl, inX6z, tyX6_ok, nmX6, by decide, by decide, rfl, (ztb_at 815 (by decide +kernel) (by decide +kernel)), rfl, by decide +kernel⟩
theorem pX6_61 : zFp RX6 61 6 8 0 := ⟨RX6, TX6, tyX6, rfl, inX6z, tyX6_ok, nmX6, by decide, by decide, rfl, (ztb_at 816 (by decide +kernel) (by decide +kernel)), rfl, by decide +kernel⟩
theorem pX6_64 : zFp RX6 64 6 3 0 := ⟨RX6, TX6, tyX6, rfl, inX6z, tyX6_ok, nmX6, by decide, by decide, rfl, (ztb_at 811 (by decide +kernel) (by decide +kernel)), rfl, by decide +kernel⟩
theorem pX6_73 : zFp RX6 73 6 10 0 := ⟨RX6, TX6, tyX6, rfl, inX6z, tyX6_ok, nmX6, by decide, by decide, rfl, (ztb_at 818 (by decide +kernel) (by decide +kernel)), rfl, by decide +kernel⟩
theorem pX6_76 : zFp RX6 76 6 15 0 := ⟨RX6, TX6, tyX6, rfl, inX6z, tyX6_ok, nmX6, by decide, by decide, rfl, (ztb_at 823 (by decide +kernel) (by decide +kernel)), rfl, by decide +kernel⟩
theorem pX6_79 : zFp RX6 79 6 12 0 := ⟨RX6, TX6, tyX6, rfl, inX6z, tyX6_ok, nmX6, by decide, by decide, rfl, (ztb_at 820 (by decide +kernel) (by decide +kernel)), rfl, by decide +kernel⟩
theorem pX6_82 : zFp RX6 82 6 16 0 := ⟨RX6, TX6, tyX6, rfl, inX6z, tyX6_ok, nmX6, by decide, by decide, rfl, (ztb_at 824 (by decide +kernel) (by decide +kernel)), rfl, by decide +kernel⟩
theorem pX6_85 : zFp RX6 85 6 11 0 := ⟨RX6, TX6, tyX6, rfl, inX6z, tyX6_ok, nmX6, by decide, by decide, rfl, (ztb_at 819 (by decide +kernel) (by decide +kernel)), rfl, by decide +kernel⟩
theorem pX6_100 : zFp RX6 100 6 13 0 := ⟨RX6, TX6, tyX6, rfl, inX6z, tyX6_ok, nmX6, by decide, by decide, rfl, (ztb_at 821 (by decide +kernel) (by decide +kernel)), rfl, by decide +kernel⟩
theorem pX6_111 : zFp RX6 111 6 14 0 := ⟨RX6, TX6, tyX6, rfl, inX6z, tyX6_ok, nmX6, by decide, by decide, rfl, (ztb_at 822 (by decide +kernel) (by decide +kernel)), rfl, by decide +kernel⟩
theorem pX6_245 : zFp RX6 245 6 17 0 := ⟨RX6, TX6, tyX6, rfl, inX6z, tyX6_ok, nmX6, by decide, by decide, rfl, (ztb_at 825 (by decide +kernel) (by decide +kernel)), rfl, by decide +kernel⟩
theorem pX6_248 : zFp RX6 248 6 18 0 := ⟨RX6, TX6, tyX6, rfl, inX6z, tyX6_ok, nmX6, by decide, by decide, rfl, (ztb_at 826 (by decide +kernel) (by decide +kernel)), rfl, by decide +kernel⟩
theorem pX6_275 : zFp RX6 275 6 19 1 := ⟨RX6, TX6, tyX6, rfl, inX6z, tyX6_ok, nmX6, by decide, by decide, rfl, (ztb_at 827 (by decide +kernel) (by decide +kernel)), rfl, by decide +kernel⟩
theorem pX6_279 : zFp RX6 279 6 20 1 := ⟨RX6, TX6, tyX6, rfl, inX6z, tyX6_ok, nmX6, by decide, by decide, rfl, (ztb_at 828 (by decide +kernel) (by decide +kernel)), rfl, by decide +kernel⟩
theorem pX6_282 : zFp RX6 282 6 21 1 := ⟨RX6, TX6, tyX6, rfl, inX6z, tyX6_ok, nmX6, by decide, by decide, rfl, (ztb_at 829 (by decide +kernel) (by decide +kernel)), rfl, by decide +kernel⟩
theorem pX6_319 : zFp RX6 319 6 27 0 := ⟨RX6, TX6, tyX6, rfl, inX6z, tyX6_ok, nmX6, by decide, by decide, rfl, (ztb_at 835 (by decide +kernel) (by decide +kernel)), rfl, by decide +kernel⟩
theorem YX5_feed : zYv yX5_feed cX5_feed 2 (some .int) 1 := ⟨(ztb_at 307 (by decide +kernel) (by decide +kernel)), (ztb_at 72 (by decide +kernel) (by decide +kernel)), ⟨by decide +kernel, by decide +kernel⟩, by decide +kernel, (ztb_at 305 (by decide +kernel) (by decide +kernel)), (ztb_at 306 (by decide +kernel) (by decide +kernel))⟩
theorem kL_13 : zCl RL 13 yX5_feed cX5_feed 2 (some .int) 1 5 := ⟨YX5_feed, (ztb_at 304 (by decide +kernel) (by decide +kernel)), by decide, TX5, 9, rfl⟩
theorem YX6_feed : zYv yX6_feed cX6_feed 2 (some .int) 1 := ⟨(ztb_at 899 (by decide +kernel) (by decide +kernel)), (ztb_at 78 (by decide +kernel) (by decide +kernel)), ⟨by decide +kernel, by decide +kernel⟩, by decide +kernel, (ztb_at 897 (by decide +kernel) (by decide +kernel)), (ztb_at 898 (by decide +kernel) (by decide +kernel))⟩
theorem kL_17 : zCl RL 17 yX6_feed cX6_feed 2 (some .int) 1 6 := ⟨YX6_feed, (ztb_at 896 (by decide +kernel) (by decide +kernel)), by decide, TX6, 29, rfl⟩
theorem YX5_end : zYv yX5_end cX5_end 3 (some .int) 1 := ⟨(ztb_at 311 (by decide +kernel) (by decide +kernel)), (ztb_at 72 (by decide +kernel) (by decide +kernel)), ⟨by decide +kernel, by decide +kernel⟩, by decide +kernel, (ztb_at 309 (by decide +kernel) (by decide +kernel)), (ztb_at 310 (by decide +kernel) (by decide +kernel))⟩
theorem kL_18 : zCl RL 18 yX5_end cX5_end 3 (some .int) 1 5 := ⟨YX5_end, (ztb_at 308 (by decide +kernel) (by decide +kernel)), by decide, TX5, 9, rfl⟩
theorem YX6_end : zYv yX6_end cX6_end 3 (some .int) 1 := ⟨(ztb_at 907 (by decide +kernel) (by decide +kernel)), (ztb_at 78 (by decide +kernel) (by decide +kernel)), ⟨by decide +kernel, by decide +kernel⟩, by decide +kernel, (ztb_at 905 (by decide +kernel) (by decide +kernel)), (ztb_at 906 (by decide +kernel) (by decide +kernel))⟩
theorem kL_21 : zCl RL 21 yX6_end cX6_end 3 (some .int) 1 6 := ⟨YX6_end, (ztb_at 904 (by decide +kernel) (by decide +kernel)), by decide, TX6, 29, rfl⟩
theorem YX5_text : zYv yX5_text cX5_text 3 (some .int) 0 := ⟨(ztb_at 315 (by decide +kernel) (by decide +kernel)), (ztb_at 72 (by decide +kernel) (by decide +kernel)), ⟨by decide +kernel, by decide +kernel⟩, by decide +kernel, (ztb_at 313 (by decide +kernel) (by decide +kernel)), (ztb_at 314 (by decide +kernel) (by decide +kernel))⟩
theorem kL_22 : zCl RL 22 yX5_text cX5_text 3 (some .int) 0 5 := ⟨YX5_text, (ztb_at 312 (by decide +kernel) (by decide +kernel)), by decide, TX5, 9, rfl⟩
theorem YX6_text : zYv yX6_text cX6_text 2 (some .int) 0 := ⟨(ztb_at 911 (by decide +kernel) (by decide +kernel)), (ztb_at 78 (by decide +kernel) (by decide +kernel)), ⟨by decide +kernel, by decide +kernel⟩, by decide +kernel, (ztb_at 909 (by decide +kernel) (by decide +kernel)), (ztb_at 910 (by decide +kernel) (by decide +kernel))⟩
theorem kL_26 : zCl RL 26 yX6_text cX6_text 2 (some .int) 0 6 := ⟨YX6_text, (ztb_at 908 (by decide +kernel) (by decide +kernel)), by decide, TX6, 29, rfl⟩
theorem YX5_fault : zYv yX5_fault cX5_fault 1 (some .int) 0 := ⟨(ztb_at 470 (by decide +kernel) (by decide +kernel)), (ztb_at 72 (by decide +kernel) (by decide +kernel)), ⟨by decide +kernel, by decide +kernel⟩, by decide +kernel, (ztb_at 468 (by decide +kernel) (by decide +kernel)), (ztb_at 469 (by decide +kernel) (by decide +kernel))⟩
theorem kL_27 : zCl RL 27 yX5_fault cX5_fault 1 (some .int) 0 5 := ⟨YX5_fault, (ztb_at 467 (by decide +kernel) (by decide +kernel)), by decide, TX5, 9, rfl⟩
theorem YX6_fault : zYv yX6_fault cX6_fault 1 (some .int) 0 := ⟨(ztb_at 975 (by decide +kernel) (by decide +kernel)), (ztb_at 78 (by decide +kernel) (by decide +kernel)), ⟨by decide +kernel, by decide +kernel⟩, by decide +kernel, (ztb_at 973 (by decide +kernel) (by decide +kernel)), (ztb_at 974 (by decide +kernel) (by decide +kernel))⟩
theorem kL_30 : zCl RL 30 yX6_fault cX6_fault 1 (some .int) 0 6 := ⟨YX6_fault, (ztb_at 972 (by decide +kernel) (by decide +kernel)), by decide, TX6, 29, rfl⟩
theorem YX5_rule : zYv yX5_rule cX5_rule 2 (some .int) 1 := ⟨(ztb_at 474 (by decide +kernel) (by decide +kernel)), (ztb_at 72 (by decide +kernel) (by decide +kernel)), ⟨by decide +kernel, by decide +kernel⟩, by decide +kernel, (ztb_at 472 (by decide +kernel) (by decide +kernel)), (ztb_at 473 (by decide +kernel) (by decide +kernel))⟩
theorem kL_31 : zCl RL 31 yX5_rule cX5_rule 2 (some .int) 1 5 := ⟨YX5_rule, (ztb_at 471 (by decide +kernel) (by decide +kernel)), by decide, TX5, 9, rfl⟩
theorem YX6_rule : zYv yX6_rule cX6_rule 2 (some .int) 1 := ⟨(ztb_at 979 (by decide +kernel) (by decide +kernel)), (ztb_at 78 (by decide +kernel) (by decide +kernel)), ⟨by decide +kernel, by decide +kernel⟩, by decide +kernel, (ztb_at 977 (by decide +kernel) (by decide +kernel)), (ztb_at 978 (by decide +kernel) (by decide +kernel))⟩
theorem kL_34 : zCl RL 34 yX6_rule cX6_rule 2 (some .int) 1 6 := ⟨YX6_rule, (ztb_at 976 (by decide +kernel) (by decide +kernel)), by decide, TX6, 29, rfl⟩
theorem YX5_isle : zYv yX5_isle cX5_isle 3 (some .int) 2 := ⟨(ztb_at 486 (by decide +kernel) (by decide +kernel)), (ztb_at 72 (by decide +kernel) (by decide +kernel)), ⟨by decide +kernel, by decide +kernel⟩, by decide +kernel, (ztb_at 484 (by decide +kernel) (by decide +kernel)), (ztb_at 485 (by decide +kernel) (by decide +kernel))⟩
theorem kL_35 : zCl RL 35 yX5_isle cX5_isle 3 (some .int) 2 5 := ⟨YX5_isle, (ztb_at 483 (by decide +kernel) (by decide +kernel)), by decide, TX5, 9, rfl⟩
theorem YX6_isle : zYv yX6_isle cX6_isle 3 (some .int) 2 := ⟨(ztb_at 1002 (by decide +kernel) (by decide +kernel)), (ztb_at 78 (by decide +kernel) (by decide +kernel)), ⟨by decide +kernel, by decide +kernel⟩, by decide +kernel, (ztb_at 1000 (by decide +kernel) (by decide +kernel)), (ztb_at 1001 (by decide +kernel) (by decide +kernel))⟩
theorem kL_39 : zCl RL 39 yX6_isle cX6_isle 3 (some .int) 2 6 := ⟨YX6_isle, (ztb_at 999 (by decide +kernel) (by decide +kernel)), by decide, TX6, 29, rfl⟩
theorem YX5_cross : zYv yX5_cross cX5_cross 3 (some .int) 2 := ⟨(ztb_at 513 (by decide +kernel) (by decide +kernel)), (ztb_at 72 (by decide +kernel) (by decide +kernel)), ⟨by decide +kernel, by decide +kernel⟩, by decide +kernel, (ztb_at 511 (by decide +kernel) (by decide +kernel)), (ztb_at 512 (by decide +kernel) (by decide +kernel))⟩
theorem kL_40 : zCl RL 40 yX5_cross cX5_cross 3 (some .int) 2 5 := ⟨YX5_cross, (ztb_at 510 (by decide +kernel) (by decide +kernel)), by decide, TX5, 9, rfl⟩
theorem YX6_cross : zYv yX6_cross cX6_cross 3 (some .int) 2 := ⟨(ztb_at 1029 (by decide +kernel) (by decide +kernel)), (ztb_at 78 (by decide +kernel) (by decide +kernel)), ⟨by decide +kernel, by decide +kernel⟩, by decide +kernel, (ztb_at 1027 (by decide +kernel) (by decide +kernel)), (ztb_at 1028 (by decide +kernel) (by decide +kernel))⟩
theorem kL_43 : zCl RL 43 yX6_cross cX6_cross 3 (some .int) 2 6 := ⟨YX6_cross, (ztb_at 1026 (by decide +kernel) (by decide +kernel)), by decide, TX6, 29, rfl⟩
theorem YX5_rope : zYv yX5_rope cX5_rope 3 (some .int) 2 := ⟨(ztb_at 525 (by decide +kernel) (by decide +kernel)), (ztb_at 72 (by decide +kernel) (by decide +kernel)), ⟨by decide +kernel, by decide +kernel⟩, by decide +kernel, (ztb_at 523 (by decide +kernel) (by decide +kernel)), (ztb_at 524 (by decide +kernel) (by decide +kernel))⟩
theorem kL_44 : zCl RL 44 yX5_rope cX5_rope 3 (some .int) 2 5 := ⟨YX5_rope, (ztb_at 522 (by decide +kernel) (by decide +kernel)), by decide, TX5, 9, rfl⟩
theorem YX6_rope : zYv yX6_rope cX6_rope 3 (some .int) 2 := ⟨(ztb_at 1037 (by decide +kernel) (by decide +kernel)), (ztb_at 78 (by decide +kernel) (by decide +kernel)), ⟨by decide +kernel, by decide +kernel⟩, by decide +kernel, (ztb_at 1035 (by decide +kernel) (by decide +kernel)), (ztb_at 1036 (by decide +kernel) (by decide +kernel))⟩
theorem kL_47 : zCl RL 47 yX6_rope cX6_rope 3 (some .int) 2 6 := ⟨YX6_rope, (ztb_at 1034 (by decide +kernel) (by decide +kernel)), by decide, TX6, 29, rfl⟩
theorem YX5_far : zYv yX5_far cX5_far 3 (some .int) 2 := ⟨(ztb_at 533 (by decide +kernel) (by decide +kernel)), (ztb_at 72 (by decide +kernel) (by decide +kernel)), ⟨by decide +kernel, by decide +kernel⟩, by decide +kernel, (ztb_at 531 (by decide +kernel) (by decide +kernel)), (ztb_at 532 (by decide +kernel) (by decide +kernel))⟩
theorem kL_48 : zCl RL 48 yX5_far cX5_far 3 (some .int) 2 5 := ⟨YX5_far, (ztb_at 530 (by decide +kernel) (by decide +kernel)), by decide, TX5, 9, rfl⟩
theorem YX6_far : zYv yX6_far cX6_far 3 (some .int) 2 := ⟨(ztb_at 1046 (by decide +kernel) (by decide +kernel)), (ztb_at 78 (by decide +kernel) (by decide +kernel)), ⟨by decide +kernel, by decide +kernel⟩, by decide +kernel, (ztb_at 1044 (by decide +kernel) (by decide +kernel)), (ztb_at 1045 (by decide +kernel) (by decide +kernel))⟩
theorem kL_51 : zCl RL 51 yX6_far cX6_far 3 (some .int) 2 6 := ⟨YX6_far, (ztb_at 1043 (by decide +kernel) (by decide +kernel)), by decide, TX6, 29, rfl⟩
theorem YX5_alter : zYv yX5_alter cX5_alter 5 (some .int) 3 := ⟨(ztb_at 537 (by decide +kernel) (by decide +kernel)), (ztb_at 72 (by decide +kernel) (by decide +kernel)), ⟨by decide +kernel, by decide +kernel⟩, by decide +kernel, (ztb_at 535 (by decide +kernel) (by decide +kernel)), (ztb_at 536 (by decide +kernel) (by decide +kernel))⟩
theorem kL_52 : zCl RL 52 yX5_alter cX5_alter 5 (some .int) 3 5 := ⟨YX5_alter, (ztb_at 534 (by decide +kernel) (by decide +kernel)), by decide, TX5, 9, rfl⟩
theorem YX6_alter : zYv yX6_alter cX6_alter 5 (some .int) 3 := ⟨(ztb_at 1050 (by decide +kernel) (by decide +kernel)), (ztb_at 78 (by decide +kernel) (by decide +kernel)), ⟨by decide +kernel, by decide +kernel⟩, by decide +kernel, (ztb_at 1048 (by decide +kernel) (by decide +kernel)), (ztb_at 1049 (by decide +kernel) (by decide +kernel))⟩
theorem kL_56 : zCl RL 56 yX6_alter cX6_alter 5 (some .int) 3 6 := ⟨YX6_alter, (ztb_at 1047 (by decide +kernel) (by decide +kernel)), by decide, TX6, 29, rfl⟩
theorem YX5_sulk : zYv yX5_sulk cX5_sulk 5 (some .int) 3 := ⟨(ztb_at 543 (by decide +kernel) (by decide +kernel)), (ztb_at 72 (by decide +kernel) (by decide +kernel)), ⟨by decide +kernel, by decide +kernel⟩, by decide +kernel, (ztb_at 541 (by decide +kernel) (by decide +kernel)), (ztb_at 542 (by decide +kernel) (by decide +kernel))⟩
theorem kL_57 : zCl RL 57 yX5_sulk cX5_sulk 5 (some .int) 3 5 := ⟨YX5_sulk, (ztb_at 540 (by decide +kernel) (by decide +kernel)), by decide, TX5, 9, rfl⟩
theorem YX6_sulk : zYv yX6_sulk cX6_sulk 4 (some .int) 3 := ⟨(ztb_at 1067 (by decide +kernel) (by decide +kernel)), (ztb_at 78 (by decide +kernel) (by decide +kernel)), ⟨by decide +kernel, by decide +kernel⟩, by decide +kernel, (ztb_at 1065 (by decide +kernel) (by decide +kernel)), (ztb_at 1066 (by decide +kernel) (by decide +kernel))⟩
theorem kL_60 : zCl RL 60 yX6_sulk cX6_sulk 4 (some .int) 3 6 := ⟨YX6_sulk, (ztb_at 1064 (by decide +kernel) (by decide +kernel)), by decide, TX6, 29, rfl⟩
theorem YX5_haul : zYv yX5_haul cX5_haul 4 (some .int) 2 := ⟨(ztb_at 552 (by decide +kernel) (by decide +kernel)), (ztb_at 72 (by decide +kernel) (by decide +kernel)), ⟨by decide +kernel, by decide +kernel⟩, by decide +kernel, (ztb_at 550 (by decide +kernel) (by decide +kernel)), (ztb_at 551 (by decide +kernel) (by decide +kernel))⟩
theorem kL_61 : zCl RL 61 yX5_haul cX5_haul 4 (some .int) 2 5 := ⟨YX5_haul, (ztb_at 549 (by decide +kernel) (by decide +kernel)), by decide, TX5, 9, rfl⟩
theorem YX6_haul : zYv yX6_haul cX6_haul 3 (some .int) 2 := ⟨(ztb_at 1071 (by decide +kernel) (by decide +kernel)), (ztb_at 78 (by decide +kernel) (by decide +kernel)), ⟨by decide +kernel, by decide +kernel⟩, by decide +kernel, (ztb_at 1069 (by decide +kernel) (by decide +kernel)), (ztb_at 1070 (by decide +kernel) (by decide +kernel))⟩
theorem kL_64 : zCl RL 64 yX6_haul cX6_haul 3 (some .int) 2 6 := ⟨YX6_haul, (ztb_at 1068 (by decide +kernel) (by decide +kernel)), by decide, TX6, 29, rfl⟩
theorem YX5_wed : zYv yX5_wed cX5_wed 4 (some .int) 3 := ⟨(ztb_at 556 (by decide +kernel) (by decide +kernel)), (ztb_at 72 (by decide +kernel) (by decide +kernel)), ⟨by decide +kernel, by decide +kernel⟩, by decide +kernel, (ztb_at 554 (by decide +kernel) (by decide +kernel)), (ztb_at 555 (by decide +kernel) (by decide +kernel))⟩
theorem kL_65 : zCl RL 65 yX5_wed cX5_wed 4 (some .int) 3 5 := ⟨YX5_wed, (ztb_at 553 (by decide +kernel) (by decide +kernel)), by decide, TX5, 9, rfl⟩
theorem YX6_wed : zYv yX6_wed cX6_wed 4 (some .int) 3 := ⟨(ztb_at 1076 (by decide +kernel) (by decide +kernel)), (ztb_at 78 (by decide +kernel) (by decide +kernel)), ⟨by decide +kernel, by decide +kernel⟩, by decide +kernel, (ztb_at 1074 (by decide +kernel) (by decide +kernel)), (ztb_at 1075 (by decide +kernel) (by decide +kernel))⟩
theorem kL_68 : zCl RL 68 yX6_wed cX6_wed 4 (some .int) 3 6 := ⟨YX6_wed, (ztb_at 1073 (by decide +kernel) (by decide +kernel)), by decide, TX6, 29, rfl⟩
theorem YX5_loose : zYv yX5_loose cX5_loose 3 (some .int) 1 := ⟨(ztb_at 561 (by decide +kernel) (by decide +kernel)), (ztb_at 72 (by decide +kernel) (by decide +kernel)), ⟨by decide +kernel, by decide +kernel⟩, by decide +kernel, (ztb_at 559 (by decide +kernel) (by decide +kernel)), (ztb_at 560 (by decide +kernel) (by decide +kernel))⟩
theorem kL_69 : zCl RL 69 yX5_loose cX5_loose 3 (some .int) 1 5 := ⟨YX5_loose, (ztb_at 558 (by decide +kernel) (by decide +kernel)), by decide, TX5, 9, rfl⟩
theorem YX6_loose : zYv yX6_loose cX6_loose 2 (some .int) 1 := ⟨(ztb_at 1088 (by decide +kernel) (by decide +kernel)), (ztb_at 78 (by decide +kernel) (by decide +kernel)), ⟨by decide +kernel, by decide +kernel⟩, by decide +kernel, (ztb_at 1086 (by decide +kernel) (by decide +kernel)), (ztb_at 1087 (by decide +kernel) (by decide +kernel))⟩
theorem kL_72 : zCl RL 72 yX6_loose cX6_loose 2 (some .int) 1 6 := ⟨YX6_loose, (ztb_at 1085 (by decide +kernel) (by decide +kernel)), by decide, TX6, 29, rfl⟩
theorem YX5_feast : zYv yX5_feast cX5_feast 3 (some .int) 1 := ⟨(ztb_at 565 (by decide +kernel) (by decide +kernel)), (ztb_at 72 (by decide +kernel) (by decide +kernel)), ⟨by decide +kernel, by decide +kernel⟩, by decide +kernel, (ztb_at 563 (by decide +kernel) (by decide +kernel)), (ztb_at 564 (by decide +kernel) (by decide +kernel))⟩
theorem kL_73 : zCl RL 73 yX5_feast cX5_feast 3 (some .int) 1 5 := ⟨YX5_feast, (ztb_at 562 (by decide +kernel) (by decide +kernel)), by decide, TX5, 9, rfl⟩
theorem YX6_feast : zYv yX6_feast cX6_feast 2 (some .int) 1 := ⟨(ztb_at 1092 (by decide +kernel) (by decide +kernel)), (ztb_at 78 (by decide +kernel) (by decide +kernel)), ⟨by decide +kernel, by decide +kernel⟩, by decide +kernel, (ztb_at 1090 (by decide +kernel) (by decide +kernel)), (ztb_at 1091 (by decide +kernel) (by decide +kernel))⟩
theorem kL_76 : zCl RL 76 yX6_feast cX6_feast 2 (some .int) 1 6 := ⟨YX6_feast, (ztb_at 1089 (by decide +kernel) (by decide +kernel)), by decide, TX6, 29, rfl⟩
theorem YX5_days : zYv yX5_days cX5_days 3 (some .int) 1 := ⟨(ztb_at 569 (by decide +kernel) (by decide +kernel)), (ztb_at 72 (by decide +kernel) (by decide +kernel)), ⟨by decide +kernel, by decide +kernel⟩, by decide +kernel, (ztb_at 567 (by decide +kernel) (by decide +kernel)), (ztb_at 568 (by decide +kernel) (by decide +kernel))⟩
theorem kL_77 : zCl RL 77 yX5_days cX5_days 3 (some .int) 1 5 := ⟨YX5_days, (ztb_at 566 (by decide +kernel) (by decide +kernel)), by decide, TX5, 9, rfl⟩
theorem YX6_days : zYv yX6_days cX6_days 3 (some .int) 1 := ⟨(ztb_at 1097 (by decide +kernel) (by decide +kernel)), (ztb_at 78 (by decide +kernel) (by decide +kernel)), ⟨by decide +kernel, by decide +kernel⟩, by decide +kernel, (ztb_at 1095 (by decide +kernel) (by decide +kernel)), (ztb_at 1096 (by decide +kernel) (by decide +kernel))⟩
theorem kL_80 : zCl RL 80 yX6_days cX6_days 3 (some .int) 1 6 := ⟨YX6_days, (ztb_at 1094 (by decide +kernel) (by decide +kernel)), by decide, TX6, 29, rfl⟩
theorem YX5_runs : zYv yX5_runs cX5_runs 6 (some .int) 2 := ⟨(ztb_at 596 (by decide +kernel) (by decide +kernel)), (ztb_at 72 (by decide +kernel) (by decide +kernel)), ⟨by decide +kernel, by decide +kernel⟩, by decide +kernel, (ztb_at 594 (by decide +kernel) (by decide +kernel)), (ztb_at 595 (by decide +kernel) (by decide +kernel))⟩
theorem kL_81 : zCl RL 81 yX5_runs cX5_runs 6 (some .int) 2 5 := ⟨YX5_runs, (ztb_at 593 (by decide +kernel) (by decide +kernel)), by decide, TX5, 9, rfl⟩
theorem YX6_runs : zYv yX6_runs cX6_runs 6 (some .int) 2 := ⟨(ztb_at 1125 (by decide +kernel) (by decide +kernel)), (ztb_at 78 (by decide +kernel) (by decide +kernel)), ⟨by decide +kernel, by decide +kernel⟩, by decide +kernel, (ztb_at 1123 (by decide +kernel) (by decide +kernel)), (ztb_at 1124 (by decide +kernel) (by decide +kernel))⟩
theorem kL_84 : zCl RL 84 yX6_runs cX6_runs 6 (some .int) 2 6 := ⟨YX6_runs, (ztb_at 1122 (by decide +kernel) (by decide +kernel)), by decide, TX6, 29, rfl⟩
theorem YX5_ahead : zYv yX5_ahead cX5_ahead 4 (some .int) 2 := ⟨(ztb_at 610 (by decide +kernel) (by decide +kernel)), (ztb_at 72 (by decide +kernel) (by decide +kernel)), ⟨by decide +kernel, by decide +kernel⟩, by decide +kernel, (ztb_at 608 (by decide +kernel) (by decide +kernel)), (ztb_at 609 (by decide +kernel) (by decide +kernel))⟩
theorem kL_85 : zCl RL 85 yX5_ahead cX5_ahead 4 (some .int) 2 5 := ⟨YX5_ahead, (ztb_at 607 (by decide +kernel) (by decide +kernel)), by decide, TX5, 9, rfl⟩
theorem YX6_ahead : zYv yX6_ahead cX6_ahead 3 (some .int) 2 := ⟨(ztb_at 1136 (by decide +kernel) (by decide +kernel)), (ztb_at 78 (by decide +kernel) (by decide +kernel)), ⟨by decide +kernel, by decide +kernel⟩, by decide +kernel, (ztb_at 1134 (by decide +kernel) (by decide +kernel)), (ztb_at 1135 (by decide +kernel) (by decide +kernel))⟩
theorem kL_88 : zCl RL 88 yX6_ahead cX6_ahead 3 (some .int) 2 6 := ⟨YX6_ahead, (ztb_at 1133 (by decide +kernel) (by decide +kernel)), by decide, TX6, 29, rfl⟩
theorem YX5_within : zYv yX5_within cX5_within 4 (some .int) 1 := ⟨(ztb_at 614 (by decide +kernel) (by decide +kernel)), (ztb_at 72 (by decide +kernel) (by decide +kernel)), ⟨by decide +kernel, by decide +kernel⟩, by decide +kernel, (ztb_at 612 (by decide +kernel) (by decide +kernel)), (ztb_at 613 (by decide +kernel) (by decide +kernel))⟩
theorem kL_89 : zCl RL 89 yX5_within cX5_within 4 (some .int) 1 5 := ⟨YX5_within, (ztb_at 611 (by decide +kernel) (by decide +kernel)), by decide, TX5, 9, rfl⟩
theorem YX6_within : zYv yX6_within cX6_within 3 (some .int) 1 := ⟨(ztb_at 1140 (by decide +kernel) (by decide +kernel)), (ztb_at 78 (by decide +kernel) (by decide +kernel)), ⟨by decide +kernel, by decide +kernel⟩, by decide +kernel, (ztb_at 1138 (by decide +kernel) (by decide +kernel)), (ztb_at 1139 (by decide +kernel) (by decide +kernel))⟩
theorem kL_92 : zCl RL 92 yX6_within cX6_within 3 (some .int) 1 6 := ⟨YX6_within, (ztb_at 1137 (by decide +kernel) (by decide +kernel)), by decide, TX6, 29, rfl⟩
theorem YX5_match : zYv yX5_match cX5_match 9 (some .int) 2 := ⟨(ztb_at 618 (by decide +kernel) (by decide +kernel)), (ztb_at 72 (by decide +kernel) (by decide +kernel)), ⟨by decide +kernel, by decide +kernel⟩, by decide +kernel, (ztb_at 616 (by decide +kernel) (by decide +kernel)), (ztb_at 617 (by decide +kernel) (by decide +kernel))⟩
theorem kL_93 : zCl RL 93 yX5_match cX5_match 9 (some .int) 2 5 := ⟨YX5_match, (ztb_at 615 (by decide +kernel) (by decide +kernel)), by decide, TX5, 9, rfl⟩
theorem YX6_match : zYv yX6_match cX6_match 5 (some .int) 2 := ⟨(ztb_at 1144 (by decide +kernel) (by decide +kernel)), (ztb_at 78 (by decide +kernel) (by decide +kernel)), ⟨by decide +kernel, by decide +kernel⟩, by decide +kernel, (ztb_at 1142 (by decide +kernel) (by decide +kernel)), (ztb_at 1143 (by decide +kernel) (by decide +kernel))⟩
theorem kL_96 : zCl RL 96 yX6_match cX6_match 5 (some .int) 2 6 := ⟨YX6_match, (ztb_at 1141 (by decide +kernel) (by decide +kernel)), by decide, TX6, 29, rfl⟩
theorem YX5_fray : zYv yX5_fray cX5_fray 7 (some .int) 1 := ⟨(ztb_at 631 (by decide +kernel) (by decide +kernel)), (ztb_at 72 (by decide +kernel) (by decide +kernel)), ⟨by decide +kernel, by decide +kernel⟩, by decide +kernel, (ztb_at 629 (by decide +kernel) (by decide +kernel)), (ztb_at 630 (by decide +kernel) (by decide +kernel))⟩
theorem kL_97 : zCl RL 97 yX5_fray cX5_fray 7 (some .int) 1 5 := ⟨YX5_fray, (ztb_at 628 (by decide +kernel) (by decide +kernel)), by decide, TX5, 9, rfl⟩
theorem YX6_fray : zYv yX6_fray cX6_fray 3 (some .int) 1 := ⟨(ztb_at 1167 (by decide +kernel) (by decide +kernel)), (ztb_at 78 (by decide +kernel) (by decide +kernel)), ⟨by decide +kernel, by decide +kernel⟩, by decide +kernel, (ztb_at 1165 (by decide +kernel) (by decide +kernel)), (ztb_at 1166 (by decide +kernel) (by decide +kernel))⟩
theorem kL_100 : zCl RL 100 yX6_fray cX6_fray 3 (some .int) 1 6 := ⟨YX6_fray, (ztb_at 1164 (by decide +kernel) (by decide +kernel)), by decide, TX6, 29, rfl⟩
theorem YX5_soothe : zYv yX5_soothe cX5_soothe 8 (some .int) 1 := ⟨(ztb_at 643 (by decide +kernel) (by decide +kernel)), (ztb_at 72 (by decide +kernel) (by decide +kernel)), ⟨by decide +kernel, by decide +kernel⟩, by decide +kernel, (ztb_at 641 (by decide +kernel) (by decide +kernel)), (ztb_at 642 (by decide +kernel) (by decide +kernel))⟩
theorem kL_101 : zCl RL 101 yX5_soothe cX5_soothe 8 (some .int) 1 5 := ⟨YX5_soothe, (ztb_at 640 (by decide +kernel) (by decide +kernel)), by decide, TX5, 9, rfl⟩
theorem YX6_soothe : zYv yX6_soothe cX6_soothe 4 (some .int) 1 := ⟨(ztb_at 1175 (by decide +kernel) (by decide +kernel)), (ztb_at 78 (by decide +kernel) (by decide +kernel)), ⟨by decide +kernel, by decide +kernel⟩, by decide +kernel, (ztb_at 1173 (by decide +kernel) (by decide +kernel)), (ztb_at 1174 (by decide +kernel) (by decide +kernel))⟩
theorem kL_104 : zCl RL 104 yX6_soothe cX6_soothe 4 (some .int) 1 6 := ⟨YX6_soothe, (ztb_at 1172 (by decide +kernel) (by decide +kernel)), by decide, TX6, 29, rfl⟩
theorem YX5_holy : zYv yX5_holy cX5_holy 8 (some .int) 2 := ⟨(ztb_at 647 (by decide +kernel) (by decide +kernel)), (ztb_at 72 (by decide +kernel) (by decide +kernel)), ⟨by decide +kernel, by decide +kernel⟩, by decide +kernel, (ztb_at 645 (by decide +kernel) (by decide +kernel)), (ztb_at 646 (by decide +kernel) (by decide +kernel))⟩
theorem kL_105 : zCl RL 105 yX5_holy cX5_holy 8 (some .int) 2 5 := ⟨YX5_holy, (ztb_at 644 (by decide +kernel) (by decide +kernel)), by decide, TX5, 9, rfl⟩
theorem YX6_holy : zYv yX6_holy cX6_holy 4 (some .int) 2 := ⟨(ztb_at 1179 (by decide +kernel) (by decide +kernel)), (ztb_at 78 (by decide +kernel) (by decide +kernel)), ⟨by decide +kernel, by decide +kernel⟩, by decide +kernel, (ztb_at 1177 (by decide +kernel) (by decide +kernel)), (ztb_at 1178 (by decide +kernel) (by decide +kernel))⟩
theorem kL_108 : zCl RL 108 yX6_holy cX6_holy 4 (some .int) 2 6 := ⟨YX6_holy, (ztb_at 1176 (by decide +kernel) (by decide +kernel)), by decide, TX6, 29, rfl⟩
theorem YX5_kind : zYv yX5_kind cX5_kind 9 (some .int) 3 := ⟨(ztb_at 651 (by decide +kernel) (by decide +kernel)), (ztb_at 72 (by decide +kernel) (by decide +kernel)), ⟨by decide +kernel, by decide +kernel⟩, by decide +kernel, (ztb_at 649 (by decide +kernel) (by decide +kernel)), (ztb_at 650 (by decide +kernel) (by decide +kernel))⟩
theorem kL_109 : zCl RL 109 yX5_kind cX5_kind 9 (some .int) 3 5 := ⟨YX5_kind, (ztb_at 648 (by decide +kernel) (by decide +kernel)), by decide, TX5, 9, rfl⟩
theorem YX6_kind : zYv yX6_kind cX6_kind 5 (some .int) 3 := ⟨(ztb_at 1184 (by decide +kernel) (by decide +kernel)), (ztb_at 78 (by decide +kernel) (by decide +kernel)), ⟨by decide +kernel, by decide +kernel⟩, by decide +kernel, (ztb_at 1182 (by decide +kernel) (by decide +kernel)), (ztb_at 1183 (by decide +kernel) (by decide +kernel))⟩
theorem kL_112 : zCl RL 112 yX6_kind cX6_kind 5 (some .int) 3 6 := ⟨YX6_kind, (ztb_at 1181 (by decide +kernel) (by decide +kernel)), by decide, TX6, 29, rfl⟩
theorem YX5_slack : zYv yX5_slack cX5_slack 6 (some .int) 3 := ⟨(ztb_at 655 (by decide +kernel) (by decide +kernel)), (ztb_at 72 (by decide +kernel) (by decide +kernel)), ⟨by decide +kernel, by decide +kernel⟩, by decide +kernel, (ztb_at 653 (by decide +kernel) (by decide +kernel)), (ztb_at 654 (by decide +kernel) (by decide +kernel))⟩
theorem kL_113 : zCl RL 113 yX5_slack cX5_slack 6 (some .int) 3 5 := ⟨YX5_slack, (ztb_at 652 (by decide +kernel) (by decide +kernel)), by decide, TX5, 9, rfl⟩
theorem YX6_slack : zYv yX6_slack cX6_slack 5 (some .int) 3 := ⟨(ztb_at 1188 (by decide +kernel) (by decide +kernel)), (ztb_at 78 (by decide +kernel) (by decide +kernel)), ⟨by decide +kernel, by decide +kernel⟩, by decide +kernel, (ztb_at 1186 (by decide +kernel) (by decide +kernel)), (ztb_at 1187 (by decide +kernel) (by decide +kernel))⟩
theorem kL_116 : zCl RL 116 yX6_slack cX6_slack 5 (some .int) 3 6 := ⟨YX6_slack, (ztb_at 1185 (by decide +kernel) (by decide +kernel)), by decide, TX6, 29, rfl⟩
theorem YX5_luck : zYv yX5_luck cX5_luck 5 (some .long) 4 := ⟨(ztb_at 659 (by decide +kernel) (by decide +kernel)), (ztb_at 72 (by decide +kernel) (by decide +kernel)), ⟨by decide +kernel, by decide +kernel⟩, by decide +kernel, (ztb_at 657 (by decide +kernel) (by decide +kernel)), (ztb_at 658 (by decide +kernel) (by decide +kernel))⟩
theorem kL_117 : zCl RL 117 yX5_luck cX5_luck 5 (some .long) 4 5 := ⟨YX5_luck, (ztb_at 656 (by decide +kernel) (by decide +kernel)), by decide, TX5, 9, rfl⟩
theorem YX6_luck : zYv yX6_luck cX6_luck 5 (some .long) 4 := ⟨(ztb_at 1192 (by decide +kernel) (by decide +kernel)), (ztb_at 78 (by decide +kernel) (by decide +kernel)), ⟨by decide +kernel, by decide +kernel⟩, by decide +kernel, (ztb_at 1190 (by decide +kernel) (by decide +kernel)), (ztb_at 1191 (by decide +kernel) (by decide +kernel))⟩
theorem kL_121 : zCl RL 121 yX6_luck cX6_luck 5 (some .long) 4 6 := ⟨YX6_luck, (ztb_at 1189 (by decide +kernel) (by decide +kernel)), by decide, TX6, 29, rfl⟩
theorem YX5_mean : zYv yX5_mean cX5_mean 4 (some .long) 3 := ⟨(ztb_at 681 (by decide +kernel) (by decide +kernel)), (ztb_at 72 (by decide +kernel) (by decide +kernel)), ⟨by decide +kernel, by decide +kernel⟩, by decide +kernel, (ztb_at 679 (by decide +kernel) (by decide +kernel)), (ztb_at 680 (by decide +kernel) (by decide +kernel))⟩
theorem kL_122 : zCl RL 122 yX5_mean cX5_mean 4 (some .long) 3 5 := ⟨YX5_mean, (ztb_at 678 (by decide +kernel) (by decide +kernel)), by decide, TX5, 9, rfl⟩
theorem YX6_mean : zYv yX6_mean cX6_mean 4 (some .long) 3 := ⟨(ztb_at 1209 (by decide +kernel) (by decide +kernel)), (ztb_at 78 (by decide +kernel) (by decide +kernel)), ⟨by decide +kernel, by decide +kernel⟩, by decide +kernel, (ztb_at 1207 (by decide +kernel) (by decide +kernel)), (ztb_at 1208 (by decide +kernel) (by decide +kernel))⟩
theorem kL_126 : zCl RL 126 yX6_mean cX6_mean 4 (some .long) 3 6 := ⟨YX6_mean, (ztb_at 1206 (by decide +kernel) (by decide +kernel)), by decide, TX6, 29, rfl⟩
theorem YX5_see : zYv yX5_see cX5_see 4 (some .int) 3 := ⟨(ztb_at 685 (by decide +kernel) (by decide +kernel)), (ztb_at 72 (by decide +kernel) (by decide +kernel)), ⟨by decide +kernel, by decide +kernel⟩, by decide +kernel, (ztb_at 683 (by decide +kernel) (by decide +kernel)), (ztb_at 684 (by decide +kernel) (by decide +kernel))⟩
theorem kL_127 : zCl RL 127 yX5_see cX5_see 4 (some .int) 3 5 := ⟨YX5_see, (ztb_at 682 (by decide +kernel) (by decide +kernel)), by decide, TX5, 9, rfl⟩
theorem YX6_see : zYv yX6_see cX6_see 5 (some .int) 3 := ⟨(ztb_at 1213 (by decide +kernel) (by decide +kernel)), (ztb_at 78 (by decide +kernel) (by decide +kernel)), ⟨by decide +kernel, by decide +kernel⟩, by decide +kernel, (ztb_at 1211 (by decide +kernel) (by decide +kernel)), (ztb_at 1212 (by decide +kernel) (by decide +kernel))⟩
theorem kL_130 : zCl RL 130 yX6_see cX6_see 5 (some .int) 3 6 := ⟨YX6_see, (ztb_at 1210 (by decide +kernel) (by decide +kernel)), by decide, TX6, 29, rfl⟩
theorem YX5_forget : zYv yX5_forget cX5_forget 3 (some .int) 1 := ⟨(ztb_at 693 (by decide +kernel) (by decide +kernel)), (ztb_at 72 (by decide +kernel) (by decide +kernel)), ⟨by decide +kernel, by decide +kernel⟩, by decide +kernel, (ztb_at 691 (by decide +kernel) (by decide +kernel)), (ztb_at 692 (by decide +kernel) (by decide +kernel))⟩
theorem kL_131 : zCl RL 131 yX5_forget cX5_forget 3 (some .int) 1 5 := ⟨YX5_forget, (ztb_at 690 (by decide +kernel) (by decide +kernel)), by decide, TX5, 9, rfl⟩
theorem YX6_forget : zYv yX6_forget cX6_forget 2 (some .int) 1 := ⟨(ztb_at 1218 (by decide +kernel) (by decide +kernel)), (ztb_at 78 (by decide +kernel) (by decide +kernel)), ⟨by decide +kernel, by decide +kernel⟩, by decide +kernel, (ztb_at 1216 (by decide +kernel) (by decide +kernel)), (ztb_at 1217 (by decide +kernel) (by decide +kernel))⟩
theorem kL_134 : zCl RL 134 yX6_forget cX6_forget 2 (some .int) 1 6 := ⟨YX6_forget, (ztb_at 1215 (by decide +kernel) (by decide +kernel)), by decide, TX6, 29, rfl⟩
theorem YX5_kinds : zYv yX5_kinds cX5_kinds 2 (some .int) 1 := ⟨(ztb_at 697 (by decide +kernel) (by decide +kernel)), (ztb_at 72 (by decide +kernel) (by decide +kernel)), ⟨by decide +kernel, by decide +kernel⟩, by decide +kernel, (ztb_at 695 (by decide +kernel) (by decide +kernel)), (ztb_at 696 (by decide +kernel) (by decide +kernel))⟩
theorem kL_135 : zCl RL 135 yX5_kinds cX5_kinds 2 (some .int) 1 5 := ⟨YX5_kinds, (ztb_at 694 (by decide +kernel) (by decide +kernel)), by decide, TX5, 9, rfl⟩
theorem YX6_kinds : zYv yX6_kinds cX6_kinds 2 (some .int) 1 := ⟨(ztb_at 1222 (by decide +kernel) (by decide +kernel)), (ztb_at 78 (by decide +kernel) (by decide +kernel)), ⟨by decide +kernel, by decide +kernel⟩, by decide +kernel, (ztb_at 1220 (by decide +kernel) (by decide +kernel)), (ztb_at 1221 (by decide +kernel) (by decide +kernel))⟩
theorem kL_138 : zCl RL 138 yX6_kinds cX6_kinds 2 (some .int) 1 6 := ⟨YX6_kinds, (ztb_at 1219 (by decide +kernel) (by decide +kernel)), by decide, TX6, 29, rfl⟩
theorem YX5_sulks : zYv yX5_sulks cX5_sulks 6 (some .int) 2 := ⟨(ztb_at 715 (by decide +kernel) (by decide +kernel)), (ztb_at 72 (by decide +kernel) (by decide +kernel)), ⟨by decide +kernel, by decide +kernel⟩, by decide +kernel, (ztb_at 713 (by decide +kernel) (by decide +kernel)), (ztb_at 714 (by decide +kernel) (by decide +kernel))⟩
theorem kL_139 : zCl RL 139 yX5_sulks cX5_sulks 6 (some .int) 2 5 := ⟨YX5_sulks, (ztb_at 712 (by decide +kernel) (by decide +kernel)), by decide, TX5, 9, rfl⟩
theorem YX6_sulks : zYv yX6_sulks cX6_sulks 3 (some .int) 2 := ⟨(ztb_at 1234 (by decide +kernel) (by decide +kernel)), (ztb_at 78 (by decide +kernel) (by decide +kernel)), ⟨by decide +kernel, by decide +kernel⟩, by decide +kernel, (ztb_at 1232 (by decide +kernel) (by decide +kernel)), (ztb_at 1233 (by decide +kernel) (by decide +kernel))⟩
theorem kL_142 : zCl RL 142 yX6_sulks cX6_sulks 3 (some .int) 2 6 := ⟨YX6_sulks, (ztb_at 1231 (by decide +kernel) (by decide +kernel)), by decide, TX6, 29, rfl⟩
theorem YX5_ask : zYv yX5_ask cX5_ask 9 (some .int) 2 := ⟨(ztb_at 719 (by decide +kernel) (by decide +kernel)), (ztb_at 72 (by decide +kernel) (by decide +kernel)), ⟨by decide +kernel, by decide +kernel⟩, by decide +kernel, (ztb_at 717 (by decide +kernel) (by decide +kernel)), (ztb_at 718 (by decide +kernel) (by decide +kernel))⟩
theorem kL_143 : zCl RL 143 yX5_ask cX5_ask 9 (some .int) 2 5 := ⟨YX5_ask, (ztb_at 716 (by decide +kernel) (by decide +kernel)), by decide, TX5, 9, rfl⟩
theorem YX6_ask : zYv yX6_ask cX6_ask 9 (some .int) 2 := ⟨(ztb_at 1238 (by decide +kernel) (by decide +kernel)), (ztb_at 78 (by decide +kernel) (by decide +kernel)), ⟨by decide +kernel, by decide +kernel⟩, by decide +kernel, (ztb_at 1236 (by decide +kernel) (by decide +kernel)), (ztb_at 1237 (by decide +kernel) (by decide +kernel))⟩
theorem kL_146 : zCl RL 146 yX6_ask cX6_ask 9 (some .int) 2 6 := ⟨YX6_ask, (ztb_at 1235 (by decide +kernel) (by decide +kernel)), by decide, TX6, 29, rfl⟩
theorem YX5_drift : zYv yX5_drift cX5_drift 10 (some .int) 3 := ⟨(ztb_at 732 (by decide +kernel) (by decide +kernel)), (ztb_at 72 (by decide +kernel) (by decide +kernel)), ⟨by decide +kernel, by decide +kernel⟩, by decide +kernel, (ztb_at 730 (by decide +kernel) (by decide +kernel)), (ztb_at 731 (by decide +kernel) (by decide +kernel))⟩
theorem kL_147 : zCl RL 147 yX5_drift cX5_drift 10 (some .int) 3 5 := ⟨YX5_drift, (ztb_at 729 (by decide +kernel) (by decide +kernel)), by decide, TX5, 9, rfl⟩
theorem YX6_drift : zYv yX6_drift cX6_drift 9 (some .int) 3 := ⟨(ztb_at 1242 (by decide +kernel) (by decide +kernel)), (ztb_at 78 (by decide +kernel) (by decide +kernel)), ⟨by decide +kernel, by decide +kernel⟩, by decide +kernel, (ztb_at 1240 (by decide +kernel) (by decide +kernel)), (ztb_at 1241 (by decide +kernel) (by decide +kernel))⟩
theorem kL_150 : zCl RL 150 yX6_drift cX6_drift 9 (some .int) 3 6 := ⟨YX6_drift, (ztb_at 1239 (by decide +kernel) (by decide +kernel)), by decide, TX6, 29, rfl⟩
theorem YX5_keep : zYv yX5_keep cX5_keep 3 (some .int) 1 := ⟨(ztb_at 737 (by decide +kernel) (by decide +kernel)), (ztb_at 72 (by decide +kernel) (by decide +kernel)), ⟨by decide +kernel, by decide +kernel⟩, by decide +kernel, (ztb_at 735 (by decide +kernel) (by decide +kernel)), (ztb_at 736 (by decide +kernel) (by decide +kernel))⟩
theorem kL_151 : zCl RL 151 yX5_keep cX5_keep 3 (some .int) 1 5 := ⟨YX5_keep, (ztb_at 734 (by decide +kernel) (by decide +kernel)), by decide, TX5, 9, rfl⟩
theorem YX6_keep : zYv yX6_keep cX6_keep 3 (some .int) 1 := ⟨(ztb_at 1247 (by decide +kernel) (by decide +kernel)), (ztb_at 78 (by decide +kernel) (by decide +kernel)), ⟨by decide +kernel, by decide +kernel⟩, by decide +kernel, (ztb_at 1245 (by decide +kernel) (by decide +kernel)), (ztb_at 1246 (by decide +kernel) (by decide +kernel))⟩
theorem kL_154 : zCl RL 154 yX6_keep cX6_keep 3 (some .int) 1 6 := ⟨YX6_keep, (ztb_at 1244 (by decide +kernel) (by decide +kernel)), by decide, TX6, 29, rfl⟩
theorem YX5_back : zYv yX5_back cX5_back 2 (some .int) 1 := ⟨(ztb_at 746 (by decide +kernel) (by decide +kernel)), (ztb_at 72 (by decide +kernel) (by decide +kernel)), ⟨by decide +kernel, by decide +kernel⟩, by decide +kernel, (ztb_at 744 (by decide +kernel) (by decide +kernel)), (ztb_at 745 (by decide +kernel) (by decide +kernel))⟩
theorem kL_155 : zCl RL 155 yX5_back cX5_back 2 (some .int) 1 5 := ⟨YX5_back, (ztb_at 743 (by decide +kernel) (by decide +kernel)), by decide, TX5, 9, rfl⟩
theorem YX6_back : zYv yX6_back cX6_back 2 (some .int) 1 := ⟨(ztb_at 1255 (by decide +kernel) (by decide +kernel)), (ztb_at 78 (by decide +kernel) (by decide +kernel)), ⟨by decide +kernel, by decide +kernel⟩, by decide +kernel, (ztb_at 1253 (by decide +kernel) (by decide +kernel)), (ztb_at 1254 (by decide +kernel) (by decide +kernel))⟩
theorem kL_158 : zCl RL 158 yX6_back cX6_back 2 (some .int) 1 6 := ⟨YX6_back, (ztb_at 1252 (by decide +kernel) (by decide +kernel)), by decide, TX6, 29, rfl⟩
theorem YX5_sheet : zYv yX5_sheet cX5_sheet 4 (some .int) 3 := ⟨(ztb_at 750 (by decide +kernel) (by decide +kernel)), (ztb_at 72 (by decide +kernel) (by decide +kernel)), ⟨by decide +kernel, by decide +kernel⟩, by decide +kernel, (ztb_at 748 (by decide +kernel) (by decide +kernel)), (ztb_at 749 (by decide +kernel) (by decide +kernel))⟩
theorem kL_159 : zCl RL 159 yX5_sheet cX5_sheet 4 (some .int) 3 5 := ⟨YX5_sheet, (ztb_at 747 (by decide +kernel) (by decide +kernel)), by decide, TX5, 9, rfl⟩
theorem YX6_sheet : zYv yX6_sheet cX6_sheet 5 (some .int) 3 := ⟨(ztb_at 1259 (by decide +kernel) (by decide +kernel)), (ztb_at 78 (by decide +kernel) (by decide +kernel)), ⟨by decide +kernel, by decide +kernel⟩, by decide +kernel, (ztb_at 1257 (by decide +kernel) (by decide +kernel)), (ztb_at 1258 (by decide +kernel) (by decide +kernel))⟩
theorem kL_162 : zCl RL 162 yX6_sheet cX6_sheet 5 (some .int) 3 6 := ⟨YX6_sheet, (ztb_at 1256 (by decide +kernel) (by decide +kernel)), by decide, TX6, 29, rfl⟩
theorem YX5_lay : zYv yX5_lay cX5_lay 6 (some .int) 3 := ⟨(ztb_at 759 (by decide +kernel) (by decide +kernel)), (ztb_at 72 (by decide +kernel) (by decide +kernel)), ⟨by decide +kernel, by decide +kernel⟩, by decide +kernel, (ztb_at 757 (by decide +kernel) (by decide +kernel)), (ztb_at 758 (by decide +kernel) (by decide +kernel))⟩
theorem kL_163 : zCl RL 163 yX5_lay cX5_lay 6 (some .int) 3 5 := ⟨YX5_lay, (ztb_at 756 (by decide +kernel) (by decide +kernel)), by decide, TX5, 9, rfl⟩
theorem YX6_lay : zYv yX6_lay cX6_lay 4 (some .int) 3 := ⟨(ztb_at 1266 (by decide +kernel) (by decide +kernel)), (ztb_at 78 (by decide +kernel) (by decide +kernel)), ⟨by decide +kernel, by decide +kernel⟩, by decide +kernel, (ztb_at 1264 (by decide +kernel) (by decide +kernel)), (ztb_at 1265 (by decide +kernel) (by decide +kernel))⟩
theorem kL_166 : zCl RL 166 yX6_lay cX6_lay 4 (some .int) 3 6 := ⟨YX6_lay, (ztb_at 1263 (by decide +kernel) (by decide +kernel)), by decide, TX6, 29, rfl⟩
theorem YX5_read : zYv yX5_read cX5_read 10 (some .int) 4 := ⟨(ztb_at 771 (by decide +kernel) (by decide +kernel)), (ztb_at 72 (by decide +kernel) (by decide +kernel)), ⟨by decide +kernel, by decide +kernel⟩, by decide +kernel, (ztb_at 769 (by decide +kernel) (by decide +kernel)), (ztb_at 770 (by decide +kernel) (by decide +kernel))⟩
theorem kL_167 : zCl RL 167 yX5_read cX5_read 10 (some .int) 4 5 := ⟨YX5_read, (ztb_at 768 (by decide +kernel) (by decide +kernel)), by decide, TX5, 9, rfl⟩
theorem YX6_read : zYv yX6_read cX6_read 11 (some .int) 4 := ⟨(ztb_at 1270 (by decide +kernel) (by decide +kernel)), (ztb_at 78 (by decide +kernel) (by decide +kernel)), ⟨by decide +kernel, by decide +kernel⟩, by decide +kernel, (ztb_at 1268 (by decide +kernel) (by decide +kernel)), (ztb_at 1269 (by decide +kernel) (by decide +kernel))⟩
theorem kL_171 : zCl RL 171 yX6_read cX6_read 11 (some .int) 4 6 := ⟨YX6_read, (ztb_at 1267 (by decide +kernel) (by decide +kernel)), by decide, TX6, 29, rfl⟩
theorem YX5_torn : zYv yX5_torn cX5_torn 1 (some .int) 0 := ⟨(ztb_at 780 (by decide +kernel) (by decide +kernel)), (ztb_at 72 (by decide +kernel) (by decide +kernel)), ⟨by decide +kernel, by decide +kernel⟩, by decide +kernel, (ztb_at 778 (by decide +kernel) (by decide +kernel)), (ztb_at 779 (by decide +kernel) (by decide +kernel))⟩
theorem kL_172 : zCl RL 172 yX5_torn cX5_torn 1 (some .int) 0 5 := ⟨YX5_torn, (ztb_at 777 (by decide +kernel) (by decide +kernel)), by decide, TX5, 9, rfl⟩
theorem YX6_torn : zYv yX6_torn cX6_torn 1 (some .int) 0 := ⟨(ztb_at 1276 (by decide +kernel) (by decide +kernel)), (ztb_at 78 (by decide +kernel) (by decide +kernel)), ⟨by decide +kernel, by decide +kernel⟩, by decide +kernel, (ztb_at 1274 (by decide +kernel) (by decide +kernel)), (ztb_at 1275 (by decide +kernel) (by decide +kernel))⟩
theorem kL_175 : zCl RL 175 yX6_torn cX6_torn 1 (some .int) 0 6 := ⟨YX6_torn, (ztb_at 1273 (by decide +kernel) (by decide +kernel)), by decide, TX6, 29, rfl⟩
theorem YX5_count : zYv yX5_count cX5_count 2 (some .int) 1 := ⟨(ztb_at 784 (by decide +kernel) (by decide +kernel)), (ztb_at 72 (by decide +kernel) (by decide +kernel)), ⟨by decide +kernel, by decide +kernel⟩, by decide +kernel, (ztb_at 782 (by decide +kernel) (by decide +kernel)), (ztb_at 783 (by decide +kernel) (by decide +kernel))⟩
theorem kL_176 : zCl RL 176 yX5_count cX5_count 2 (some .int) 1 5 := ⟨YX5_count, (ztb_at 781 (by decide +kernel) (by decide +kernel)), by decide, TX5, 9, rfl⟩
theorem YX6_count : zYv yX6_count cX6_count 5 (some .int) 1 := ⟨(ztb_at 1280 (by decide +kernel) (by decide +kernel)), (ztb_at 78 (by decide +kernel) (by decide +kernel)), ⟨by decide +kernel, by decide +kernel⟩, by decide +kernel, (ztb_at 1278 (by decide +kernel) (by decide +kernel)), (ztb_at 1279 (by decide +kernel) (by decide +kernel))⟩
theorem kL_179 : zCl RL 179 yX6_count cX6_count 5 (some .int) 1 6 := ⟨YX6_count, (ztb_at 1277 (by decide +kernel) (by decide +kernel)), by decide, TX6, 29, rfl⟩
theorem YJ7_fill_53178 : zYs yJ7_fill_53178 cJ7_fill_53178 4 none 2 := ⟨(ztb_at 330 (by decide +kernel) (by decide +kernel)), (ztb_at 79 (by decide +kernel) (by decide +kernel)), ⟨by decide +kernel, by decide +kernel⟩, by decide +kernel, (ztb_at 329 (by decide +kernel) (by decide +kernel))⟩
theorem kX0_46 : zCs RX0 46 yJ7_fill_53178 cJ7_fill_53178 4 none 2 := ⟨YJ7_fill_53178, (ztb_at 328 (by decide +kernel) (by decide +kernel))⟩
theorem YX0_grudge : zYv yX0_grudge cX0_grudge 3 (some .int) 2 := ⟨(ztb_at 521 (by decide +kernel) (by decide +kernel)), (ztb_at 73 (by decide +kernel) (by decide +kernel)), ⟨by decide +kernel, by decide +kernel⟩, by decide +kernel, (ztb_at 519 (by decide +kernel) (by decide +kernel)), (ztb_at 520 (by decide +kernel) (by decide +kernel))⟩
theorem kX0_58 : zCl RX0 58 yX0_grudge cX0_grudge 3 (some .int) 2 0 := ⟨YX0_grudge, (ztb_at 793 (by decide +kernel) (by decide +kernel)), by decide, TX0, 11, rfl⟩
theorem YJ9_min_7cf53 : zYs yJ9_min_7cf53 cJ9_min_7cf53 2 (some .int) 2 := ⟨(ztb_at 481 (by decide +kernel) (by decide +kernel)), (ztb_at 84 (by decide +kernel) (by decide +kernel)), ⟨by decide +kernel, by decide +kernel⟩, by decide +kernel, (ztb_at 480 (by decide +kernel) (by decide +kernel))⟩
theorem kX0_62 : zCs RX0 62 yJ9_min_7cf53 cJ9_min_7cf53 2 (some .int) 2 := ⟨YJ9_min_7cf53, (ztb_at 479 (by decide +kernel) (by decide +kernel))⟩
theorem YJ9_max_7cf53 : zYs yJ9_max_7cf53 cJ9_max_7cf53 2 (some .int) 2 := ⟨(ztb_at 423 (by decide +kernel) (by decide +kernel)), (ztb_at 84 (by decide +kernel) (by decide +kernel)), ⟨by decide +kernel, by decide +kernel⟩, by decide +kernel, (ztb_at 422 (by decide +kernel) (by decide +kernel))⟩
theorem kX0_67 : zCs RX0 67 yJ9_max_7cf53 cJ9_max_7cf53 2 (some .int) 2 := ⟨YJ9_max_7cf53, (ztb_at 482 (by decide +kernel) (by decide +kernel))⟩
theorem YJ9_abs_0f7a4 : zYs yJ9_abs_0f7a4 cJ9_abs_0f7a4 1 (some .int) 1 := ⟨(ztb_at 504 (by decide +kernel) (by decide +kernel)), (ztb_at 84 (by decide +kernel) (by decide +kernel)), ⟨by decide +kernel, by decide +kernel⟩, by decide +kernel, (ztb_at 503 (by decide +kernel) (by decide +kernel))⟩
theorem kX0_70 : zCs RX0 70 yJ9_abs_0f7a4 cJ9_abs_0f7a4 1 (some .int) 1 := ⟨YJ9_abs_0f7a4, (ztb_at 509 (by decide +kernel) (by decide +kernel))⟩
theorem YJ6_signum_0f7a4 : zYs yJ6_signum_0f7a4 cJ6_signum_0f7a4 1 (some .int) 1 := ⟨(ztb_at 501 (by decide +kernel) (by decide +kernel)), (ztb_at 86 (by decide +kernel) (by decide +kernel)), ⟨by decide +kernel, by decide +kernel⟩, by decide +kernel, (ztb_at 500 (by decide +kernel) (by decide +kernel))⟩
theorem kX0_74 : zCs RX0 74 yJ6_signum_0f7a4 cJ6_signum_0f7a4 1 (some .int) 1 := ⟨YJ6_signum_0f7a4, (ztb_at 499 (by decide +kernel) (by decide +kernel))⟩
theorem YX0_comeIn : zYv yX0_comeIn cX0_comeIn 5 none 1 := ⟨(ztb_at 581 (by decide +kernel) (by decide +kernel)), (ztb_at 73 (by decide +kernel) (by decide +kernel)), ⟨by decide +kernel, by decide +kernel⟩, by decide +kernel, (ztb_at 580 (by decide +kernel) (by decide +kernel)), (ztb_at 18 (by decide +kernel) (by decide +kernel))⟩
theorem kX0_79 : zCl RX0 79 yX0_comeIn cX0_comeIn 5 none 1 0 := ⟨YX0_comeIn, (ztb_at 578 (by decide +kernel) (by decide +kernel)), by decide, TX0, 11, rfl⟩
theorem YX0_driftOff : zYv yX0_driftOff cX0_driftOff 6 none 1 := ⟨(ztb_at 590 (by decide +kernel) (by decide +kernel)), (ztb_at 73 (by decide +kernel) (by decide +kernel)), ⟨by decide +kernel, by decide +kernel⟩, by decide +kernel, (ztb_at 589 (by decide +kernel) (by decide +kernel)), (ztb_at 19 (by decide +kernel) (by decide +kernel))⟩
theorem kX0_83 : zCl RX0 83 yX0_driftOff cX0_driftOff 6 none 1 0 := ⟨YX0_driftOff, (ztb_at 587 (by decide +kernel) (by decide +kernel)), by decide, TX0, 11, rfl⟩
theorem YX0_passDay : zYv yX0_passDay cX0_passDay 3 none 0 := ⟨(ztb_at 577 (by decide +kernel) (by decide +kernel)), (ztb_at 73 (by decide +kernel) (by decide +kernel)), ⟨by decide +kernel, by decide +kernel⟩, by decide +kernel, (ztb_at 575 (by decide +kernel) (by decide +kernel)), (ztb_at 576 (by decide +kernel) (by decide +kernel))⟩
theorem kX0_86 : zCl RX0 86 yX0_passDay cX0_passDay 3 none 0 0 := ⟨YX0_passDay, (ztb_at 574 (by decide +kernel) (by decide +kernel)), by decide, TX0, 11, rfl⟩
theorem YX0_passDays : zYv yX0_passDays cX0_passDays 3 none 1 := ⟨(ztb_at 573 (by decide +kernel) (by decide +kernel)), (ztb_at 73 (by decide +kernel) (by decide +kernel)), ⟨by decide +kernel, by decide +kernel⟩, by decide +kernel, (ztb_at 571 (by decide +kernel) (by decide +kernel)), (ztb_at 572 (by decide +kernel) (by decide +kernel))⟩
theorem kX0_89 : zCl RX0 89 yX0_passDays cX0_passDays 3 none 1 0 := ⟨YX0_passDays, (ztb_at 623 (by decide +kernel) (by decide +kernel)), by decide, TX0, 11, rfl⟩
theorem YX0_spread : zYv yX0_spread cX0_spread 4 (some .int) 0 := ⟨(ztb_at 478 (by decide +kernel) (by decide +kernel)), (ztb_at 73 (by decide +kernel) (by decide +kernel)), ⟨by decide +kernel, by decide +kernel⟩, by decide +kernel, (ztb_at 476 (by decide +kernel) (by decide +kernel)), (ztb_at 477 (by decide +kernel) (by decide +kernel))⟩
theorem kX0_92 : zCl RX0 92 yX0_spread cX0_spread 4 (some .int) 0 0 := ⟨YX0_spread, (ztb_at 624 (by decide +kernel) (by decide +kernel)), by decide, TX0, 11, rfl⟩
theorem YX0_nearestTo : zYv yX0_nearestTo cX0_nearestTo 6 (some .int) 1 := ⟨(ztb_at 508 (by decide +kernel) (by decide +kernel)), (ztb_at 73 (by decide +kernel) (by decide +kernel)), ⟨by decide +kernel, by decide +kernel⟩, by decide +kernel, (ztb_at 506 (by decide +kernel) (by decide +kernel)), (ztb_at 507 (by decide +kernel) (by decide +kernel))⟩
theorem kX0_96 : zCl RX0 96 yX0_nearestTo cX0_nearestTo 6 (some .int) 1 0 := ⟨YX0_nearestTo, (ztb_at 582 (by decide +kernel) (by decide +kernel)), by decide, TX0, 11, rfl⟩
theorem YX0_isHeld : zYv yX0_isHeld cX0_isHeld 6 (some .boolean) 2 := ⟨(ztb_at 586 (by decide +kernel) (by decide +kernel)), (ztb_at 73 (by decide +kernel) (by decide +kernel)), ⟨by decide +kernel, by decide +kernel⟩, by decide +kernel, (ztb_at 584 (by decide +kernel) (by decide +kernel)), (ztb_at 585 (by decide +kernel) (by decide +kernel))⟩
theorem kX0_99 : zCl RX0 99 yX0_isHeld cX0_isHeld 6 (some .boolean) 2 0 := ⟨YX0_isHeld, (ztb_at 583 (by decide +kernel) (by decide +kernel)), by decide, TX0, 11, rfl⟩
theorem YX0_driftOf : zYv yX0_driftOf cX0_driftOf 5 (some .int) 1 := ⟨(ztb_at 498 (by decide +kernel) (by decide +kernel)), (ztb_at 73 (by decide +kernel) (by decide +kernel)), ⟨by decide +kernel, by decide +kernel⟩, by decide +kernel, (ztb_at 496 (by decide +kernel) (by decide +kernel)), (ztb_at 497 (by decide +kernel) (by decide +kernel))⟩
theorem kX0_103 : zCl RX0 103 yX0_driftOf cX0_driftOf 5 (some .int) 1 0 := ⟨YX0_driftOf, (ztb_at 591 (by decide +kernel) (by decide +kernel)), by decide, TX0, 11, rfl⟩
theorem YX0_isTaken : zYv yX0_isTaken cX0_isTaken 4 (some .boolean) 2 := ⟨(ztb_at 455 (by decide +kernel) (by decide +kernel)), (ztb_at 73 (by decide +kernel) (by decide +kernel)), ⟨by decide +kernel, by decide +kernel⟩, by decide +kernel, (ztb_at 453 (by decide +kernel) (by decide +kernel)), (ztb_at 454 (by decide +kernel) (by decide +kernel))⟩
theorem kX0_106 : zCl RX0 106 yX0_isTaken cX0_isTaken 4 (some .boolean) 2 0 := ⟨YX0_isTaken, (ztb_at 592 (by decide +kernel) (by decide +kernel)), by decide, TX0, 11, rfl⟩
theorem YX2_startOver : zYv yX2_startOver cX2_startOver 2 none 0 := ⟨(ztb_at 323 (by decide +kernel) (by decide +kernel)), (ztb_at 77 (by decide +kernel) (by decide +kernel)), ⟨by decide +kernel, by decide +kernel⟩, by decide +kernel, (ztb_at 322 (by decide +kernel) (by decide +kernel)), (ztb_at 0 (by decide +kernel) (by decide +kernel))⟩
theorem kX2_64 : zCl RX2 64 yX2_startOver cX2_startOver 2 none 0 2 := ⟨YX2_startOver, (ztb_at 320 (by decide +kernel) (by decide +kernel)), by decide, TX2, 15, rfl⟩
theorem YX2_takeToken : zYv yX2_takeToken cX2_takeToken 2 (some .boolean) 0 := ⟨(ztb_at 334 (by decide +kernel) (by decide +kernel)), (ztb_at 77 (by decide +kernel) (by decide +kernel)), ⟨by decide +kernel, by decide +kernel⟩, by decide +kernel, (ztb_at 333 (by decide +kernel) (by decide +kernel)), (ztb_at 1 (by decide +kernel) (by decide +kernel))⟩
theorem kX2_67 : zCl RX2 67 yX2_takeToken cX2_takeToken 2 (some .boolean) 0 2 := ⟨YX2_takeToken, (ztb_at 331 (by decide +kernel) (by decide +kernel)), by decide, TX2, 15, rfl⟩
theorem YX2_fail : zYv yX2_fail cX2_fail 2 (some .boolean) 1 := ⟨(ztb_at 342 (by decide +kernel) (by decide +kernel)), (ztb_at 77 (by decide +kernel) (by decide +kernel)), ⟨by decide +kernel, by decide +kernel⟩, by decide +kernel, (ztb_at 341 (by decide +kernel) (by decide +kernel)), (ztb_at 3 (by decide +kernel) (by decide +kernel))⟩
theorem kX2_74 : zCl RX2 74 yX2_fail cX2_fail 2 (some .boolean) 1 2 := ⟨YX2_fail, (ztb_at 339 (by decide +kernel) (by decide +kernel)), by decide, TX2, 15, rfl⟩
theorem YX2_lineNamed : zYv yX2_lineNamed cX2_lineNamed 1 (some .int) 0 := ⟨(ztb_at 346 (by decide +kernel) (by decide +kernel)), (ztb_at 77 (by decide +kernel) (by decide +kernel)), ⟨by decide +kernel, by decide +kernel⟩, by decide +kernel, (ztb_at 345 (by decide +kernel) (by decide +kernel)), (ztb_at 4 (by decide +kernel) (by decide +kernel))⟩
theorem kX2_78 : zCl RX2 78 yX2_lineNamed cX2_lineNamed 1 (some .int) 0 2 := ⟨YX2_lineNamed, (ztb_at 343 (by decide +kernel) (by decide +kernel)), by decide, TX2, 15, rfl⟩
theorem YX2_takeLine : zYv yX2_takeLine cX2_takeLine 2 (some .boolean) 1 := ⟨(ztb_at 409 (by decide +kernel) (by decide +kernel)), (ztb_at 77 (by decide +kernel) (by decide +kernel)), ⟨by decide +kernel, by decide +kernel⟩, by decide +kernel, (ztb_at 408 (by decide +kernel) (by decide +kernel)), (ztb_at 6 (by decide +kernel) (by decide +kernel))⟩
theorem kX2_82 : zCl RX2 82 yX2_takeLine cX2_takeLine 2 (some .boolean) 1 2 := ⟨YX2_takeLine, (ztb_at 406 (by decide +kernel) (by decide +kernel)), by decide, TX2, 15, rfl⟩
theorem YX0_clear : zYv yX0_clear cX0_clear 1 none 0 := ⟨(ztb_at 327 (by decide +kernel) (by decide +kernel)), (ztb_at 73 (by decide +kernel) (by decide +kernel)), ⟨by decide +kernel, by decide +kernel⟩, by decide +kernel, (ztb_at 325 (by decide +kernel) (by decide +kernel)), (ztb_at 326 (by decide +kernel) (by decide +kernel))⟩
theorem kX2_85 : zCl RX2 85 yX0_clear cX0_clear 1 none 0 0 := ⟨YX0_clear, (ztb_at 324 (by decide +kernel) (by decide +kernel)), by decide, TX0, 11, rfl⟩
theorem YX2_isNamed : zYv yX2_isNamed cX2_isNamed 3 (some .boolean) 1 := ⟨(ztb_at 351 (by decide +kernel) (by decide +kernel)), (ztb_at 77 (by decide +kernel) (by decide +kernel)), ⟨by decide +kernel, by decide +kernel⟩, by decide +kernel, (ztb_at 350 (by decide +kernel) (by decide +kernel)), (ztb_at 5 (by decide +kernel) (by decide +kernel))⟩
theorem kX2_90 : zCl RX2 90 yX2_isNamed cX2_isNamed 3 (some .boolean) 1 2 := ⟨YX2_isNamed, (ztb_at 348 (by decide +kernel) (by decide +kernel)), by decide, TX2, 15, rfl⟩
theorem YX2_takePair : zYv yX2_takePair cX2_takePair 1 (some .boolean) 0 := ⟨(ztb_at 413 (by decide +kernel) (by decide +kernel)), (ztb_at 77 (by decide +kernel) (by decide +kernel)), ⟨by decide +kernel, by decide +kernel⟩, by decide +kernel, (ztb_at 412 (by decide +kernel) (by decide +kernel)), (ztb_at 7 (by decide +kernel) (by decide +kernel))⟩
theorem kX2_114 : zCl RX2 114 yX2_takePair cX2_takePair 1 (some .boolean) 0 2 := ⟨YX2_takePair, (ztb_at 410 (by decide +kernel) (by decide +kernel)), by decide, TX2, 15, rfl⟩
theorem YX2_takeGrudge : zYv yX2_takeGrudge cX2_takeGrudge 1 (some .boolean) 0 := ⟨(ztb_at 427 (by decide +kernel) (by decide +kernel)), (ztb_at 77 (by decide +kernel) (by decide +kernel)), ⟨by decide +kernel, by decide +kernel⟩, by decide +kernel, (ztb_at 426 (by decide +kernel) (by decide +kernel)), (ztb_at 9 (by decide +kernel) (by decide +kernel))⟩
theorem kX2_117 : zCl RX2 117 yX2_takeGrudge cX2_takeGrudge 1 (some .boolean) 0 2 := ⟨YX2_takeGrudge, (ztb_at 424 (by decide +kernel) (by decide +kernel)), by decide, TX2, 15, rfl⟩
theorem YX2_takeRope : zYv yX2_takeRope cX2_takeRope 1 (some .boolean) 0 := ⟨(ztb_at 439 (by decide +kernel) (by decide +kernel)), (ztb_at 77 (by decide +kernel) (by decide +kernel)), ⟨by decide +kernel, by decide +kernel⟩, by decide +kernel, (ztb_at 438 (by decide +kernel) (by decide +kernel)), (ztb_at 11 (by decide +kernel) (by decide +kernel))⟩
theorem kX2_123 : zCl RX2 123 yX2_takeRope cX2_takeRope 1 (some .boolean) 0 2 := ⟨YX2_takeRope, (ztb_at 436 (by decide +kernel) (by decide +kernel)), by decide, TX2, 15, rfl⟩
theorem YX2_takeFeast : zYv yX2_takeFeast cX2_takeFeast 1 (some .boolean) 0 := ⟨(ztb_at 447 (by decide +kernel) (by decide +kernel)), (ztb_at 77 (by decide +kernel) (by decide +kernel)), ⟨by decide +kernel, by decide +kernel⟩, by decide +kernel, (ztb_at 446 (by decide +kernel) (by decide +kernel)), (ztb_at 12 (by decide +kernel) (by decide +kernel))⟩
theorem kX2_126 : zCl RX2 126 yX2_takeFeast cX2_takeFeast 1 (some .boolean) 0 2 := ⟨YX2_takeFeast, (ztb_at 444 (by decide +kernel) (by decide +kernel)), by decide, TX2, 15, rfl⟩
theorem YX2_takeIsle : zYv yX2_takeIsle cX2_takeIsle 2 (some .boolean) 1 := ⟨(ztb_at 451 (by decide +kernel) (by decide +kernel)), (ztb_at 77 (by decide +kernel) (by decide +kernel)), ⟨by decide +kernel, by decide +kernel⟩, by decide +kernel, (ztb_at 450 (by decide +kernel) (by decide +kernel)), (ztb_at 13 (by decide +kernel) (by decide +kernel))⟩
theorem kX2_129 : zCl RX2 129 yX2_takeIsle cX2_takeIsle 2 (some .boolean) 1 2 := ⟨YX2_takeIsle, (ztb_at 448 (by decide +kernel) (by decide +kernel)), by decide, TX2, 15, rfl⟩
theorem YX2_takeNumber : zYv yX2_takeNumber cX2_takeNumber 3 (some .boolean) 2 := ⟨(ztb_at 417 (by decide +kernel) (by decide +kernel)), (ztb_at 77 (by decide +kernel) (by decide +kernel)), ⟨by decide +kernel, by decide +kernel⟩, by decide +kernel, (ztb_at 416 (by decide +kernel) (by decide +kernel)), (ztb_at 8 (by decide +kernel) (by decide +kernel))⟩
theorem kX2_132 : zCl RX2 132 yX2_takeNumber cX2_takeNumber 3 (some .boolean) 2 2 := ⟨YX2_takeNumber, (ztb_at 414 (by decide +kernel) (by decide +kernel)), by decide, TX2, 15, rfl⟩
theorem kX2_136 : zCl RX2 136 yX0_isTaken cX0_isTaken 4 (some .boolean) 2 0 := ⟨YX0_isTaken, (ztb_at 452 (by decide +kernel) (by decide +kernel)), by decide, TX0, 11, rfl⟩
theorem YX0_addIsle : zYv yX0_addIsle cX0_addIsle 3 none 2 := ⟨(ztb_at 459 (by decide +kernel) (by decide +kernel)), (ztb_at 73 (by decide +kernel) (by decide +kernel)), ⟨by decide +kernel, by decide +kernel⟩, by decide +kernel, (ztb_at 457 (by decide +kernel) (by decide +kernel)), (ztb_at 458 (by decide +kernel) (by decide +kernel))⟩
theorem kX2_139 : zCl RX2 139 yX0_addIsle cX0_addIsle 3 none 2 0 := ⟨YX0_addIsle, (ztb_at 456 (by decide +kernel) (by decide +kernel)), by decide, TX0, 11, rfl⟩
theorem YX2_takeStop : zYv yX2_takeStop cX2_takeStop 1 (some .boolean) 0 := ⟨(ztb_at 435 (by decide +kernel) (by decide +kernel)), (ztb_at 77 (by decide +kernel) (by decide +kernel)), ⟨by decide +kernel, by decide +kernel⟩, by decide +kernel, (ztb_at 434 (by decide +kernel) (by decide +kernel)), (ztb_at 10 (by decide +kernel) (by decide +kernel))⟩
theorem kX2_143 : zCl RX2 143 yX2_takeStop cX2_takeStop 1 (some .boolean) 0 2 := ⟨YX2_takeStop, (ztb_at 432 (by decide +kernel) (by decide +kernel)), by decide, TX2, 15, rfl⟩
theorem kX2_146 : zCs RX2 146 yJ9_max_7cf53 cJ9_max_7cf53 2 (some .int) 2 := ⟨YJ9_max_7cf53, (ztb_at 421 (by decide +kernel) (by decide +kernel))⟩
theorem YX0_setGrudge : zYv yX0_setGrudge cX0_setGrudge 4 none 3 := ⟨(ztb_at 431 (by decide +kernel) (by decide +kernel)), (ztb_at 73 (by decide +kernel) (by decide +kernel)), ⟨by decide +kernel, by decide +kernel⟩, by decide +kernel, (ztb_at 429 (by decide +kernel) (by decide +kernel)), (ztb_at 430 (by decide +kernel) (by decide +kernel))⟩
theorem kX2_152 : zCl RX2 152 yX0_setGrudge cX0_setGrudge 4 none 3 0 := ⟨YX0_setGrudge, (ztb_at 428 (by decide +kernel) (by decide +kernel)), by decide, TX0, 11, rfl⟩
theorem YX0_addRope : zYv yX0_addRope cX0_addRope 4 none 3 := ⟨(ztb_at 443 (by decide +kernel) (by decide +kernel)), (ztb_at 73 (by decide +kernel) (by decide +kernel)), ⟨by decide +kernel, by decide +kernel⟩, by decide +kernel, (ztb_at 441 (by decide +kernel) (by decide +kernel)), (ztb_at 442 (by decide +kernel) (by decide +kernel))⟩
theorem kX2_156 : zCl RX2 156 yX0_addRope cX0_addRope 4 none 3 0 := ⟨YX0_addRope, (ztb_at 440 (by decide +kernel) (by decide +kernel)), by decide, TX0, 11, rfl⟩
theorem YX5_isWithin : zYs yX5_isWithin cX5_isWithin 3 (some .boolean) 3 := ⟨(ztb_at 420 (by decide +kernel) (by decide +kernel)), (ztb_at 72 (by decide +kernel) (by decide +kernel)), ⟨by decide +kernel, by decide +kernel⟩, by decide +kernel, (ztb_at 419 (by decide +kernel) (by decide +kernel))⟩
theorem YX2_pass : zYv yX2_pass cX2_pass 4 (some .int) 2 := ⟨(ztb_at 338 (by decide +kernel) (by decide +kernel)), (ztb_at 77 (by decide +kernel) (by decide +kernel)), ⟨by decide +kernel, by decide +kernel⟩, by decide +kernel, (ztb_at 337 (by decide +kernel) (by decide +kernel)), (ztb_at 2 (by decide +kernel) (by decide +kernel))⟩
theorem kX2_166 : zCl RX2 166 yX2_pass cX2_pass 4 (some .int) 2 2 := ⟨YX2_pass, (ztb_at 335 (by decide +kernel) (by decide +kernel)), by decide, TX2, 15, rfl⟩
theorem kX3_22 : zCs RX3 22 yJ7_fill_53178 cJ7_fill_53178 4 none 2 := ⟨YJ7_fill_53178, (ztb_at 755 (by decide +kernel) (by decide +kernel))⟩
theorem YX3_faultAt : zYv yX3_faultAt cX3_faultAt 3 (some .int) 2 := ⟨(ztb_at 763 (by decide +kernel) (by decide +kernel)), (ztb_at 76 (by decide +kernel) (by decide +kernel)), ⟨by decide +kernel, by decide +kernel⟩, by decide +kernel, (ztb_at 761 (by decide +kernel) (by decide +kernel)), (ztb_at 762 (by decide +kernel) (by decide +kernel))⟩
theorem kX3_28 : zCl RX3 28 yX3_faultAt cX3_faultAt 3 (some .int) 2 3 := ⟨YX3_faultAt, (ztb_at 776 (by decide +kernel) (by decide +kernel)), by decide, TX3, 3, rfl⟩
theorem kX4_31 : zCs RX4 31 yJ9_max_7cf53 cJ9_max_7cf53 2 (some .int) 2 := ⟨YJ9_max_7cf53, (ztb_at 706 (by decide +kernel) (by decide +kernel))⟩
theorem kX4_37 : zCl RX4 37 yX0_passDay cX0_passDay 3 none 0 0 := ⟨YX0_passDay, (ztb_at 707 (by decide +kernel) (by decide +kernel)), by decide, TX0, 11, rfl⟩
theorem YX4_agreeBehind : zYv yX4_agreeBehind cX4_agreeBehind 4 (some .boolean) 2 := ⟨(ztb_at 711 (by decide +kernel) (by decide +kernel)), (ztb_at 74 (by decide +kernel) (by decide +kernel)), ⟨by decide +kernel, by decide +kernel⟩, by decide +kernel, (ztb_at 710 (by decide +kernel) (by decide +kernel)), (ztb_at 22 (by decide +kernel) (by decide +kernel))⟩
theorem kX4_42 : zCl RX4 42 yX4_agreeBehind cX4_agreeBehind 4 (some .boolean) 2 4 := ⟨YX4_agreeBehind, (ztb_at 708 (by decide +kernel) (by decide +kernel)), by decide, TX4, 4, rfl⟩
theorem YX2_takeText : zYv yX2_takeText cX2_takeText 2 (some .boolean) 0 := ⟨(ztb_at 319 (by decide +kernel) (by decide +kernel)), (ztb_at 77 (by decide +kernel) (by decide +kernel)), ⟨by decide +kernel, by decide +kernel⟩, by decide +kernel, (ztb_at 317 (by decide +kernel) (by decide +kernel)), (ztb_at 318 (by decide +kernel) (by decide +kernel))⟩
theorem kX5_65 : zCl RX5 65 yX2_takeText cX2_takeText 2 (some .boolean) 0 2 := ⟨YX2_takeText, (ztb_at 316 (by decide +kernel) (by decide +kernel)), by decide, TX2, 15, rfl⟩
theorem YX0_become : zYv yX0_become cX0_become 2 none 1 := ⟨(ztb_at 463 (by decide +kernel) (by decide +kernel)), (ztb_at 73 (by decide +kernel) (by decide +kernel)), ⟨by decide +kernel, by decide +kernel⟩, by decide +kernel, (ztb_at 461 (by decide +kernel) (by decide +kernel)), (ztb_at 462 (by decide +kernel) (by decide +kernel))⟩
theorem kX5_75 : zCl RX5 75 yX0_become cX0_become 2 none 1 0 := ⟨YX0_become, (ztb_at 460 (by decide +kernel) (by decide +kernel)), by decide, TX0, 11, rfl⟩
theorem kX5_107 : zCl RX5 107 yX0_spread cX0_spread 4 (some .int) 0 0 := ⟨YX0_spread, (ztb_at 475 (by decide +kernel) (by decide +kernel)), by decide, TX0, 11, rfl⟩
theorem YX5_isIsle : zYv yX5_isIsle cX5_isIsle 2 (some .boolean) 1 := ⟨(ztb_at 490 (by decide +kernel) (by decide +kernel)), (ztb_at 72 (by decide +kernel) (by decide +kernel)), ⟨by decide +kernel, by decide +kernel⟩, by decide +kernel, (ztb_at 489 (by decide +kernel) (by decide +kernel)), (ztb_at 14 (by decide +kernel) (by decide +kernel))⟩
theorem kX5_111 : zCl RX5 111 yX5_isIsle cX5_isIsle 2 (some .boolean) 1 5 := ⟨YX5_isIsle, (ztb_at 487 (by decide +kernel) (by decide +kernel)), by decide, TX5, 9, rfl⟩
theorem YX0_ropesOf : zYv yX0_ropesOf cX0_ropesOf 4 (some .int) 1 := ⟨(ztb_at 494 (by decide +kernel) (by decide +kernel)), (ztb_at 73 (by decide +kernel) (by decide +kernel)), ⟨by decide +kernel, by decide +kernel⟩, by decide +kernel, (ztb_at 492 (by decide +kernel) (by decide +kernel)), (ztb_at 493 (by decide +kernel) (by decide +kernel))⟩
theorem kX5_121 : zCl RX5 121 yX0_ropesOf cX0_ropesOf 4 (some .int) 1 0 := ⟨YX0_ropesOf, (ztb_at 491 (by decide +kernel) (by decide +kernel)), by decide, TX0, 11, rfl⟩
theorem kX5_125 : zCl RX5 125 yX0_driftOf cX0_driftOf 5 (some .int) 1 0 := ⟨YX0_driftOf, (ztb_at 495 (by decide +kernel) (by decide +kernel)), by decide, TX0, 11, rfl⟩
theorem kX5_128 : zCs RX5 128 yJ9_abs_0f7a4 cJ9_abs_0f7a4 1 (some .int) 1 := ⟨YJ9_abs_0f7a4, (ztb_at 502 (by decide +kernel) (by decide +kernel))⟩
theorem kX5_133 : zCl RX5 133 yX0_nearestTo cX0_nearestTo 6 (some .int) 1 0 := ⟨YX0_nearestTo, (ztb_at 505 (by decide +kernel) (by decide +kernel)), by decide, TX0, 11, rfl⟩
theorem YX5_isPair : zYv yX5_isPair cX5_isPair 3 (some .boolean) 2 := ⟨(ztb_at 517 (by decide +kernel) (by decide +kernel)), (ztb_at 72 (by decide +kernel) (by decide +kernel)), ⟨by decide +kernel, by decide +kernel⟩, by decide +kernel, (ztb_at 516 (by decide +kernel) (by decide +kernel)), (ztb_at 15 (by decide +kernel) (by decide +kernel))⟩
theorem kX5_136 : zCl RX5 136 yX5_isPair cX5_isPair 3 (some .boolean) 2 5 := ⟨YX5_isPair, (ztb_at 514 (by decide +kernel) (by decide +kernel)), by decide, TX5, 9, rfl⟩
theorem kX5_140 : zCl RX5 140 yX0_grudge cX0_grudge 3 (some .int) 2 0 := ⟨YX0_grudge, (ztb_at 518 (by decide +kernel) (by decide +kernel)), by decide, TX0, 11, rfl⟩
theorem YX5_isRope : zYv yX5_isRope cX5_isRope 2 (some .boolean) 1 := ⟨(ztb_at 529 (by decide +kernel) (by decide +kernel)), (ztb_at 72 (by decide +kernel) (by decide +kernel)), ⟨by decide +kernel, by decide +kernel⟩, by decide +kernel, (ztb_at 528 (by decide +kernel) (by decide +kernel)), (ztb_at 16 (by decide +kernel) (by decide +kernel))⟩
theorem kX5_144 : zCl RX5 144 yX5_isRope cX5_isRope 2 (some .boolean) 1 5 := ⟨YX5_isRope, (ztb_at 526 (by decide +kernel) (by decide +kernel)), by decide, TX5, 9, rfl⟩
theorem kX5_156 : zCs RX5 156 yX5_isWithin cX5_isWithin 3 (some .boolean) 3 := ⟨YX5_isWithin, (ztb_at 538 (by decide +kernel) (by decide +kernel))⟩
theorem kX5_160 : zCl RX5 160 yX0_isTaken cX0_isTaken 4 (some .boolean) 2 0 := ⟨YX0_isTaken, (ztb_at 539 (by decide +kernel) (by decide +kernel)), by decide, TX0, 11, rfl⟩
theorem YX5_isGrudge : zYv yX5_isGrudge cX5_isGrudge 4 (some .boolean) 3 := ⟨(ztb_at 547 (by decide +kernel) (by decide +kernel)), (ztb_at 72 (by decide +kernel) (by decide +kernel)), ⟨by decide +kernel, by decide +kernel⟩, by decide +kernel, (ztb_at 546 (by decide +kernel) (by decide +kernel)), (ztb_at 17 (by decide +kernel) (by decide +kernel))⟩
theorem kX5_163 : zCl RX5 163 yX5_isGrudge cX5_isGrudge 4 (some .boolean) 3 5 := ⟨YX5_isGrudge, (ztb_at 544 (by decide +kernel) (by decide +kernel)), by decide, TX5, 9, rfl⟩
theorem kX5_166 : zCl RX5 166 yX0_setGrudge cX0_setGrudge 4 none 3 0 := ⟨YX0_setGrudge, (ztb_at 548 (by decide +kernel) (by decide +kernel)), by decide, TX0, 11, rfl⟩
theorem kX5_170 : zCl RX5 170 yX0_addRope cX0_addRope 4 none 3 0 := ⟨YX0_addRope, (ztb_at 557 (by decide +kernel) (by decide +kernel)), by decide, TX0, 11, rfl⟩
theorem kX5_173 : zCl RX5 173 yX0_passDays cX0_passDays 3 none 1 0 := ⟨YX0_passDays, (ztb_at 570 (by decide +kernel) (by decide +kernel)), by decide, TX0, 11, rfl⟩
theorem YX5_asItIs : zYv yX5_asItIs cX5_asItIs 1 (some (.object "TemperIsles$Firth")) 0 := ⟨(ztb_at 600 (by decide +kernel) (by decide +kernel)), (ztb_at 72 (by decide +kernel) (by decide +kernel)), ⟨by decide +kernel, by decide +kernel⟩, by decide +kernel, (ztb_at 599 (by decide +kernel) (by decide +kernel)), (ztb_at 20 (by decide +kernel) (by decide +kernel))⟩
theorem kX5_177 : zCl RX5 177 yX5_asItIs cX5_asItIs 1 (some (.object "TemperIsles$Firth")) 0 5 := ⟨YX5_asItIs, (ztb_at 597 (by decide +kernel) (by decide +kernel)), by decide, TX5, 9, rfl⟩
theorem kX5_181 : zCl RX5 181 yX0_passDay cX0_passDay 3 none 0 0 := ⟨YX0_passDay, (ztb_at 601 (by decide +kernel) (by decide +kernel)), by decide, TX0, 11, rfl⟩
theorem kX5_184 : zCs RX5 184 yJ9_min_7cf53 cJ9_min_7cf53 2 (some .int) 2 := ⟨YJ9_min_7cf53, (ztb_at 602 (by decide +kernel) (by decide +kernel))⟩
theorem YX0_movedFrom : zYv yX0_movedFrom cX0_movedFrom 4 (some .int) 1 := ⟨(ztb_at 606 (by decide +kernel) (by decide +kernel)), (ztb_at 73 (by decide +kernel) (by decide +kernel)), ⟨by decide +kernel, by decide +kernel⟩, by decide +kernel, (ztb_at 604 (by decide +kernel) (by decide +kernel)), (ztb_at 605 (by decide +kernel) (by decide +kernel))⟩
theorem kX5_187 : zCl RX5 187 yX0_movedFrom cX0_movedFrom 4 (some .int) 1 0 := ⟨YX0_movedFrom, (ztb_at 603 (by decide +kernel) (by decide +kernel)), by decide, TX0, 11, rfl⟩
theorem YX0_spreadBehind : zYv yX0_spreadBehind cX0_spreadBehind 2 (some .int) 1 := ⟨(ztb_at 622 (by decide +kernel) (by decide +kernel)), (ztb_at 73 (by decide +kernel) (by decide +kernel)), ⟨by decide +kernel, by decide +kernel⟩, by decide +kernel, (ztb_at 620 (by decide +kernel) (by decide +kernel)), (ztb_at 621 (by decide +kernel) (by decide +kernel))⟩
theorem kX5_191 : zCl RX5 191 yX0_spreadBehind cX0_spreadBehind 2 (some .int) 1 0 := ⟨YX0_spreadBehind, (ztb_at 619 (by decide +kernel) (by decide +kernel)), by decide, TX0, 11, rfl⟩
theorem YX5_advice : zYs yX5_advice cX5_advice 3 (some .int) 3 := ⟨(ztb_at 627 (by decide +kernel) (by decide +kernel)), (ztb_at 72 (by decide +kernel) (by decide +kernel)), ⟨by decide +kernel, by decide +kernel⟩, by decide +kernel, (ztb_at 626 (by decide +kernel) (by decide +kernel))⟩
theorem kX5_194 : zCs RX5 194 yX5_advice cX5_advice 3 (some .int) 3 := ⟨YX5_advice, (ztb_at 625 (by decide +kernel) (by decide +kernel))⟩
theorem YX0_bumpsIn : zYv yX0_bumpsIn cX0_bumpsIn 3 (some .int) 1 := ⟨(ztb_at 635 (by decide +kernel) (by decide +kernel)), (ztb_at 73 (by decide +kernel) (by decide +kernel)), ⟨by decide +kernel, by decide +kernel⟩, by decide +kernel, (ztb_at 633 (by decide +kernel) (by decide +kernel)), (ztb_at 634 (by decide +kernel) (by decide +kernel))⟩
theorem kX5_198 : zCl RX5 198 yX0_bumpsIn cX0_bumpsIn 3 (some .int) 1 0 := ⟨YX0_bumpsIn, (ztb_at 632 (by decide +kernel) (by decide +kernel)), by decide, TX0, 11, rfl⟩
theorem YX0_dropRope : zYv yX0_dropRope cX0_dropRope 3 none 1 := ⟨(ztb_at 639 (by decide +kernel) (by decide +kernel)), (ztb_at 73 (by decide +kernel) (by decide +kernel)), ⟨by decide +kernel, by decide +kernel⟩, by decide +kernel, (ztb_at 637 (by decide +kernel) (by decide +kernel)), (ztb_at 638 (by decide +kernel) (by decide +kernel))⟩
theorem kX5_201 : zCl RX5 201 yX0_dropRope cX0_dropRope 3 none 1 0 := ⟨YX0_dropRope, (ztb_at 636 (by decide +kernel) (by decide +kernel)), by decide, TX0, 11, rfl⟩
theorem YX5_isStorms : zYs yX5_isStorms cX5_isStorms 3 (some .boolean) 3 := ⟨(ztb_at 662 (by decide +kernel) (by decide +kernel)), (ztb_at 72 (by decide +kernel) (by decide +kernel)), ⟨by decide +kernel, by decide +kernel⟩, by decide +kernel, (ztb_at 661 (by decide +kernel) (by decide +kernel))⟩
theorem kX5_204 : zCs RX5 204 yX5_isStorms cX5_isStorms 3 (some .boolean) 3 := ⟨YX5_isStorms, (ztb_at 660 (by decide +kernel) (by decide +kernel))⟩
theorem YX5_stormSum : zYs yX5_stormSum cX5_stormSum 8 (some .long) 5 := ⟨(ztb_at 666 (by decide +kernel) (by decide +kernel)), (ztb_at 72 (by decide +kernel) (by decide +kernel)), ⟨by decide +kernel, by decide +kernel⟩, by decide +kernel, (ztb_at 665 (by decide +kernel) (by decide +kernel))⟩
theorem kX5_209 : zCs RX5 209 yX5_stormSum cX5_stormSum 8 (some .long) 5 := ⟨YX5_stormSum, (ztb_at 664 (by decide +kernel) (by decide +kernel))⟩
theorem YX5_fractionPart : zYs yX5_fractionPart cX5_fractionPart 8 (some .long) 3 := ⟨(ztb_at 670 (by decide +kernel) (by decide +kernel)), (ztb_at 72 (by decide +kernel) (by decide +kernel)), ⟨by decide +kernel, by decide +kernel⟩, by decide +kernel, (ztb_at 669 (by decide +kernel) (by decide +kernel))⟩
theorem kX5_213 : zCs RX5 213 yX5_fractionPart cX5_fractionPart 8 (some .long) 3 := ⟨YX5_fractionPart, (ztb_at 668 (by decide +kernel) (by decide +kernel))⟩
theorem YX4_add : zYv yX4_add cX4_add 4 none 3 := ⟨(ztb_at 689 (by decide +kernel) (by decide +kernel)), (ztb_at 74 (by decide +kernel) (by decide +kernel)), ⟨by decide +kernel, by decide +kernel⟩, by decide +kernel, (ztb_at 687 (by decide +kernel) (by decide +kernel)), (ztb_at 688 (by decide +kernel) (by decide +kernel))⟩
theorem kX5_217 : zCl RX5 217 yX4_add cX4_add 4 none 3 4 := ⟨YX4_add, (ztb_at 686 (by decide +kernel) (by decide +kernel)), by decide, TX4, 4, rfl⟩
theorem YX5_kindsAsSeen : zYv yX5_kindsAsSeen cX5_kindsAsSeen 5 (some .int) 1 := ⟨(ztb_at 701 (by decide +kernel) (by decide +kernel)), (ztb_at 72 (by decide +kernel) (by decide +kernel)), ⟨by decide +kernel, by decide +kernel⟩, by decide +kernel, (ztb_at 700 (by decide +kernel) (by decide +kernel)), (ztb_at 21 (by decide +kernel) (by decide +kernel))⟩
theorem kX5_220 : zCl RX5 220 yX5_kindsAsSeen cX5_kindsAsSeen 5 (some .int) 1 5 := ⟨YX5_kindsAsSeen, (ztb_at 698 (by decide +kernel) (by decide +kernel)), by decide, TX5, 9, rfl⟩
theorem YX4_agreeWith : zYv yX4_agreeWith cX4_agreeWith 4 (some .boolean) 1 := ⟨(ztb_at 705 (by decide +kernel) (by decide +kernel)), (ztb_at 74 (by decide +kernel) (by decide +kernel)), ⟨by decide +kernel, by decide +kernel⟩, by decide +kernel, (ztb_at 703 (by decide +kernel) (by decide +kernel)), (ztb_at 704 (by decide +kernel) (by decide +kernel))⟩
theorem kX5_223 : zCl RX5 223 yX4_agreeWith cX4_agreeWith 4 (some .boolean) 1 4 := ⟨YX4_agreeWith, (ztb_at 702 (by decide +kernel) (by decide +kernel)), by decide, TX4, 4, rfl⟩
theorem YX5_layCourses : zYv yX5_layCourses cX5_layCourses 8 (some .int) 2 := ⟨(ztb_at 723 (by decide +kernel) (by decide +kernel)), (ztb_at 72 (by decide +kernel) (by decide +kernel)), ⟨by decide +kernel, by decide +kernel⟩, by decide +kernel, (ztb_at 722 (by decide +kernel) (by decide +kernel)), (ztb_at 23 (by decide +kernel) (by decide +kernel))⟩
theorem kX5_227 : zCl RX5 227 yX5_layCourses cX5_layCourses 8 (some .int) 2 5 := ⟨YX5_layCourses, (ztb_at 720 (by decide +kernel) (by decide +kernel)), by decide, TX5, 9, rfl⟩
theorem YX5_mostLeft : zYv yX5_mostLeft cX5_mostLeft 8 (some .int) 2 := ⟨(ztb_at 727 (by decide +kernel) (by decide +kernel)), (ztb_at 72 (by decide +kernel) (by decide +kernel)), ⟨by decide +kernel, by decide +kernel⟩, by decide +kernel, (ztb_at 726 (by decide +kernel) (by decide +kernel)), (ztb_at 24 (by decide +kernel) (by decide +kernel))⟩
theorem kX5_230 : zCl RX5 230 yX5_mostLeft cX5_mostLeft 8 (some .int) 2 5 := ⟨YX5_mostLeft, (ztb_at 724 (by decide +kernel) (by decide +kernel)), by decide, TX5, 9, rfl⟩
theorem YX4_become : zYv yX4_become cX4_become 2 none 1 := ⟨(ztb_at 741 (by decide +kernel) (by decide +kernel)), (ztb_at 74 (by decide +kernel) (by decide +kernel)), ⟨by decide +kernel, by decide +kernel⟩, by decide +kernel, (ztb_at 739 (by decide +kernel) (by decide +kernel)), (ztb_at 740 (by decide +kernel) (by decide +kernel))⟩
theorem kX5_238 : zCl RX5 238 yX4_become cX4_become 2 none 1 4 := ⟨YX4_become, (ztb_at 738 (by decide +kernel) (by decide +kernel)), by decide, TX4, 4, rfl⟩
theorem YX3_renew : zYv yX3_renew cX3_renew 3 none 2 := ⟨(ztb_at 754 (by decide +kernel) (by decide +kernel)), (ztb_at 76 (by decide +kernel) (by decide +kernel)), ⟨by decide +kernel, by decide +kernel⟩, by decide +kernel, (ztb_at 752 (by decide +kernel) (by decide +kernel)), (ztb_at 753 (by decide +kernel) (by decide +kernel))⟩
theorem kX5_241 : zCl RX5 241 yX3_renew cX3_renew 3 none 2 3 := ⟨YX3_renew, (ztb_at 751 (by decide +kernel) (by decide +kernel)), by decide, TX3, 3, rfl⟩
theorem kX5_248 : zCl RX5 248 yX3_faultAt cX3_faultAt 3 (some .int) 2 3 := ⟨YX3_faultAt, (ztb_at 760 (by decide +kernel) (by decide +kernel)), by decide, TX3, 3, rfl⟩
theorem YX3_put : zYv yX3_put cX3_put 3 none 2 := ⟨(ztb_at 767 (by decide +kernel) (by decide +kernel)), (ztb_at 76 (by decide +kernel) (by decide +kernel)), ⟨by decide +kernel, by decide +kernel⟩, by decide +kernel, (ztb_at 765 (by decide +kernel) (by decide +kernel)), (ztb_at 766 (by decide +kernel) (by decide +kernel))⟩
theorem kX5_251 : zCl RX5 251 yX3_put cX3_put 3 none 2 3 := ⟨YX3_put, (ztb_at 764 (by decide +kernel) (by decide +kernel)), by decide, TX3, 3, rfl⟩
theorem YX3_faultInThree : zYv yX3_faultInThree cX3_faultInThree 5 (some .int) 2 := ⟨(ztb_at 775 (by decide +kernel) (by decide +kernel)), (ztb_at 76 (by decide +kernel) (by decide +kernel)), ⟨by decide +kernel, by decide +kernel⟩, by decide +kernel, (ztb_at 773 (by decide +kernel) (by decide +kernel)), (ztb_at 774 (by decide +kernel) (by decide +kernel))⟩
theorem kX5_254 : zCl RX5 254 yX3_faultInThree cX3_faultInThree 5 (some .int) 2 3 := ⟨YX3_faultInThree, (ztb_at 772 (by decide +kernel) (by decide +kernel)), by decide, TX3, 3, rfl⟩
theorem YX0_lengthOfAll : zYv yX0_lengthOfAll cX0_lengthOfAll 3 (some .int) 0 := ⟨(ztb_at 788 (by decide +kernel) (by decide +kernel)), (ztb_at 73 (by decide +kernel) (by decide +kernel)), ⟨by decide +kernel, by decide +kernel⟩, by decide +kernel, (ztb_at 786 (by decide +kernel) (by decide +kernel)), (ztb_at 787 (by decide +kernel) (by decide +kernel))⟩
theorem kX5_263 : zCl RX5 263 yX0_lengthOfAll cX0_lengthOfAll 3 (some .int) 0 0 := ⟨YX0_lengthOfAll, (ztb_at 785 (by decide +kernel) (by decide +kernel)), by decide, TX0, 11, rfl⟩
theorem YX0_grudgeOfAll : zYv yX0_grudgeOfAll cX0_grudgeOfAll 4 (some .int) 0 := ⟨(ztb_at 792 (by decide +kernel) (by decide +kernel)), (ztb_at 73 (by decide +kernel) (by decide +kernel)), ⟨by decide +kernel, by decide +kernel⟩, by decide +kernel, (ztb_at 790 (by decide +kernel) (by decide +kernel)), (ztb_at 791 (by decide +kernel) (by decide +kernel))⟩
theorem kX5_266 : zCl RX5 266 yX0_grudgeOfAll cX0_grudgeOfAll 4 (some .int) 0 0 := ⟨YX0_grudgeOfAll, (ztb_at 789 (by decide +kernel) (by decide +kernel)), by decide, TX0, 11, rfl⟩
theorem kX5_275 : zCs RX5 275 yJ9_max_7cf53 cJ9_max_7cf53 2 (some .int) 2 := ⟨YJ9_max_7cf53, (ztb_at 728 (by decide +kernel) (by decide +kernel))⟩
theorem YX5_commonDivisor : zYs yX5_commonDivisor cX5_commonDivisor 11 (some .long) 2 := ⟨(ztb_at 674 (by decide +kernel) (by decide +kernel)), (ztb_at 72 (by decide +kernel) (by decide +kernel)), ⟨by decide +kernel, by decide +kernel⟩, by decide +kernel, (ztb_at 673 (by decide +kernel) (by decide +kernel))⟩
theorem kX5_280 : zCs RX5 280 yX5_commonDivisor cX5_commonDivisor 11 (some .long) 2 := ⟨YX5_commonDivisor, (ztb_at 672 (by decide +kernel) (by decide +kernel))⟩
theorem YJ9_max_f86c9 : zYs yJ9_max_f86c9 cJ9_max_f86c9 4 (some .long) 2 := ⟨(ztb_at 677 (by decide +kernel) (by decide +kernel)), (ztb_at 84 (by decide +kernel) (by decide +kernel)), ⟨by decide +kernel, by decide +kernel⟩, by decide +kernel, (ztb_at 676 (by decide +kernel) (by decide +kernel))⟩
theorem kX5_284 : zCs RX5 284 yJ9_max_f86c9 cJ9_max_f86c9 4 (some .long) 2 := ⟨YJ9_max_f86c9, (ztb_at 675 (by decide +kernel) (by decide +kernel))⟩
theorem YX6_firstDraft : zYv yX6_firstDraft cX6_firstDraft 2 none 0 := ⟨(ztb_at 803 (by decide +kernel) (by decide +kernel)), (ztb_at 78 (by decide +kernel) (by decide +kernel)), ⟨by decide +kernel, by decide +kernel⟩, by decide +kernel, (ztb_at 802 (by decide +kernel) (by decide +kernel)), (ztb_at 25 (by decide +kernel) (by decide +kernel))⟩
theorem kX6_44 : zCl RX6 44 yX6_firstDraft cX6_firstDraft 2 none 0 6 := ⟨YX6_firstDraft, (ztb_at 800 (by decide +kernel) (by decide +kernel)), by decide, TX6, 29, rfl⟩
theorem YX6_keepDraft : zYv yX6_keepDraft cX6_keepDraft 2 none 0 := ⟨(ztb_at 807 (by decide +kernel) (by decide +kernel)), (ztb_at 78 (by decide +kernel) (by decide +kernel)), ⟨by decide +kernel, by decide +kernel⟩, by decide +kernel, (ztb_at 806 (by decide +kernel) (by decide +kernel)), (ztb_at 26 (by decide +kernel) (by decide +kernel))⟩
theorem kX6_47 : zCl RX6 47 yX6_keepDraft cX6_keepDraft 2 none 0 6 := ⟨YX6_keepDraft, (ztb_at 804 (by decide +kernel) (by decide +kernel)), by decide, TX6, 29, rfl⟩
theorem YX6_in : zYs yX6_in cX6_in 6 (some .boolean) 3 := ⟨(ztb_at 903 (by decide +kernel) (by decide +kernel)), (ztb_at 78 (by decide +kernel) (by decide +kernel)), ⟨by decide +kernel, by decide +kernel⟩, by decide +kernel, (ztb_at 902 (by decide +kernel) (by decide +kernel))⟩
theorem kX6_69 : zCs RX6 69 yX6_in cX6_in 6 (some .boolean) 3 := ⟨YX6_in, (ztb_at 901 (by decide +kernel) (by decide +kernel))⟩
theorem YX6_byteAt : zYv yX6_byteAt cX6_byteAt 2 (some .int) 1 := ⟨(ztb_at 919 (by decide +kernel) (by decide +kernel)), (ztb_at 78 (by decide +kernel) (by decide +kernel)), ⟨by decide +kernel, by decide +kernel⟩, by decide +kernel, (ztb_at 918 (by decide +kernel) (by decide +kernel)), (ztb_at 28 (by decide +kernel) (by decide +kernel))⟩
theorem kX6_88 : zCl RX6 88 yX6_byteAt cX6_byteAt 2 (some .int) 1 6 := ⟨YX6_byteAt, (ztb_at 916 (by decide +kernel) (by decide +kernel)), by decide, TX6, 29, rfl⟩
theorem YX6_is : zYv yX6_is cX6_is 6 (some .boolean) 5 := ⟨(ztb_at 939 (by decide +kernel) (by decide +kernel)), (ztb_at 78 (by decide +kernel) (by decide +kernel)), ⟨by decide +kernel, by decide +kernel⟩, by decide +kernel, (ztb_at 938 (by decide +kernel) (by decide +kernel)), (ztb_at 32 (by decide +kernel) (by decide +kernel))⟩
theorem kX6_92 : zCl RX6 92 yX6_is cX6_is 6 (some .boolean) 5 6 := ⟨YX6_is, (ztb_at 936 (by decide +kernel) (by decide +kernel)), by decide, TX6, 29, rfl⟩
theorem YX6_endsIn : zYv yX6_endsIn cX6_endsIn 2 (some .boolean) 1 := ⟨(ztb_at 943 (by decide +kernel) (by decide +kernel)), (ztb_at 78 (by decide +kernel) (by decide +kernel)), ⟨by decide +kernel, by decide +kernel⟩, by decide +kernel, (ztb_at 942 (by decide +kernel) (by decide +kernel)), (ztb_at 33 (by decide +kernel) (by decide +kernel))⟩
theorem kX6_96 : zCl RX6 96 yX6_endsIn cX6_endsIn 2 (some .boolean) 1 6 := ⟨YX6_endsIn, (ztb_at 940 (by decide +kernel) (by decide +kernel)), by decide, TX6, 29, rfl⟩
theorem YX6_needs : zYv yX6_needs cX6_needs 3 none 2 := ⟨(ztb_at 927 (by decide +kernel) (by decide +kernel)), (ztb_at 78 (by decide +kernel) (by decide +kernel)), ⟨by decide +kernel, by decide +kernel⟩, by decide +kernel, (ztb_at 926 (by decide +kernel) (by decide +kernel)), (ztb_at 29 (by decide +kernel) (by decide +kernel))⟩
theorem kX6_114 : zCl RX6 114 yX6_needs cX6_needs 3 none 2 6 := ⟨YX6_needs, (ztb_at 924 (by decide +kernel) (by decide +kernel)), by decide, TX6, 29, rfl⟩
theorem YX6_looked : zYv yX6_looked cX6_looked 3 (some .int) 2 := ⟨(ztb_at 959 (by decide +kernel) (by decide +kernel)), (ztb_at 78 (by decide +kernel) (by decide +kernel)), ⟨by decide +kernel, by decide +kernel⟩, by decide +kernel, (ztb_at 958 (by decide +kernel) (by decide +kernel)), (ztb_at 37 (by decide +kernel) (by decide +kernel))⟩
theorem kX6_118 : zCl RX6 118 yX6_looked cX6_looked 3 (some .int) 2 6 := ⟨YX6_looked, (ztb_at 956 (by decide +kernel) (by decide +kernel)), by decide, TX6, 29, rfl⟩
theorem YX6_takes : zYv yX6_takes cX6_takes 2 none 0 := ⟨(ztb_at 915 (by decide +kernel) (by decide +kernel)), (ztb_at 78 (by decide +kernel) (by decide +kernel)), ⟨by decide +kernel, by decide +kernel⟩, by decide +kernel, (ztb_at 914 (by decide +kernel) (by decide +kernel)), (ztb_at 27 (by decide +kernel) (by decide +kernel))⟩
theorem kX6_122 : zCl RX6 122 yX6_takes cX6_takes 2 none 0 6 := ⟨YX6_takes, (ztb_at 912 (by decide +kernel) (by decide +kernel)), by decide, TX6, 29, rfl⟩
theorem YX6_readNumber : zYv yX6_readNumber cX6_readNumber 4 (some .int) 2 := ⟨(ztb_at 955 (by decide +kernel) (by decide +kernel)), (ztb_at 78 (by decide +kernel) (by decide +kernel)), ⟨by decide +kernel, by decide +kernel⟩, by decide +kernel, (ztb_at 954 (by decide +kernel) (by decide +kernel)), (ztb_at 36 (by decide +kernel) (by decide +kernel))⟩
theorem kX6_125 : zCl RX6 125 yX6_readNumber cX6_readNumber 4 (some .int) 2 6 := ⟨YX6_readNumber, (ztb_at 952 (by decide +kernel) (by decide +kernel)), by decide, TX6, 29, rfl⟩
theorem YX6_noteHighest : zYv yX6_noteHighest cX6_noteHighest 2 none 1 := ⟨(ztb_at 963 (by decide +kernel) (by decide +kernel)), (ztb_at 78 (by decide +kernel) (by decide +kernel)), ⟨by decide +kernel, by decide +kernel⟩, by decide +kernel, (ztb_at 962 (by decide +kernel) (by decide +kernel)), (ztb_at 38 (by decide +kernel) (by decide +kernel))⟩
theorem kX6_128 : zCl RX6 128 yX6_noteHighest cX6_noteHighest 2 none 1 6 := ⟨YX6_noteHighest, (ztb_at 960 (by decide +kernel) (by decide +kernel)), by decide, TX6, 29, rfl⟩
theorem YX6_readCross : zYv yX6_readCross cX6_readCross 3 none 0 := ⟨(ztb_at 951 (by decide +kernel) (by decide +kernel)), (ztb_at 78 (by decide +kernel) (by decide +kernel)), ⟨by decide +kernel, by decide +kernel⟩, by decide +kernel, (ztb_at 950 (by decide +kernel) (by decide +kernel)), (ztb_at 35 (by decide +kernel) (by decide +kernel))⟩
theorem kX6_132 : zCl RX6 132 yX6_readCross cX6_readCross 3 none 0 6 := ⟨YX6_readCross, (ztb_at 948 (by decide +kernel) (by decide +kernel)), by decide, TX6, 29, rfl⟩
theorem YX6_readRope : zYv yX6_readRope cX6_readRope 4 none 0 := ⟨(ztb_at 967 (by decide +kernel) (by decide +kernel)), (ztb_at 78 (by decide +kernel) (by decide +kernel)), ⟨by decide +kernel, by decide +kernel⟩, by decide +kernel, (ztb_at 966 (by decide +kernel) (by decide +kernel)), (ztb_at 39 (by decide +kernel) (by decide +kernel))⟩
theorem kX6_135 : zCl RX6 135 yX6_readRope cX6_readRope 4 none 0 6 := ⟨YX6_readRope, (ztb_at 964 (by decide +kernel) (by decide +kernel)), by decide, TX6, 29, rfl⟩
theorem YX6_readIsle : zYv yX6_readIsle cX6_readIsle 4 none 1 := ⟨(ztb_at 971 (by decide +kernel) (by decide +kernel)), (ztb_at 78 (by decide +kernel) (by decide +kernel)), ⟨by decide +kernel, by decide +kernel⟩, by decide +kernel, (ztb_at 970 (by decide +kernel) (by decide +kernel)), (ztb_at 40 (by decide +kernel) (by decide +kernel))⟩
theorem kX6_138 : zCl RX6 138 yX6_readIsle cX6_readIsle 4 none 1 6 := ⟨YX6_readIsle, (ztb_at 968 (by decide +kernel) (by decide +kernel)), by decide, TX6, 29, rfl⟩
theorem YX6_lineNow : zYv yX6_lineNow cX6_lineNow 1 (some .int) 0 := ⟨(ztb_at 935 (by decide +kernel) (by decide +kernel)), (ztb_at 78 (by decide +kernel) (by decide +kernel)), ⟨by decide +kernel, by decide +kernel⟩, by decide +kernel, (ztb_at 934 (by decide +kernel) (by decide +kernel)), (ztb_at 31 (by decide +kernel) (by decide +kernel))⟩
theorem kX6_141 : zCl RX6 141 yX6_lineNow cX6_lineNow 1 (some .int) 0 6 := ⟨YX6_lineNow, (ztb_at 932 (by decide +kernel) (by decide +kernel)), by decide, TX6, 29, rfl⟩
theorem YX6_readLineOf : zYv yX6_readLineOf cX6_readLineOf 2 none 1 := ⟨(ztb_at 947 (by decide +kernel) (by decide +kernel)), (ztb_at 78 (by decide +kernel) (by decide +kernel)), ⟨by decide +kernel, by decide +kernel⟩, by decide +kernel, (ztb_at 946 (by decide +kernel) (by decide +kernel)), (ztb_at 34 (by decide +kernel) (by decide +kernel))⟩
theorem kX6_145 : zCl RX6 145 yX6_readLineOf cX6_readLineOf 2 none 1 6 := ⟨YX6_readLineOf, (ztb_at 944 (by decide +kernel) (by decide +kernel)), by decide, TX6, 29, rfl⟩
theorem YX6_readLine : zYv yX6_readLine cX6_readLine 2 none 0 := ⟨(ztb_at 931 (by decide +kernel) (by decide +kernel)), (ztb_at 78 (by decide +kernel) (by decide +kernel)), ⟨by decide +kernel, by decide +kernel⟩, by decide +kernel, (ztb_at 930 (by decide +kernel) (by decide +kernel)), (ztb_at 30 (by decide +kernel) (by decide +kernel))⟩
theorem kX6_148 : zCl RX6 148 yX6_readLine cX6_readLine 2 none 0 6 := ⟨YX6_readLine, (ztb_at 928 (by decide +kernel) (by decide +kernel)), by decide, TX6, 29, rfl⟩
theorem YX6_isIsle : zYv yX6_isIsle cX6_isIsle 2 (some .boolean) 1 := ⟨(ztb_at 1006 (by decide +kernel) (by decide +kernel)), (ztb_at 78 (by decide +kernel) (by decide +kernel)), ⟨by decide +kernel, by decide +kernel⟩, by decide +kernel, (ztb_at 1005 (by decide +kernel) (by decide +kernel)), (ztb_at 45 (by decide +kernel) (by decide +kernel))⟩
theorem kX6_151 : zCl RX6 151 yX6_isIsle cX6_isIsle 2 (some .boolean) 1 6 := ⟨YX6_isIsle, (ztb_at 1003 (by decide +kernel) (by decide +kernel)), by decide, TX6, 29, rfl⟩
theorem YX6_place : zYv yX6_place cX6_place 2 (some .int) 1 := ⟨(ztb_at 995 (by decide +kernel) (by decide +kernel)), (ztb_at 78 (by decide +kernel) (by decide +kernel)), ⟨by decide +kernel, by decide +kernel⟩, by decide +kernel, (ztb_at 994 (by decide +kernel) (by decide +kernel)), (ztb_at 44 (by decide +kernel) (by decide +kernel))⟩
theorem kX6_156 : zCl RX6 156 yX6_place cX6_place 2 (some .int) 1 6 := ⟨YX6_place, (ztb_at 992 (by decide +kernel) (by decide +kernel)), by decide, TX6, 29, rfl⟩
theorem YX6_sizeOf : zYs yX6_sizeOf cX6_sizeOf 1 (some .int) 1 := ⟨(ztb_at 998 (by decide +kernel) (by decide +kernel)), (ztb_at 78 (by decide +kernel) (by decide +kernel)), ⟨by decide +kernel, by decide +kernel⟩, by decide +kernel, (ztb_at 997 (by decide +kernel) (by decide +kernel))⟩
theorem kX6_159 : zCs RX6 159 yX6_sizeOf cX6_sizeOf 1 (some .int) 1 := ⟨YX6_sizeOf, (ztb_at 996 (by decide +kernel) (by decide +kernel))⟩
theorem YX6_apart : zYv yX6_apart cX6_apart 3 (some .int) 2 := ⟨(ztb_at 991 (by decide +kernel) (by decide +kernel)), (ztb_at 78 (by decide +kernel) (by decide +kernel)), ⟨by decide +kernel, by decide +kernel⟩, by decide +kernel, (ztb_at 990 (by decide +kernel) (by decide +kernel)), (ztb_at 43 (by decide +kernel) (by decide +kernel))⟩
theorem kX6_162 : zCl RX6 162 yX6_apart cX6_apart 3 (some .int) 2 6 := ⟨YX6_apart, (ztb_at 988 (by decide +kernel) (by decide +kernel)), by decide, TX6, 29, rfl⟩
theorem YX6_sulkOf : zYv yX6_sulkOf cX6_sulkOf 5 (some .int) 1 := ⟨(ztb_at 1021 (by decide +kernel) (by decide +kernel)), (ztb_at 78 (by decide +kernel) (by decide +kernel)), ⟨by decide +kernel, by decide +kernel⟩, by decide +kernel, (ztb_at 1020 (by decide +kernel) (by decide +kernel)), (ztb_at 48 (by decide +kernel) (by decide +kernel))⟩
theorem kX6_165 : zCl RX6 165 yX6_sulkOf cX6_sulkOf 5 (some .int) 1 6 := ⟨YX6_sulkOf, (ztb_at 1018 (by decide +kernel) (by decide +kernel)), by decide, TX6, 29, rfl⟩
theorem YX6_driftOf : zYv yX6_driftOf cX6_driftOf 4 (some .int) 1 := ⟨(ztb_at 1017 (by decide +kernel) (by decide +kernel)), (ztb_at 78 (by decide +kernel) (by decide +kernel)), ⟨by decide +kernel, by decide +kernel⟩, by decide +kernel, (ztb_at 1016 (by decide +kernel) (by decide +kernel)), (ztb_at 47 (by decide +kernel) (by decide +kernel))⟩
theorem kX6_168 : zCl RX6 168 yX6_driftOf cX6_driftOf 4 (some .int) 1 6 := ⟨YX6_driftOf, (ztb_at 1014 (by decide +kernel) (by decide +kernel)), by decide, TX6, 29, rfl⟩
theorem YX6_isFathom : zYs yX6_isFathom cX6_isFathom 1 (some .boolean) 1 := ⟨(ztb_at 1054 (by decide +kernel) (by decide +kernel)), (ztb_at 78 (by decide +kernel) (by decide +kernel)), ⟨by decide +kernel, by decide +kernel⟩, by decide +kernel, (ztb_at 1053 (by decide +kernel) (by decide +kernel))⟩
theorem kX6_171 : zCs RX6 171 yX6_isFathom cX6_isFathom 1 (some .boolean) 1 := ⟨YX6_isFathom, (ztb_at 1052 (by decide +kernel) (by decide +kernel))⟩
theorem YX6_isHeld : zYv yX6_isHeld cX6_isHeld 8 (some .boolean) 2 := ⟨(ztb_at 1113 (by decide +kernel) (by decide +kernel)), (ztb_at 78 (by decide +kernel) (by decide +kernel)), ⟨by decide +kernel, by decide +kernel⟩, by decide +kernel, (ztb_at 1112 (by decide +kernel) (by decide +kernel)), (ztb_at 59 (by decide +kernel) (by decide +kernel))⟩
theorem kX6_174 : zCl RX6 174 yX6_isHeld cX6_isHeld 8 (some .boolean) 2 6 := ⟨YX6_isHeld, (ztb_at 1110 (by decide +kernel) (by decide +kernel)), by decide, TX6, 29, rfl⟩
theorem YX6_isTaken : zYv yX6_isTaken cX6_isTaken 4 (some .boolean) 1 := ⟨(ztb_at 1059 (by decide +kernel) (by decide +kernel)), (ztb_at 78 (by decide +kernel) (by decide +kernel)), ⟨by decide +kernel, by decide +kernel⟩, by decide +kernel, (ztb_at 1058 (by decide +kernel) (by decide +kernel)), (ztb_at 52 (by decide +kernel) (by decide +kernel))⟩
theorem kX6_178 : zCl RX6 178 yX6_isTaken cX6_isTaken 4 (some .boolean) 1 6 := ⟨YX6_isTaken, (ztb_at 1056 (by decide +kernel) (by decide +kernel)), by decide, TX6, 29, rfl⟩
theorem YX6_nearest : zYv yX6_nearest cX6_nearest 4 (some .int) 1 := ⟨(ztb_at 1025 (by decide +kernel) (by decide +kernel)), (ztb_at 78 (by decide +kernel) (by decide +kernel)), ⟨by decide +kernel, by decide +kernel⟩, by decide +kernel, (ztb_at 1024 (by decide +kernel) (by decide +kernel)), (ztb_at 49 (by decide +kernel) (by decide +kernel))⟩
theorem kX6_181 : zCl RX6 181 yX6_nearest cX6_nearest 4 (some .int) 1 6 := ⟨YX6_nearest, (ztb_at 1022 (by decide +kernel) (by decide +kernel)), by decide, TX6, 29, rfl⟩
theorem YX6_feasts : zYv yX6_feasts cX6_feasts 4 none 1 := ⟨(ztb_at 1109 (by decide +kernel) (by decide +kernel)), (ztb_at 78 (by decide +kernel) (by decide +kernel)), ⟨by decide +kernel, by decide +kernel⟩, by decide +kernel, (ztb_at 1108 (by decide +kernel) (by decide +kernel)), (ztb_at 58 (by decide +kernel) (by decide +kernel))⟩
theorem kX6_184 : zCl RX6 184 yX6_feasts cX6_feasts 4 none 1 6 := ⟨YX6_feasts, (ztb_at 1106 (by decide +kernel) (by decide +kernel)), by decide, TX6, 29, rfl⟩
theorem YX6_drifts : zYv yX6_drifts cX6_drifts 7 none 1 := ⟨(ztb_at 1117 (by decide +kernel) (by decide +kernel)), (ztb_at 78 (by decide +kernel) (by decide +kernel)), ⟨by decide +kernel, by decide +kernel⟩, by decide +kernel, (ztb_at 1116 (by decide +kernel) (by decide +kernel)), (ztb_at 60 (by decide +kernel) (by decide +kernel))⟩
theorem kX6_187 : zCl RX6 187 yX6_drifts cX6_drifts 7 none 1 6 := ⟨YX6_drifts, (ztb_at 1114 (by decide +kernel) (by decide +kernel)), by decide, TX6, 29, rfl⟩
theorem YX6_dayGoes : zYv yX6_dayGoes cX6_dayGoes 4 none 1 := ⟨(ztb_at 1105 (by decide +kernel) (by decide +kernel)), (ztb_at 78 (by decide +kernel) (by decide +kernel)), ⟨by decide +kernel, by decide +kernel⟩, by decide +kernel, (ztb_at 1104 (by decide +kernel) (by decide +kernel)), (ztb_at 57 (by decide +kernel) (by decide +kernel))⟩
theorem kX6_190 : zCl RX6 190 yX6_dayGoes cX6_dayGoes 4 none 1 6 := ⟨YX6_dayGoes, (ztb_at 1102 (by decide +kernel) (by decide +kernel)), by decide, TX6, 29, rfl⟩
theorem YX6_starts : zYv yX6_starts cX6_starts 2 none 0 := ⟨(ztb_at 983 (by decide +kernel) (by decide +kernel)), (ztb_at 78 (by decide +kernel) (by decide +kernel)), ⟨by decide +kernel, by decide +kernel⟩, by decide +kernel, (ztb_at 982 (by decide +kernel) (by decide +kernel)), (ztb_at 41 (by decide +kernel) (by decide +kernel))⟩
theorem kX6_194 : zCl RX6 194 yX6_starts cX6_starts 2 none 0 6 := ⟨YX6_starts, (ztb_at 980 (by decide +kernel) (by decide +kernel)), by decide, TX6, 29, rfl⟩
theorem YX6_spread : zYv yX6_spread cX6_spread 4 (some .int) 0 := ⟨(ztb_at 987 (by decide +kernel) (by decide +kernel)), (ztb_at 78 (by decide +kernel) (by decide +kernel)), ⟨by decide +kernel, by decide +kernel⟩, by decide +kernel, (ztb_at 986 (by decide +kernel) (by decide +kernel)), (ztb_at 42 (by decide +kernel) (by decide +kernel))⟩
theorem kX6_197 : zCl RX6 197 yX6_spread cX6_spread 4 (some .int) 0 6 := ⟨YX6_spread, (ztb_at 984 (by decide +kernel) (by decide +kernel)), by decide, TX6, 29, rfl⟩
theorem YX6_flag : zYs yX6_flag cX6_flag 1 (some .int) 1 := ⟨(ztb_at 1013 (by decide +kernel) (by decide +kernel)), (ztb_at 78 (by decide +kernel) (by decide +kernel)), ⟨by decide +kernel, by decide +kernel⟩, by decide +kernel, (ztb_at 1012 (by decide +kernel) (by decide +kernel))⟩
theorem kX6_200 : zCs RX6 200 yX6_flag cX6_flag 1 (some .int) 1 := ⟨YX6_flag, (ztb_at 1011 (by decide +kernel) (by decide +kernel))⟩
theorem YX6_ropesOf : zYv yX6_ropesOf cX6_ropesOf 5 (some .int) 1 := ⟨(ztb_at 1010 (by decide +kernel) (by decide +kernel)), (ztb_at 78 (by decide +kernel) (by decide +kernel)), ⟨by decide +kernel, by decide +kernel⟩, by decide +kernel, (ztb_at 1009 (by decide +kernel) (by decide +kernel)), (ztb_at 46 (by decide +kernel) (by decide +kernel))⟩
theorem kX6_204 : zCl RX6 204 yX6_ropesOf cX6_ropesOf 5 (some .int) 1 6 := ⟨YX6_ropesOf, (ztb_at 1007 (by decide +kernel) (by decide +kernel)), by decide, TX6, 29, rfl⟩
theorem YX6_areTwo : zYv yX6_areTwo cX6_areTwo 3 (some .boolean) 2 := ⟨(ztb_at 1033 (by decide +kernel) (by decide +kernel)), (ztb_at 78 (by decide +kernel) (by decide +kernel)), ⟨by decide +kernel, by decide +kernel⟩, by decide +kernel, (ztb_at 1032 (by decide +kernel) (by decide +kernel)), (ztb_at 50 (by decide +kernel) (by decide +kernel))⟩
theorem kX6_207 : zCl RX6 207 yX6_areTwo cX6_areTwo 3 (some .boolean) 2 6 := ⟨YX6_areTwo, (ztb_at 1030 (by decide +kernel) (by decide +kernel)), by decide, TX6, 29, rfl⟩
theorem YX6_isRope : zYv yX6_isRope cX6_isRope 2 (some .boolean) 1 := ⟨(ztb_at 1041 (by decide +kernel) (by decide +kernel)), (ztb_at 78 (by decide +kernel) (by decide +kernel)), ⟨by decide +kernel, by decide +kernel⟩, by decide +kernel, (ztb_at 1040 (by decide +kernel) (by decide +kernel)), (ztb_at 51 (by decide +kernel) (by decide +kernel))⟩
theorem kX6_210 : zCl RX6 210 yX6_isRope cX6_isRope 2 (some .boolean) 1 6 := ⟨YX6_isRope, (ztb_at 1038 (by decide +kernel) (by decide +kernel)), by decide, TX6, 29, rfl⟩
theorem YX6_becomes : zYv yX6_becomes cX6_becomes 4 (some .int) 2 := ⟨(ztb_at 1063 (by decide +kernel) (by decide +kernel)), (ztb_at 78 (by decide +kernel) (by decide +kernel)), ⟨by decide +kernel, by decide +kernel⟩, by decide +kernel, (ztb_at 1062 (by decide +kernel) (by decide +kernel)), (ztb_at 53 (by decide +kernel) (by decide +kernel))⟩
theorem kX6_217 : zCl RX6 217 yX6_becomes cX6_becomes 4 (some .int) 2 6 := ⟨YX6_becomes, (ztb_at 1060 (by decide +kernel) (by decide +kernel)), by decide, TX6, 29, rfl⟩
theorem YX6_ties : zYv yX6_ties cX6_ties 5 none 3 := ⟨(ztb_at 1080 (by decide +kernel) (by decide +kernel)), (ztb_at 78 (by decide +kernel) (by decide +kernel)), ⟨by decide +kernel, by decide +kernel⟩, by decide +kernel, (ztb_at 1079 (by decide +kernel) (by decide +kernel)), (ztb_at 54 (by decide +kernel) (by decide +kernel))⟩
theorem kX6_222 : zCl RX6 222 yX6_ties cX6_ties 5 none 3 6 := ⟨YX6_ties, (ztb_at 1077 (by decide +kernel) (by decide +kernel)), by decide, TX6, 29, rfl⟩
theorem YX6_settles : zYv yX6_settles cX6_settles 2 none 0 := ⟨(ztb_at 1084 (by decide +kernel) (by decide +kernel)), (ztb_at 78 (by decide +kernel) (by decide +kernel)), ⟨by decide +kernel, by decide +kernel⟩, by decide +kernel, (ztb_at 1083 (by decide +kernel) (by decide +kernel)), (ztb_at 55 (by decide +kernel) (by decide +kernel))⟩
theorem kX6_226 : zCl RX6 226 yX6_settles cX6_settles 2 none 0 6 := ⟨YX6_settles, (ztb_at 1081 (by decide +kernel) (by decide +kernel)), by decide, TX6, 29, rfl⟩
theorem YX6_daysGo : zYv yX6_daysGo cX6_daysGo 3 none 1 := ⟨(ztb_at 1101 (by decide +kernel) (by decide +kernel)), (ztb_at 78 (by decide +kernel) (by decide +kernel)), ⟨by decide +kernel, by decide +kernel⟩, by decide +kernel, (ztb_at 1100 (by decide +kernel) (by decide +kernel)), (ztb_at 56 (by decide +kernel) (by decide +kernel))⟩
theorem kX6_231 : zCl RX6 231 yX6_daysGo cX6_daysGo 3 none 1 6 := ⟨YX6_daysGo, (ztb_at 1098 (by decide +kernel) (by decide +kernel)), by decide, TX6, 29, rfl⟩
theorem YX6_bumpsSince : zYv yX6_bumpsSince cX6_bumpsSince 1 (some .int) 0 := ⟨(ztb_at 1121 (by decide +kernel) (by decide +kernel)), (ztb_at 78 (by decide +kernel) (by decide +kernel)), ⟨by decide +kernel, by decide +kernel⟩, by decide +kernel, (ztb_at 1120 (by decide +kernel) (by decide +kernel)), (ztb_at 61 (by decide +kernel) (by decide +kernel))⟩
theorem kX6_234 : zCl RX6 234 yX6_bumpsSince cX6_bumpsSince 1 (some .int) 0 6 := ⟨YX6_bumpsSince, (ztb_at 1118 (by decide +kernel) (by decide +kernel)), by decide, TX6, 29, rfl⟩
theorem YX6_isFar : zYs yX6_isFar cX6_isFar 1 (some .boolean) 1 := ⟨(ztb_at 1128 (by decide +kernel) (by decide +kernel)), (ztb_at 78 (by decide +kernel) (by decide +kernel)), ⟨by decide +kernel, by decide +kernel⟩, by decide +kernel, (ztb_at 1127 (by decide +kernel) (by decide +kernel))⟩
theorem kX6_239 : zCs RX6 239 yX6_isFar cX6_isFar 1 (some .boolean) 1 := ⟨YX6_isFar, (ztb_at 1126 (by decide +kernel) (by decide +kernel))⟩
theorem YX6_lesser : zYs yX6_lesser cX6_lesser 2 (some .int) 2 := ⟨(ztb_at 1132 (by decide +kernel) (by decide +kernel)), (ztb_at 78 (by decide +kernel) (by decide +kernel)), ⟨by decide +kernel, by decide +kernel⟩, by decide +kernel, (ztb_at 1131 (by decide +kernel) (by decide +kernel))⟩
theorem kX6_242 : zCs RX6 242 yX6_lesser cX6_lesser 2 (some .int) 2 := ⟨YX6_lesser, (ztb_at 1130 (by decide +kernel) (by decide +kernel))⟩
theorem YX6_isPart : zYs yX6_isPart cX6_isPart 1 (some .boolean) 1 := ⟨(ztb_at 1147 (by decide +kernel) (by decide +kernel)), (ztb_at 78 (by decide +kernel) (by decide +kernel)), ⟨by decide +kernel, by decide +kernel⟩, by decide +kernel, (ztb_at 1146 (by decide +kernel) (by decide +kernel))⟩
theorem kX6_251 : zCs RX6 251 yX6_isPart cX6_isPart 1 (some .boolean) 1 := ⟨YX6_isPart, (ztb_at 1145 (by decide +kernel) (by decide +kernel))⟩
theorem YX6_spreadBehind : zYv yX6_spreadBehind cX6_spreadBehind 2 (some .int) 1 := ⟨(ztb_at 1151 (by decide +kernel) (by decide +kernel)), (ztb_at 78 (by decide +kernel) (by decide +kernel)), ⟨by decide +kernel, by decide +kernel⟩, by decide +kernel, (ztb_at 1150 (by decide +kernel) (by decide +kernel)), (ztb_at 62 (by decide +kernel) (by decide +kernel))⟩
theorem kX6_254 : zCl RX6 254 yX6_spreadBehind cX6_spreadBehind 2 (some .int) 1 6 := ⟨YX6_spreadBehind, (ztb_at 1148 (by decide +kernel) (by decide +kernel)), by decide, TX6, 29, rfl⟩
theorem YX6_startsJudging : zYv yX6_startsJudging cX6_startsJudging 2 none 1 := ⟨(ztb_at 1155 (by decide +kernel) (by decide +kernel)), (ztb_at 78 (by decide +kernel) (by decide +kernel)), ⟨by decide +kernel, by decide +kernel⟩, by decide +kernel, (ztb_at 1154 (by decide +kernel) (by decide +kernel)), (ztb_at 63 (by decide +kernel) (by decide +kernel))⟩
theorem kX6_257 : zCl RX6 257 yX6_startsJudging cX6_startsJudging 2 none 1 6 := ⟨YX6_startsJudging, (ztb_at 1152 (by decide +kernel) (by decide +kernel)), by decide, TX6, 29, rfl⟩
theorem YX6_judges : zYv yX6_judges cX6_judges 3 none 2 := ⟨(ztb_at 1159 (by decide +kernel) (by decide +kernel)), (ztb_at 78 (by decide +kernel) (by decide +kernel)), ⟨by decide +kernel, by decide +kernel⟩, by decide +kernel, (ztb_at 1158 (by decide +kernel) (by decide +kernel)), (ztb_at 64 (by decide +kernel) (by decide +kernel))⟩
theorem kX6_260 : zCl RX6 260 yX6_judges cX6_judges 3 none 2 6 := ⟨YX6_judges, (ztb_at 1156 (by decide +kernel) (by decide +kernel)), by decide, TX6, 29, rfl⟩
theorem YX6_judged : zYv yX6_judged cX6_judged 2 (some .int) 1 := ⟨(ztb_at 1163 (by decide +kernel) (by decide +kernel)), (ztb_at 78 (by decide +kernel) (by decide +kernel)), ⟨by decide +kernel, by decide +kernel⟩, by decide +kernel, (ztb_at 1162 (by decide +kernel) (by decide +kernel)), (ztb_at 65 (by decide +kernel) (by decide +kernel))⟩
theorem kX6_264 : zCl RX6 264 yX6_judged cX6_judged 2 (some .int) 1 6 := ⟨YX6_judged, (ztb_at 1160 (by decide +kernel) (by decide +kernel)), by decide, TX6, 29, rfl⟩
theorem YX6_frays : zYv yX6_frays cX6_frays 3 none 1 := ⟨(ztb_at 1171 (by decide +kernel) (by decide +kernel)), (ztb_at 78 (by decide +kernel) (by decide +kernel)), ⟨by decide +kernel, by decide +kernel⟩, by decide +kernel, (ztb_at 1170 (by decide +kernel) (by decide +kernel)), (ztb_at 66 (by decide +kernel) (by decide +kernel))⟩
theorem kX6_267 : zCl RX6 267 yX6_frays cX6_frays 3 none 1 6 := ⟨YX6_frays, (ztb_at 1168 (by decide +kernel) (by decide +kernel)), by decide, TX6, 29, rfl⟩
theorem YX6_common : zYs yX6_common cX6_common 10 (some .long) 2 := ⟨(ztb_at 1205 (by decide +kernel) (by decide +kernel)), (ztb_at 78 (by decide +kernel) (by decide +kernel)), ⟨by decide +kernel, by decide +kernel⟩, by decide +kernel, (ztb_at 1204 (by decide +kernel) (by decide +kernel))⟩
theorem kX6_271 : zCs RX6 271 yX6_common cX6_common 10 (some .long) 2 := ⟨YX6_common, (ztb_at 1203 (by decide +kernel) (by decide +kernel))⟩
theorem YX6_findOdds : zYv yX6_findOdds cX6_findOdds 9 none 3 := ⟨(ztb_at 1199 (by decide +kernel) (by decide +kernel)), (ztb_at 78 (by decide +kernel) (by decide +kernel)), ⟨by decide +kernel, by decide +kernel⟩, by decide +kernel, (ztb_at 1198 (by decide +kernel) (by decide +kernel)), (ztb_at 67 (by decide +kernel) (by decide +kernel))⟩
theorem kX6_291 : zCl RX6 291 yX6_findOdds cX6_findOdds 9 none 3 6 := ⟨YX6_findOdds, (ztb_at 1196 (by decide +kernel) (by decide +kernel)), by decide, TX6, 29, rfl⟩
theorem YX6_told : zYs yX6_told cX6_told 7 (some .long) 3 := ⟨(ztb_at 1202 (by decide +kernel) (by decide +kernel)), (ztb_at 78 (by decide +kernel) (by decide +kernel)), ⟨by decide +kernel, by decide +kernel⟩, by decide +kernel, (ztb_at 1201 (by decide +kernel) (by decide +kernel))⟩
theorem kX6_294 : zCs RX6 294 yX6_told cX6_told 7 (some .long) 3 := ⟨YX6_told, (ztb_at 1200 (by decide +kernel) (by decide +kernel))⟩
theorem YX6_isSoWith : zYv yX6_isSoWith cX6_isSoWith 6 (some .boolean) 2 := ⟨(ztb_at 1230 (by decide +kernel) (by decide +kernel)), (ztb_at 78 (by decide +kernel) (by decide +kernel)), ⟨by decide +kernel, by decide +kernel⟩, by decide +kernel, (ztb_at 1229 (by decide +kernel) (by decide +kernel)), (ztb_at 69 (by decide +kernel) (by decide +kernel))⟩
theorem kX6_300 : zCl RX6 300 yX6_isSoWith cX6_isSoWith 6 (some .boolean) 2 6 := ⟨YX6_isSoWith, (ztb_at 1227 (by decide +kernel) (by decide +kernel)), by decide, TX6, 29, rfl⟩
theorem YX6_which : zYv yX6_which cX6_which 5 (some .int) 2 := ⟨(ztb_at 1226 (by decide +kernel) (by decide +kernel)), (ztb_at 78 (by decide +kernel) (by decide +kernel)), ⟨by decide +kernel, by decide +kernel⟩, by decide +kernel, (ztb_at 1225 (by decide +kernel) (by decide +kernel)), (ztb_at 68 (by decide +kernel) (by decide +kernel))⟩
theorem kX6_303 : zCl RX6 303 yX6_which cX6_which 5 (some .int) 2 6 := ⟨YX6_which, (ztb_at 1223 (by decide +kernel) (by decide +kernel)), by decide, TX6, 29, rfl⟩
theorem YX6_copies : zYv yX6_copies cX6_copies 4 none 2 := ⟨(ztb_at 1251 (by decide +kernel) (by decide +kernel)), (ztb_at 78 (by decide +kernel) (by decide +kernel)), ⟨by decide +kernel, by decide +kernel⟩, by decide +kernel, (ztb_at 1250 (by decide +kernel) (by decide +kernel)), (ztb_at 70 (by decide +kernel) (by decide +kernel))⟩
theorem kX6_307 : zCl RX6 307 yX6_copies cX6_copies 4 none 2 6 := ⟨YX6_copies, (ztb_at 1248 (by decide +kernel) (by decide +kernel)), by decide, TX6, 29, rfl⟩
theorem YX6_isSheet : zYs yX6_isSheet cX6_isSheet 2 (some .boolean) 2 := ⟨(ztb_at 1262 (by decide +kernel) (by decide +kernel)), (ztb_at 78 (by decide +kernel) (by decide +kernel)), ⟨by decide +kernel, by decide +kernel⟩, by decide +kernel, (ztb_at 1261 (by decide +kernel) (by decide +kernel))⟩
theorem kX6_310 : zCs RX6 310 yX6_isSheet cX6_isSheet 2 (some .boolean) 2 := ⟨YX6_isSheet, (ztb_at 1260 (by decide +kernel) (by decide +kernel))⟩
theorem kX6_315 : zCl RX6 315 yX6_sulk cX6_sulk 4 (some .int) 3 6 := ⟨YX6_sulk, (ztb_at 1272 (by decide +kernel) (by decide +kernel)), by decide, TX6, 29, rfl⟩
theorem nX5_207 : Cond.constantLong RX5 207 (-1) ∈ ztb := (ztb_at 663 (by decide +kernel) (by decide +kernel))
theorem nX5_233 : Cond.constant RX5 233 (1103515245) ∈ ztb := (ztb_at 733 (by decide +kernel) (by decide +kernel))
theorem nX5_278 : Cond.constantLong RX5 278 (10) ∈ ztb := (ztb_at 671 (by decide +kernel) (by decide +kernel))
theorem nX6_67 : Cond.constantLong RX6 67 (127) ∈ ztb := (ztb_at 900 (by decide +kernel) (by decide +kernel))
theorem nX6_103 : Cond.constantLong RX6 103 (97) ∈ ztb := (ztb_at 920 (by decide +kernel) (by decide +kernel))
theorem nX6_105 : Cond.constantLong RX6 105 (122) ∈ ztb := (ztb_at 921 (by decide +kernel) (by decide +kernel))
theorem nX6_107 : Cond.constantLong RX6 107 (48) ∈ ztb := (ztb_at 922 (by decide +kernel) (by decide +kernel))
theorem nX6_109 : Cond.constantLong RX6 109 (57) ∈ ztb := (ztb_at 923 (by decide +kernel) (by decide +kernel))
theorem nX6_154 : Cond.constantLong RX6 154 (99) ∈ ztb := (ztb_at 1055 (by decide +kernel) (by decide +kernel))
theorem nX6_213 : Cond.constantLong RX6 213 (2) ∈ ztb := (ztb_at 1042 (by decide +kernel) (by decide +kernel))
theorem nX6_215 : Cond.constantLong RX6 215 (3) ∈ ztb := (ztb_at 1051 (by decide +kernel) (by decide +kernel))
theorem nX6_220 : Cond.constantLong RX6 220 (30) ∈ ztb := (ztb_at 1072 (by decide +kernel) (by decide +kernel))
theorem nX6_229 : Cond.constantLong RX6 229 (6) ∈ ztb := (ztb_at 1093 (by decide +kernel) (by decide +kernel))
theorem nX6_237 : Cond.constantLong RX6 237 (60) ∈ ztb := (ztb_at 1129 (by decide +kernel) (by decide +kernel))
theorem nX6_270 : Cond.constant RX6 270 (1000000) ∈ ztb := (ztb_at 1180 (by decide +kernel) (by decide +kernel))
theorem nX6_285 : Cond.constantLong RX6 285 (10) ∈ ztb := (ztb_at 1193 (by decide +kernel) (by decide +kernel))
theorem nX6_287 : Cond.constantLong RX6 287 (8) ∈ ztb := (ztb_at 1194 (by decide +kernel) (by decide +kernel))
theorem nX6_289 : Cond.constantLong RX6 289 (-1) ∈ ztb := (ztb_at 1195 (by decide +kernel) (by decide +kernel))
theorem nX6_298 : Cond.constantLong RX6 298 (20) ∈ ztb := (ztb_at 1214 (by decide +kernel) (by decide +kernel))
theorem nX6_306 : Cond.constant RX6 306 (1103515245) ∈ ztb := (ztb_at 1243 (by decide +kernel) (by decide +kernel))
theorem nX6_313 : Cond.constantLong RX6 313 (13) ∈ ztb := (ztb_at 1271 (by decide +kernel) (by decide +kernel))
abbrev KJ0_charAt_5068e (l : Launch) (G : zG) (d : Nat) (As : List zV) (mem : zM) (post : Option zV → zM → Prop) : Prop := CT l G yJ0_charAt_5068e cJ0_charAt_5068e 2 (some .char) d As mem post
abbrev KJ0_checkIndex_df160 (l : Launch) (G : zG) (d : Nat) (As : List zV) (mem : zM) (post : Option zV → zM → Prop) : Prop := CT l G yJ0_checkIndex_df160 cJ0_checkIndex_df160 2 none d As mem post
abbrev KJ0_coder_7d493 (l : Launch) (G : zG) (d : Nat) (As : List zV) (mem : zM) (post : Option zV → zM → Prop) : Prop := CT l G yJ0_coder_7d493 cJ0_coder_7d493 1 (some .byte) d As mem post
abbrev KJ0_isLatin1_aae02 (l : Launch) (G : zG) (d : Nat) (As : List zV) (mem : zM) (post : Option zV → zM → Prop) : Prop := CT l G yJ0_isLatin1_aae02 cJ0_isLatin1_aae02 1 (some .boolean) d As mem post
abbrev KJ0_length_8abf5 (l : Launch) (G : zG) (d : Nat) (As : List zV) (mem : zM) (post : Option zV → zM → Prop) : Prop := CT l G yJ0_length_8abf5 cJ0_length_8abf5 1 (some .int) d As mem post
abbrev KJ1_charAt_3b067 (l : Launch) (G : zG) (d : Nat) (As : List zV) (mem : zM) (post : Option zV → zM → Prop) : Prop := CT l G yJ1_charAt_3b067 cJ1_charAt_3b067 2 (some .char) d As mem post
abbrev KJ2_charAt_3b067 (l : Launch) (G : zG) (d : Nat) (As : List zV) (mem : zM) (post : Option zV → zM → Prop) : Prop := CT l G yJ2_charAt_3b067 cJ2_charAt_3b067 2 (some .char) d As mem post
abbrev KJ2_checkIndex_2214a (l : Launch) (G : zG) (d : Nat) (As : List zV) (mem : zM) (post : Option zV → zM → Prop) : Prop := CT l G yJ2_checkIndex_2214a cJ2_checkIndex_2214a 2 none d As mem post
abbrev KJ2_getChar_3b067 (l : Launch) (G : zG) (d : Nat) (As : List zV) (mem : zM) (post : Option zV → zM → Prop) : Prop := CT l G yJ2_getChar_3b067 cJ2_getChar_3b067 2 (some .char) d As mem post
abbrev KJ2_length_9d52b (l : Launch) (G : zG) (d : Nat) (As : List zV) (mem : zM) (post : Option zV → zM → Prop) : Prop := CT l G yJ2_length_9d52b cJ2_length_9d52b 1 (some .int) d As mem post
abbrev KJ3_checkIndex_8e157 (l : Launch) (G : zG) (d : Nat) (As : List zV) (mem : zM) (post : Option zV → zM → Prop) : Prop := CT l G yJ3_checkIndex_8e157 cJ3_checkIndex_8e157 3 (some .int) d As mem post
abbrev KJ6_signum_0f7a4 (l : Launch) (G : zG) (d : Nat) (As : List zV) (mem : zM) (post : Option zV → zM → Prop) : Prop := CT l G yJ6_signum_0f7a4 cJ6_signum_0f7a4 1 (some .int) d As mem post
abbrev KJ7_fill_53178 (l : Launch) (G : zG) (d : Nat) (As : List zV) (mem : zM) (post : Option zV → zM → Prop) : Prop := CT l G yJ7_fill_53178 cJ7_fill_53178 4 none d As mem post
abbrev KJ9_abs_0f7a4 (l : Launch) (G : zG) (d : Nat) (As : List zV) (mem : zM) (post : Option zV → zM → Prop) : Prop := CT l G yJ9_abs_0f7a4 cJ9_abs_0f7a4 1 (some .int) d As mem post
abbrev KJ9_max_7cf53 (l : Launch) (G : zG) (d : Nat) (As : List zV) (mem : zM) (post : Option zV → zM → Prop) : Prop := CT l G yJ9_max_7cf53 cJ9_max_7cf53 2 (some .int) d As mem post
abbrev KJ9_max_f86c9 (l : Launch) (G : zG) (d : Nat) (As : List zV) (mem : zM) (post : Option zV → zM → Prop) : Prop := CT l G yJ9_max_f86c9 cJ9_max_f86c9 4 (some .long) d As mem post
abbrev KJ9_min_7cf53 (l : Launch) (G : zG) (d : Nat) (As : List zV) (mem : zM) (post : Option zV → zM → Prop) : Prop := CT l G yJ9_min_7cf53 cJ9_min_7cf53 2 (some .int) d As mem post
abbrev KX0_addIsle (l : Launch) (G : zG) (d : Nat) (As : List zV) (mem : zM) (post : Option zV → zM → Prop) : Prop := CT l G yX0_addIsle cX0_addIsle 3 none d As mem post
abbrev KX0_addRope (l : Launch) (G : zG) (d : Nat) (As : List zV) (mem : zM) (post : Option zV → zM → Prop) : Prop := CT l G yX0_addRope cX0_addRope 4 none d As mem post
abbrev KX0_become (l : Launch) (G : zG) (d : Nat) (As : List zV) (mem : zM) (post : Option zV → zM → Prop) : Prop := CT l G yX0_become cX0_become 2 none d As mem post
abbrev KX0_bumpsIn (l : Launch) (G : zG) (d : Nat) (As : List zV) (mem : zM) (post : Option zV → zM → Prop) : Prop := CT l G yX0_bumpsIn cX0_bumpsIn 3 (some .int) d As mem post
abbrev KX0_clear (l : Launch) (G : zG) (d : Nat) (As : List zV) (mem : zM) (post : Option zV → zM → Prop) : Prop := CT l G yX0_clear cX0_clear 1 none d As mem post
abbrev KX0_comeIn (l : Launch) (G : zG) (d : Nat) (As : List zV) (mem : zM) (post : Option zV → zM → Prop) : Prop := CT l G yX0_comeIn cX0_comeIn 5 none d As mem post
abbrev KX0_driftOf (l : Launch) (G : zG) (d : Nat) (As : List zV) (mem : zM) (post : Option zV → zM → Prop) : Prop := CT l G yX0_driftOf cX0_driftOf 5 (some .int) d As mem post
abbrev KX0_driftOff (l : Launch) (G : zG) (d : Nat) (As : List zV) (mem : zM) (post : Option zV → zM → Prop) : Prop := CT l G yX0_driftOff cX0_driftOff 6 none d As mem post
abbrev KX0_dropRope (l : Launch) (G : zG) (d : Nat) (As : List zV) (mem : zM) (post : Option zV → zM → Prop) : Prop := CT l G yX0_dropRope cX0_dropRope 3 none d As mem post
abbrev KX0_grudge (l : Launch) (G : zG) (d : Nat) (As : List zV) (mem : zM) (post : Option zV → zM → Prop) : Prop := CT l G yX0_grudge cX0_grudge 3 (some .int) d As mem post
abbrev KX0_grudgeOfAll (l : Launch) (G : zG) (d : Nat) (As : List zV) (mem : zM) (post : Option zV → zM → Prop) : Prop := CT l G yX0_grudgeOfAll cX0_grudgeOfAll 4 (some .int) d As mem post
abbrev KX0_init (l : Launch) (G : zG) (d : Nat) (As : List zV) (mem : zM) (post : Option zV → zM → Prop) : Prop := CT l G yX0_init cX0_init 1 none d As mem post
abbrev KX0_isHeld (l : Launch) (G : zG) (d : Nat) (As : List zV) (mem : zM) (post : Option zV → zM → Prop) : Prop := CT l G yX0_isHeld cX0_isHeld 6 (some .boolean) d As mem post
abbrev KX0_isTaken (l : Launch) (G : zG) (d : Nat) (As : List zV) (mem : zM) (post : Option zV → zM → Prop) : Prop := CT l G yX0_isTaken cX0_isTaken 4 (some .boolean) d As mem post
abbrev KX0_lengthOfAll (l : Launch) (G : zG) (d : Nat) (As : List zV) (mem : zM) (post : Option zV → zM → Prop) : Prop := CT l G yX0_lengthOfAll cX0_lengthOfAll 3 (some .int) d As mem post
abbrev KX0_movedFrom (l : Launch) (G : zG) (d : Nat) (As : List zV) (mem : zM) (post : Option zV → zM → Prop) : Prop := CT l G yX0_movedFrom cX0_movedFrom 4 (some .int) d As mem post
abbrev KX0_nearestTo (l : Launch) (G : zG) (d : Nat) (As : List zV) (mem : zM) (post : Option zV → zM → Prop) : Prop := CT l G yX0_nearestTo cX0_nearestTo 6 (some .int) d As mem post
abbrev KX0_passDay (l : Launch) (G : zG) (d : Nat) (As : List zV) (mem : zM) (post : Option zV → zM → Prop) : Prop := CT l G yX0_passDay cX0_passDay 3 none d As mem post
abbrev KX0_passDays (l : Launch) (G : zG) (d : Nat) (As : List zV) (mem : zM) (post : Option zV → zM → Prop) : Prop := CT l G yX0_passDays cX0_passDays 3 none d As mem post
abbrev KX0_ropesOf (l : Launch) (G : zG) (d : Nat) (As : List zV) (mem : zM) (post : Option zV → zM → Prop) : Prop := CT l G yX0_ropesOf cX0_ropesOf 4 (some .int) d As mem post
abbrev KX0_setGrudge (l : Launch) (G : zG) (d : Nat) (As : List zV) (mem : zM) (post : Option zV → zM → Prop) : Prop := CT l G yX0_setGrudge cX0_setGrudge 4 none d As mem post
abbrev KX0_spread (l : Launch) (G : zG) (d : Nat) (As : List zV) (mem : zM) (post : Option zV → zM → Prop) : Prop := CT l G yX0_spread cX0_spread 4 (some .int) d As mem post
abbrev KX0_spreadBehind (l : Launch) (G : zG) (d : Nat) (As : List zV) (mem : zM) (post : Option zV → zM → Prop) : Prop := CT l G yX0_spreadBehind cX0_spreadBehind 2 (some .int) d As mem post
abbrev KX1_init (l : Launch) (G : zG) (d : Nat) (As : List zV) (mem : zM) (post : Option zV → zM → Prop) : Prop := CT l G yX1_init cX1_init 1 none d As mem post
abbrev KX2_fail (l : Launch) (G : zG) (d : Nat) (As : List zV) (mem : zM) (post : Option zV → zM → Prop) : Prop := CT l G yX2_fail cX2_fail 2 (some .boolean) d As mem post
abbrev KX2_init (l : Launch) (G : zG) (d : Nat) (As : List zV) (mem : zM) (post : Option zV → zM → Prop) : Prop := CT l G yX2_init cX2_init 1 none d As mem post
abbrev KX2_isNamed (l : Launch) (G : zG) (d : Nat) (As : List zV) (mem : zM) (post : Option zV → zM → Prop) : Prop := CT l G yX2_isNamed cX2_isNamed 3 (some .boolean) d As mem post
abbrev KX2_lineNamed (l : Launch) (G : zG) (d : Nat) (As : List zV) (mem : zM) (post : Option zV → zM → Prop) : Prop := CT l G yX2_lineNamed cX2_lineNamed 1 (some .int) d As mem post
abbrev KX2_pass (l : Launch) (G : zG) (d : Nat) (As : List zV) (mem : zM) (post : Option zV → zM → Prop) : Prop := CT l G yX2_pass cX2_pass 4 (some .int) d As mem post
abbrev KX2_startOver (l : Launch) (G : zG) (d : Nat) (As : List zV) (mem : zM) (post : Option zV → zM → Prop) : Prop := CT l G yX2_startOver cX2_startOver 2 none d As mem post
abbrev KX2_takeFeast (l : Launch) (G : zG) (d : Nat) (As : List zV) (mem : zM) (post : Option zV → zM → Prop) : Prop := CT l G yX2_takeFeast cX2_takeFeast 1 (some .boolean) d As mem post
abbrev KX2_takeGrudge (l : Launch) (G : zG) (d : Nat) (As : List zV) (mem : zM) (post : Option zV → zM → Prop) : Prop := CT l G yX2_takeGrudge cX2_takeGrudge 1 (some .boolean) d As mem post
abbrev KX2_takeIsle (l : Launch) (G : zG) (d : Nat) (As : List zV) (mem : zM) (post : Option zV → zM → Prop) : Prop := CT l G yX2_takeIsle cX2_takeIsle 2 (some .boolean) d As mem post
abbrev KX2_takeLine (l : Launch) (G : zG) (d : Nat) (As : List zV) (mem : zM) (post : Option zV → zM → Prop) : Prop := CT l G yX2_takeLine cX2_takeLine 2 (some .boolean) d As mem post
abbrev KX2_takeNumber (l : Launch) (G : zG) (d : Nat) (As : List zV) (mem : zM) (post : Option zV → zM → Prop) : Prop := CT l G yX2_takeNumber cX2_takeNumber 3 (some .boolean) d As mem post
abbrev KX2_takePair (l : Launch) (G : zG) (d : Nat) (As : List zV) (mem : zM) (post : Option zV → zM → Prop) : Prop := CT l G yX2_takePair cX2_takePair 1 (some .boolean) d As mem post
abbrev KX2_takeRope (l : Launch) (G : zG) (d : Nat) (As : List zV) (mem : zM) (post : Option zV → zM → Prop) : Prop := CT l G yX2_takeRope cX2_takeRope 1 (some .boolean) d As mem post
abbrev KX2_takeStop (l : Launch) (G : zG) (d : Nat) (As : List zV) (mem : zM) (post : Option zV → zM → Prop) : Prop := CT l G yX2_takeStop cX2_takeStop 1 (some .boolean) d As mem post
abbrev KX2_takeText (l : Launch) (G : zG) (d : Nat) (As : List zV) (mem : zM) (post : Option zV → zM → Prop) : Prop := CT l G yX2_takeText cX2_takeText 2 (some .boolean) d As mem post
abbrev KX2_takeToken (l : Launch) (G : zG) (d : Nat) (As : List zV) (mem : zM) (post : Option zV → zM → Prop) : Prop := CT l G yX2_takeToken cX2_takeToken 2 (some .boolean) d As mem post
abbrev KX3_faultAt (l : Launch) (G : zG) (d : Nat) (As : List zV) (mem : zM) (post : Option zV → zM → Prop) : Prop := CT l G yX3_faultAt cX3_faultAt 3 (some .int) d As mem post
abbrev KX3_faultInThree (l : Launch) (G : zG) (d : Nat) (As : List zV) (mem : zM) (post : Option zV → zM → Prop) : Prop := CT l G yX3_faultInThree cX3_faultInThree 5 (some .int) d As mem post
abbrev KX3_init (l : Launch) (G : zG) (d : Nat) (As : List zV) (mem : zM) (post : Option zV → zM → Prop) : Prop := CT l G yX3_init cX3_init 1 none d As mem post
abbrev KX3_put (l : Launch) (G : zG) (d : Nat) (As : List zV) (mem : zM) (post : Option zV → zM → Prop) : Prop := CT l G yX3_put cX3_put 3 none d As mem post
abbrev KX3_renew (l : Launch) (G : zG) (d : Nat) (As : List zV) (mem : zM) (post : Option zV → zM → Prop) : Prop := CT l G yX3_renew cX3_renew 3 none d As mem post
abbrev KX4_add (l : Launch) (G : zG) (d : Nat) (As : List zV) (mem : zM) (post : Option zV → zM → Prop) : Prop := CT l G yX4_add cX4_add 4 none d As mem post
abbrev KX4_agreeBehind (l : Launch) (G : zG) (d : Nat) (As : List zV) (mem : zM) (post : Option zV → zM → Prop) : Prop := CT l G yX4_agreeBehind cX4_agreeBehind 4 (some .boolean) d As mem post
abbrev KX4_agreeWith (l : Launch) (G : zG) (d : Nat) (As : List zV) (mem : zM) (post : Option zV → zM → Prop) : Prop := CT l G yX4_agreeWith cX4_agreeWith 4 (some .boolean) d As mem post
abbrev KX4_become (l : Launch) (G : zG) (d : Nat) (As : List zV) (mem : zM) (post : Option zV → zM → Prop) : Prop := CT l G yX4_become cX4_become 2 none d As mem post
abbrev KX4_init (l : Launch) (G : zG) (d : Nat) (As : List zV) (mem : zM) (post : Option zV → zM → Prop) : Prop := CT l G yX4_init cX4_init 1 none d As mem post
abbrev KX5_advice (l : Launch) (G : zG) (d : Nat) (As : List zV) (mem : zM) (post : Option zV → zM → Prop) : Prop := CT l G yX5_advice cX5_advice 3 (some .int) d As mem post
abbrev KX5_ahead (l : Launch) (G : zG) (d : Nat) (As : List zV) (mem : zM) (post : Option zV → zM → Prop) : Prop := CT l G yX5_ahead cX5_ahead 4 (some .int) d As mem post
abbrev KX5_alter (l : Launch) (G : zG) (d : Nat) (As : List zV) (mem : zM) (post : Option zV → zM → Prop) : Prop := CT l G yX5_alter cX5_alter 5 (some .int) d As mem post
abbrev KX5_asItIs (l : Launch) (G : zG) (d : Nat) (As : List zV) (mem : zM) (post : Option zV → zM → Prop) : Prop := CT l G yX5_asItIs cX5_asItIs 1 (some (.object "TemperIsles$Firth")) d As mem post
abbrev KX5_ask (l : Launch) (G : zG) (d : Nat) (As : List zV) (mem : zM) (post : Option zV → zM → Prop) : Prop := CT l G yX5_ask cX5_ask 9 (some .int) d As mem post
abbrev KX5_back (l : Launch) (G : zG) (d : Nat) (As : List zV) (mem : zM) (post : Option zV → zM → Prop) : Prop := CT l G yX5_back cX5_back 2 (some .int) d As mem post
abbrev KX5_commonDivisor (l : Launch) (G : zG) (d : Nat) (As : List zV) (mem : zM) (post : Option zV → zM → Prop) : Prop := CT l G yX5_commonDivisor cX5_commonDivisor 11 (some .long) d As mem post
abbrev KX5_count (l : Launch) (G : zG) (d : Nat) (As : List zV) (mem : zM) (post : Option zV → zM → Prop) : Prop := CT l G yX5_count cX5_count 2 (some .int) d As mem post
abbrev KX5_cross (l : Launch) (G : zG) (d : Nat) (As : List zV) (mem : zM) (post : Option zV → zM → Prop) : Prop := CT l G yX5_cross cX5_cross 3 (some .int) d As mem post
abbrev KX5_days (l : Launch) (G : zG) (d : Nat) (As : List zV) (mem : zM) (post : Option zV → zM → Prop) : Prop := CT l G yX5_days cX5_days 3 (some .int) d As mem post
abbrev KX5_drift (l : Launch) (G : zG) (d : Nat) (As : List zV) (mem : zM) (post : Option zV → zM → Prop) : Prop := CT l G yX5_drift cX5_drift 10 (some .int) d As mem post
abbrev KX5_end (l : Launch) (G : zG) (d : Nat) (As : List zV) (mem : zM) (post : Option zV → zM → Prop) : Prop := CT l G yX5_end cX5_end 3 (some .int) d As mem post
abbrev KX5_far (l : Launch) (G : zG) (d : Nat) (As : List zV) (mem : zM) (post : Option zV → zM → Prop) : Prop := CT l G yX5_far cX5_far 3 (some .int) d As mem post
abbrev KX5_fault (l : Launch) (G : zG) (d : Nat) (As : List zV) (mem : zM) (post : Option zV → zM → Prop) : Prop := CT l G yX5_fault cX5_fault 1 (some .int) d As mem post
abbrev KX5_feast (l : Launch) (G : zG) (d : Nat) (As : List zV) (mem : zM) (post : Option zV → zM → Prop) : Prop := CT l G yX5_feast cX5_feast 3 (some .int) d As mem post
abbrev KX5_feed (l : Launch) (G : zG) (d : Nat) (As : List zV) (mem : zM) (post : Option zV → zM → Prop) : Prop := CT l G yX5_feed cX5_feed 2 (some .int) d As mem post
abbrev KX5_forget (l : Launch) (G : zG) (d : Nat) (As : List zV) (mem : zM) (post : Option zV → zM → Prop) : Prop := CT l G yX5_forget cX5_forget 3 (some .int) d As mem post
abbrev KX5_fractionPart (l : Launch) (G : zG) (d : Nat) (As : List zV) (mem : zM) (post : Option zV → zM → Prop) : Prop := CT l G yX5_fractionPart cX5_fractionPart 8 (some .long) d As mem post
abbrev KX5_fray (l : Launch) (G : zG) (d : Nat) (As : List zV) (mem : zM) (post : Option zV → zM → Prop) : Prop := CT l G yX5_fray cX5_fray 7 (some .int) d As mem post
abbrev KX5_haul (l : Launch) (G : zG) (d : Nat) (As : List zV) (mem : zM) (post : Option zV → zM → Prop) : Prop := CT l G yX5_haul cX5_haul 4 (some .int) d As mem post
abbrev KX5_holy (l : Launch) (G : zG) (d : Nat) (As : List zV) (mem : zM) (post : Option zV → zM → Prop) : Prop := CT l G yX5_holy cX5_holy 8 (some .int) d As mem post
abbrev KX5_init (l : Launch) (G : zG) (d : Nat) (As : List zV) (mem : zM) (post : Option zV → zM → Prop) : Prop := CT l G yX5_init cX5_init 1 none d As mem post
abbrev KX5_isGrudge (l : Launch) (G : zG) (d : Nat) (As : List zV) (mem : zM) (post : Option zV → zM → Prop) : Prop := CT l G yX5_isGrudge cX5_isGrudge 4 (some .boolean) d As mem post
abbrev KX5_isIsle (l : Launch) (G : zG) (d : Nat) (As : List zV) (mem : zM) (post : Option zV → zM → Prop) : Prop := CT l G yX5_isIsle cX5_isIsle 2 (some .boolean) d As mem post
abbrev KX5_isPair (l : Launch) (G : zG) (d : Nat) (As : List zV) (mem : zM) (post : Option zV → zM → Prop) : Prop := CT l G yX5_isPair cX5_isPair 3 (some .boolean) d As mem post
abbrev KX5_isRope (l : Launch) (G : zG) (d : Nat) (As : List zV) (mem : zM) (post : Option zV → zM → Prop) : Prop := CT l G yX5_isRope cX5_isRope 2 (some .boolean) d As mem post
abbrev KX5_isStorms (l : Launch) (G : zG) (d : Nat) (As : List zV) (mem : zM) (post : Option zV → zM → Prop) : Prop := CT l G yX5_isStorms cX5_isStorms 3 (some .boolean) d As mem post
abbrev KX5_isWithin (l : Launch) (G : zG) (d : Nat) (As : List zV) (mem : zM) (post : Option zV → zM → Prop) : Prop := CT l G yX5_isWithin cX5_isWithin 3 (some .boolean) d As mem post
abbrev KX5_isle (l : Launch) (G : zG) (d : Nat) (As : List zV) (mem : zM) (post : Option zV → zM → Prop) : Prop := CT l G yX5_isle cX5_isle 3 (some .int) d As mem post
abbrev KX5_keep (l : Launch) (G : zG) (d : Nat) (As : List zV) (mem : zM) (post : Option zV → zM → Prop) : Prop := CT l G yX5_keep cX5_keep 3 (some .int) d As mem post
abbrev KX5_kind (l : Launch) (G : zG) (d : Nat) (As : List zV) (mem : zM) (post : Option zV → zM → Prop) : Prop := CT l G yX5_kind cX5_kind 9 (some .int) d As mem post
abbrev KX5_kinds (l : Launch) (G : zG) (d : Nat) (As : List zV) (mem : zM) (post : Option zV → zM → Prop) : Prop := CT l G yX5_kinds cX5_kinds 2 (some .int) d As mem post
abbrev KX5_kindsAsSeen (l : Launch) (G : zG) (d : Nat) (As : List zV) (mem : zM) (post : Option zV → zM → Prop) : Prop := CT l G yX5_kindsAsSeen cX5_kindsAsSeen 5 (some .int) d As mem post
abbrev KX5_lay (l : Launch) (G : zG) (d : Nat) (As : List zV) (mem : zM) (post : Option zV → zM → Prop) : Prop := CT l G yX5_lay cX5_lay 6 (some .int) d As mem post
abbrev KX5_layCourses (l : Launch) (G : zG) (d : Nat) (As : List zV) (mem : zM) (post : Option zV → zM → Prop) : Prop := CT l G yX5_layCourses cX5_layCourses 8 (some .int) d As mem post
abbrev KX5_loose (l : Launch) (G : zG) (d : Nat) (As : List zV) (mem : zM) (post : Option zV → zM → Prop) : Prop := CT l G yX5_loose cX5_loose 3 (some .int) d As mem post
abbrev KX5_luck (l : Launch) (G : zG) (d : Nat) (As : List zV) (mem : zM) (post : Option zV → zM → Prop) : Prop := CT l G yX5_luck cX5_luck 5 (some .long) d As mem post
abbrev KX5_match (l : Launch) (G : zG) (d : Nat) (As : List zV) (mem : zM) (post : Option zV → zM → Prop) : Prop := CT l G yX5_match cX5_match 9 (some .int) d As mem post
abbrev KX5_mean (l : Launch) (G : zG) (d : Nat) (As : List zV) (mem : zM) (post : Option zV → zM → Prop) : Prop := CT l G yX5_mean cX5_mean 4 (some .long) d As mem post
abbrev KX5_mostLeft (l : Launch) (G : zG) (d : Nat) (As : List zV) (mem : zM) (post : Option zV → zM → Prop) : Prop := CT l G yX5_mostLeft cX5_mostLeft 8 (some .int) d As mem post
abbrev KX5_read (l : Launch) (G : zG) (d : Nat) (As : List zV) (mem : zM) (post : Option zV → zM → Prop) : Prop := CT l G yX5_read cX5_read 10 (some .int) d As mem post
abbrev KX5_rope (l : Launch) (G : zG) (d : Nat) (As : List zV) (mem : zM) (post : Option zV → zM → Prop) : Prop := CT l G yX5_rope cX5_rope 3 (some .int) d As mem post
abbrev KX5_rule (l : Launch) (G : zG) (d : Nat) (As : List zV) (mem : zM) (post : Option zV → zM → Prop) : Prop := CT l G yX5_rule cX5_rule 2 (some .int) d As mem post
abbrev KX5_runs (l : Launch) (G : zG) (d : Nat) (As : List zV) (mem : zM) (post : Option zV → zM → Prop) : Prop := CT l G yX5_runs cX5_runs 6 (some .int) d As mem post
abbrev KX5_see (l : Launch) (G : zG) (d : Nat) (As : List zV) (mem : zM) (post : Option zV → zM → Prop) : Prop := CT l G yX5_see cX5_see 4 (some .int) d As mem post
abbrev KX5_sheet (l : Launch) (G : zG) (d : Nat) (As : List zV) (mem : zM) (post : Option zV → zM → Prop) : Prop := CT l G yX5_sheet cX5_sheet 4 (some .int) d As mem post
abbrev KX5_slack (l : Launch) (G : zG) (d : Nat) (As : List zV) (mem : zM) (post : Option zV → zM → Prop) : Prop := CT l G yX5_slack cX5_slack 6 (some .int) d As mem post
abbrev KX5_soothe (l : Launch) (G : zG) (d : Nat) (As : List zV) (mem : zM) (post : Option zV → zM → Prop) : Prop := CT l G yX5_soothe cX5_soothe 8 (some .int) d As mem post
abbrev KX5_stormSum (l : Launch) (G : zG) (d : Nat) (As : List zV) (mem : zM) (post : Option zV → zM → Prop) : Prop := CT l G yX5_stormSum cX5_stormSum 8 (some .long) d As mem post
abbrev KX5_sulk (l : Launch) (G : zG) (d : Nat) (As : List zV) (mem : zM) (post : Option zV → zM → Prop) : Prop := CT l G yX5_sulk cX5_sulk 5 (some .int) d As mem post
abbrev KX5_sulks (l : Launch) (G : zG) (d : Nat) (As : List zV) (mem : zM) (post : Option zV → zM → Prop) : Prop := CT l G yX5_sulks cX5_sulks 6 (some .int) d As mem post
abbrev KX5_text (l : Launch) (G : zG) (d : Nat) (As : List zV) (mem : zM) (post : Option zV → zM → Prop) : Prop := CT l G yX5_text cX5_text 3 (some .int) d As mem post
abbrev KX5_torn (l : Launch) (G : zG) (d : Nat) (As : List zV) (mem : zM) (post : Option zV → zM → Prop) : Prop := CT l G yX5_torn cX5_torn 1 (some .int) d As mem post
abbrev KX5_wed (l : Launch) (G : zG) (d : Nat) (As : List zV) (mem : zM) (post : Option zV → zM → Prop) : Prop := CT l G yX5_wed cX5_wed 4 (some .int) d As mem post
abbrev KX5_within (l : Launch) (G : zG) (d : Nat) (As : List zV) (mem : zM) (post : Option zV → zM → Prop) : Prop := CT l G yX5_within cX5_within 4 (some .int) d As mem post
abbrev KX6_ahead (l : Launch) (G : zG) (d : Nat) (As : List zV) (mem : zM) (post : Option zV → zM → Prop) : Prop := CT l G yX6_ahead cX6_ahead 3 (some .int) d As mem post
abbrev KX6_alter (l : Launch) (G : zG) (d : Nat) (As : List zV) (mem : zM) (post : Option zV → zM → Prop) : Prop := CT l G yX6_alter cX6_alter 5 (some .int) d As mem post
abbrev KX6_apart (l : Launch) (G : zG) (d : Nat) (As : List zV) (mem : zM) (post : Option zV → zM → Prop) : Prop := CT l G yX6_apart cX6_apart 3 (some .int) d As mem post
abbrev KX6_areTwo (l : Launch) (G : zG) (d : Nat) (As : List zV) (mem : zM) (post : Option zV → zM → Prop) : Prop := CT l G yX6_areTwo cX6_areTwo 3 (some .boolean) d As mem post
abbrev KX6_ask (l : Launch) (G : zG) (d : Nat) (As : List zV) (mem : zM) (post : Option zV → zM → Prop) : Prop := CT l G yX6_ask cX6_ask 9 (some .int) d As mem post
abbrev KX6_back (l : Launch) (G : zG) (d : Nat) (As : List zV) (mem : zM) (post : Option zV → zM → Prop) : Prop := CT l G yX6_back cX6_back 2 (some .int) d As mem post
abbrev KX6_becomes (l : Launch) (G : zG) (d : Nat) (As : List zV) (mem : zM) (post : Option zV → zM → Prop) : Prop := CT l G yX6_becomes cX6_becomes 4 (some .int) d As mem post
abbrev KX6_bumpsSince (l : Launch) (G : zG) (d : Nat) (As : List zV) (mem : zM) (post : Option zV → zM → Prop) : Prop := CT l G yX6_bumpsSince cX6_bumpsSince 1 (some .int) d As mem post
abbrev KX6_byteAt (l : Launch) (G : zG) (d : Nat) (As : List zV) (mem : zM) (post : Option zV → zM → Prop) : Prop := CT l G yX6_byteAt cX6_byteAt 2 (some .int) d As mem post
abbrev KX6_common (l : Launch) (G : zG) (d : Nat) (As : List zV) (mem : zM) (post : Option zV → zM → Prop) : Prop := CT l G yX6_common cX6_common 10 (some .long) d As mem post
abbrev KX6_copies (l : Launch) (G : zG) (d : Nat) (As : List zV) (mem : zM) (post : Option zV → zM → Prop) : Prop := CT l G yX6_copies cX6_copies 4 none d As mem post
abbrev KX6_count (l : Launch) (G : zG) (d : Nat) (As : List zV) (mem : zM) (post : Option zV → zM → Prop) : Prop := CT l G yX6_count cX6_count 5 (some .int) d As mem post
abbrev KX6_cross (l : Launch) (G : zG) (d : Nat) (As : List zV) (mem : zM) (post : Option zV → zM → Prop) : Prop := CT l G yX6_cross cX6_cross 3 (some .int) d As mem post
abbrev KX6_dayGoes (l : Launch) (G : zG) (d : Nat) (As : List zV) (mem : zM) (post : Option zV → zM → Prop) : Prop := CT l G yX6_dayGoes cX6_dayGoes 4 none d As mem post
abbrev KX6_days (l : Launch) (G : zG) (d : Nat) (As : List zV) (mem : zM) (post : Option zV → zM → Prop) : Prop := CT l G yX6_days cX6_days 3 (some .int) d As mem post
abbrev KX6_daysGo (l : Launch) (G : zG) (d : Nat) (As : List zV) (mem : zM) (post : Option zV → zM → Prop) : Prop := CT l G yX6_daysGo cX6_daysGo 3 none d As mem post
abbrev KX6_drift (l : Launch) (G : zG) (d : Nat) (As : List zV) (mem : zM) (post : Option zV → zM → Prop) : Prop := CT l G yX6_drift cX6_drift 9 (some .int) d As mem post
abbrev KX6_driftOf (l : Launch) (G : zG) (d : Nat) (As : List zV) (mem : zM) (post : Option zV → zM → Prop) : Prop := CT l G yX6_driftOf cX6_driftOf 4 (some .int) d As mem post
abbrev KX6_drifts (l : Launch) (G : zG) (d : Nat) (As : List zV) (mem : zM) (post : Option zV → zM → Prop) : Prop := CT l G yX6_drifts cX6_drifts 7 none d As mem post
abbrev KX6_end (l : Launch) (G : zG) (d : Nat) (As : List zV) (mem : zM) (post : Option zV → zM → Prop) : Prop := CT l G yX6_end cX6_end 3 (some .int) d As mem post
abbrev KX6_endsIn (l : Launch) (G : zG) (d : Nat) (As : List zV) (mem : zM) (post : Option zV → zM → Prop) : Prop := CT l G yX6_endsIn cX6_endsIn 2 (some .boolean) d As mem post
abbrev KX6_far (l : Launch) (G : zG) (d : Nat) (As : List zV) (mem : zM) (post : Option zV → zM → Prop) : Prop := CT l G yX6_far cX6_far 3 (some .int) d As mem post
abbrev KX6_fault (l : Launch) (G : zG) (d : Nat) (As : List zV) (mem : zM) (post : Option zV → zM → Prop) : Prop := CT l G yX6_fault cX6_fault 1 (some .int) d As mem post
abbrev KX6_feast (l : Launch) (G : zG) (d : Nat) (As : List zV) (mem : zM) (post : Option zV → zM → Prop) : Prop := CT l G yX6_feast cX6_feast 2 (some .int) d As mem post
abbrev KX6_feasts (l : Launch) (G : zG) (d : Nat) (As : List zV) (mem : zM) (post : Option zV → zM → Prop) : Prop := CT l G yX6_feasts cX6_feasts 4 none d As mem post
abbrev KX6_feed (l : Launch) (G : zG) (d : Nat) (As : List zV) (mem : zM) (post : Option zV → zM → Prop) : Prop := CT l G yX6_feed cX6_feed 2 (some .int) d As mem post
abbrev KX6_findOdds (l : Launch) (G : zG) (d : Nat) (As : List zV) (mem : zM) (post : Option zV → zM → Prop) : Prop := CT l G yX6_findOdds cX6_findOdds 9 none d As mem post
abbrev KX6_firstDraft (l : Launch) (G : zG) (d : Nat) (As : List zV) (mem : zM) (post : Option zV → zM → Prop) : Prop := CT l G yX6_firstDraft cX6_firstDraft 2 none d As mem post
abbrev KX6_flag (l : Launch) (G : zG) (d : Nat) (As : List zV) (mem : zM) (post : Option zV → zM → Prop) : Prop := CT l G yX6_flag cX6_flag 1 (some .int) d As mem post
abbrev KX6_forget (l : Launch) (G : zG) (d : Nat) (As : List zV) (mem : zM) (post : Option zV → zM → Prop) : Prop := CT l G yX6_forget cX6_forget 2 (some .int) d As mem post
abbrev KX6_fray (l : Launch) (G : zG) (d : Nat) (As : List zV) (mem : zM) (post : Option zV → zM → Prop) : Prop := CT l G yX6_fray cX6_fray 3 (some .int) d As mem post
abbrev KX6_frays (l : Launch) (G : zG) (d : Nat) (As : List zV) (mem : zM) (post : Option zV → zM → Prop) : Prop := CT l G yX6_frays cX6_frays 3 none d As mem post
abbrev KX6_haul (l : Launch) (G : zG) (d : Nat) (As : List zV) (mem : zM) (post : Option zV → zM → Prop) : Prop := CT l G yX6_haul cX6_haul 3 (some .int) d As mem post
abbrev KX6_holy (l : Launch) (G : zG) (d : Nat) (As : List zV) (mem : zM) (post : Option zV → zM → Prop) : Prop := CT l G yX6_holy cX6_holy 4 (some .int) d As mem post
abbrev KX6_in (l : Launch) (G : zG) (d : Nat) (As : List zV) (mem : zM) (post : Option zV → zM → Prop) : Prop := CT l G yX6_in cX6_in 6 (some .boolean) d As mem post
abbrev KX6_init (l : Launch) (G : zG) (d : Nat) (As : List zV) (mem : zM) (post : Option zV → zM → Prop) : Prop := CT l G yX6_init cX6_init 2 none d As mem post
abbrev KX6_is (l : Launch) (G : zG) (d : Nat) (As : List zV) (mem : zM) (post : Option zV → zM → Prop) : Prop := CT l G yX6_is cX6_is 6 (some .boolean) d As mem post
abbrev KX6_isFar (l : Launch) (G : zG) (d : Nat) (As : List zV) (mem : zM) (post : Option zV → zM → Prop) : Prop := CT l G yX6_isFar cX6_isFar 1 (some .boolean) d As mem post
abbrev KX6_isFathom (l : Launch) (G : zG) (d : Nat) (As : List zV) (mem : zM) (post : Option zV → zM → Prop) : Prop := CT l G yX6_isFathom cX6_isFathom 1 (some .boolean) d As mem post
abbrev KX6_isHeld (l : Launch) (G : zG) (d : Nat) (As : List zV) (mem : zM) (post : Option zV → zM → Prop) : Prop := CT l G yX6_isHeld cX6_isHeld 8 (some .boolean) d As mem post
abbrev KX6_isIsle (l : Launch) (G : zG) (d : Nat) (As : List zV) (mem : zM) (post : Option zV → zM → Prop) : Prop := CT l G yX6_isIsle cX6_isIsle 2 (some .boolean) d As mem post
abbrev KX6_isPart (l : Launch) (G : zG) (d : Nat) (As : List zV) (mem : zM) (post : Option zV → zM → Prop) : Prop := CT l G yX6_isPart cX6_isPart 1 (some .boolean) d As mem post
abbrev KX6_isRope (l : Launch) (G : zG) (d : Nat) (As : List zV) (mem : zM) (post : Option zV → zM → Prop) : Prop := CT l G yX6_isRope cX6_isRope 2 (some .boolean) d As mem post
abbrev KX6_isSheet (l : Launch) (G : zG) (d : Nat) (As : List zV) (mem : zM) (post : Option zV → zM → Prop) : Prop := CT l G yX6_isSheet cX6_isSheet 2 (some .boolean) d As mem post
abbrev KX6_isSoWith (l : Launch) (G : zG) (d : Nat) (As : List zV) (mem : zM) (post : Option zV → zM → Prop) : Prop := CT l G yX6_isSoWith cX6_isSoWith 6 (some .boolean) d As mem post
abbrev KX6_isTaken (l : Launch) (G : zG) (d : Nat) (As : List zV) (mem : zM) (post : Option zV → zM → Prop) : Prop := CT l G yX6_isTaken cX6_isTaken 4 (some .boolean) d As mem post
abbrev KX6_isle (l : Launch) (G : zG) (d : Nat) (As : List zV) (mem : zM) (post : Option zV → zM → Prop) : Prop := CT l G yX6_isle cX6_isle 3 (some .int) d As mem post
abbrev KX6_judged (l : Launch) (G : zG) (d : Nat) (As : List zV) (mem : zM) (post : Option zV → zM → Prop) : Prop := CT l G yX6_judged cX6_judged 2 (some .int) d As mem post
abbrev KX6_judges (l : Launch) (G : zG) (d : Nat) (As : List zV) (mem : zM) (post : Option zV → zM → Prop) : Prop := CT l G yX6_judges cX6_judges 3 none d As mem post
abbrev KX6_keep (l : Launch) (G : zG) (d : Nat) (As : List zV) (mem : zM) (post : Option zV → zM → Prop) : Prop := CT l G yX6_keep cX6_keep 3 (some .int) d As mem post
abbrev KX6_keepDraft (l : Launch) (G : zG) (d : Nat) (As : List zV) (mem : zM) (post : Option zV → zM → Prop) : Prop := CT l G yX6_keepDraft cX6_keepDraft 2 none d As mem post
abbrev KX6_kind (l : Launch) (G : zG) (d : Nat) (As : List zV) (mem : zM) (post : Option zV → zM → Prop) : Prop := CT l G yX6_kind cX6_kind 5 (some .int) d As mem post
abbrev KX6_kinds (l : Launch) (G : zG) (d : Nat) (As : List zV) (mem : zM) (post : Option zV → zM → Prop) : Prop := CT l G yX6_kinds cX6_kinds 2 (some .int) d As mem post
abbrev KX6_lay (l : Launch) (G : zG) (d : Nat) (As : List zV) (mem : zM) (post : Option zV → zM → Prop) : Prop := CT l G yX6_lay cX6_lay 4 (some .int) d As mem post
abbrev KX6_lesser (l : Launch) (G : zG) (d : Nat) (As : List zV) (mem : zM) (post : Option zV → zM → Prop) : Prop := CT l G yX6_lesser cX6_lesser 2 (some .int) d As mem post
abbrev KX6_lineNow (l : Launch) (G : zG) (d : Nat) (As : List zV) (mem : zM) (post : Option zV → zM → Prop) : Prop := CT l G yX6_lineNow cX6_lineNow 1 (some .int) d As mem post
abbrev KX6_looked (l : Launch) (G : zG) (d : Nat) (As : List zV) (mem : zM) (post : Option zV → zM → Prop) : Prop := CT l G yX6_looked cX6_looked 3 (some .int) d As mem post
abbrev KX6_loose (l : Launch) (G : zG) (d : Nat) (As : List zV) (mem : zM) (post : Option zV → zM → Prop) : Prop := CT l G yX6_loose cX6_loose 2 (some .int) d As mem post
abbrev KX6_luck (l : Launch) (G : zG) (d : Nat) (As : List zV) (mem : zM) (post : Option zV → zM → Prop) : Prop := CT l G yX6_luck cX6_luck 5 (some .long) d As mem post
abbrev KX6_match (l : Launch) (G : zG) (d : Nat) (As : List zV) (mem : zM) (post : Option zV → zM → Prop) : Prop := CT l G yX6_match cX6_match 5 (some .int) d As mem post
abbrev KX6_mean (l : Launch) (G : zG) (d : Nat) (As : List zV) (mem : zM) (post : Option zV → zM → Prop) : Prop := CT l G yX6_mean cX6_mean 4 (some .long) d As mem post
abbrev KX6_nearest (l : Launch) (G : zG) (d : Nat) (As : List zV) (mem : zM) (post : Option zV → zM → Prop) : Prop := CT l G yX6_nearest cX6_nearest 4 (some .int) d As mem post
abbrev KX6_needs (l : Launch) (G : zG) (d : Nat) (As : List zV) (mem : zM) (post : Option zV → zM → Prop) : Prop := CT l G yX6_needs cX6_needs 3 none d As mem post
abbrev KX6_noteHighest (l : Launch) (G : zG) (d : Nat) (As : List zV) (mem : zM) (post : Option zV → zM → Prop) : Prop := CT l G yX6_noteHighest cX6_noteHighest 2 none d As mem post
abbrev KX6_place (l : Launch) (G : zG) (d : Nat) (As : List zV) (mem : zM) (post : Option zV → zM → Prop) : Prop := CT l G yX6_place cX6_place 2 (some .int) d As mem post
abbrev KX6_read (l : Launch) (G : zG) (d : Nat) (As : List zV) (mem : zM) (post : Option zV → zM → Prop) : Prop := CT l G yX6_read cX6_read 11 (some .int) d As mem post
abbrev KX6_readCross (l : Launch) (G : zG) (d : Nat) (As : List zV) (mem : zM) (post : Option zV → zM → Prop) : Prop := CT l G yX6_readCross cX6_readCross 3 none d As mem post
abbrev KX6_readIsle (l : Launch) (G : zG) (d : Nat) (As : List zV) (mem : zM) (post : Option zV → zM → Prop) : Prop := CT l G yX6_readIsle cX6_readIsle 4 none d As mem post
abbrev KX6_readLine (l : Launch) (G : zG) (d : Nat) (As : List zV) (mem : zM) (post : Option zV → zM → Prop) : Prop := CT l G yX6_readLine cX6_readLine 2 none d As mem post
abbrev KX6_readLineOf (l : Launch) (G : zG) (d : Nat) (As : List zV) (mem : zM) (post : Option zV → zM → Prop) : Prop := CT l G yX6_readLineOf cX6_readLineOf 2 none d As mem post
abbrev KX6_readNumber (l : Launch) (G : zG) (d : Nat) (As : List zV) (mem : zM) (post : Option zV → zM → Prop) : Prop := CT l G yX6_readNumber cX6_readNumber 4 (some .int) d As mem post
abbrev KX6_readRope (l : Launch) (G : zG) (d : Nat) (As : List zV) (mem : zM) (post : Option zV → zM → Prop) : Prop := CT l G yX6_readRope cX6_readRope 4 none d As mem post
abbrev KX6_rope (l : Launch) (G : zG) (d : Nat) (As : List zV) (mem : zM) (post : Option zV → zM → Prop) : Prop := CT l G yX6_rope cX6_rope 3 (some .int) d As mem post
abbrev KX6_ropesOf (l : Launch) (G : zG) (d : Nat) (As : List zV) (mem : zM) (post : Option zV → zM → Prop) : Prop := CT l G yX6_ropesOf cX6_ropesOf 5 (some .int) d As mem post
abbrev KX6_rule (l : Launch) (G : zG) (d : Nat) (As : List zV) (mem : zM) (post : Option zV → zM → Prop) : Prop := CT l G yX6_rule cX6_rule 2 (some .int) d As mem post
abbrev KX6_runs (l : Launch) (G : zG) (d : Nat) (As : List zV) (mem : zM) (post : Option zV → zM → Prop) : Prop := CT l G yX6_runs cX6_runs 6 (some .int) d As mem post
abbrev KX6_see (l : Launch) (G : zG) (d : Nat) (As : List zV) (mem : zM) (post : Option zV → zM → Prop) : Prop := CT l G yX6_see cX6_see 5 (some .int) d As mem post
abbrev KX6_settles (l : Launch) (G : zG) (d : Nat) (As : List zV) (mem : zM) (post : Option zV → zM → Prop) : Prop := CT l G yX6_settles cX6_settles 2 none d As mem post
abbrev KX6_sheet (l : Launch) (G : zG) (d : Nat) (As : List zV) (mem : zM) (post : Option zV → zM → Prop) : Prop := CT l G yX6_sheet cX6_sheet 5 (some .int) d As mem post
abbrev KX6_sizeOf (l : Launch) (G : zG) (d : Nat) (As : List zV) (mem : zM) (post : Option zV → zM → Prop) : Prop := CT l G yX6_sizeOf cX6_sizeOf 1 (some .int) d As mem post
abbrev KX6_slack (l : Launch) (G : zG) (d : Nat) (As : List zV) (mem : zM) (post : Option zV → zM → Prop) : Prop := CT l G yX6_slack cX6_slack 5 (some .int) d As mem post
abbrev KX6_soothe (l : Launch) (G : zG) (d : Nat) (As : List zV) (mem : zM) (post : Option zV → zM → Prop) : Prop := CT l G yX6_soothe cX6_soothe 4 (some .int) d As mem post
abbrev KX6_spread (l : Launch) (G : zG) (d : Nat) (As : List zV) (mem : zM) (post : Option zV → zM → Prop) : Prop := CT l G yX6_spread cX6_spread 4 (some .int) d As mem post
abbrev KX6_spreadBehind (l : Launch) (G : zG) (d : Nat) (As : List zV) (mem : zM) (post : Option zV → zM → Prop) : Prop := CT l G yX6_spreadBehind cX6_spreadBehind 2 (some .int) d As mem post
abbrev KX6_starts (l : Launch) (G : zG) (d : Nat) (As : List zV) (mem : zM) (post : Option zV → zM → Prop) : Prop := CT l G yX6_starts cX6_starts 2 none d As mem post
abbrev KX6_startsJudging (l : Launch) (G : zG) (d : Nat) (As : List zV) (mem : zM) (post : Option zV → zM → Prop) : Prop := CT l G yX6_startsJudging cX6_startsJudging 2 none d As mem post
abbrev KX6_sulk (l : Launch) (G : zG) (d : Nat) (As : List zV) (mem : zM) (post : Option zV → zM → Prop) : Prop := CT l G yX6_sulk cX6_sulk 4 (some .int) d As mem post
abbrev KX6_sulkOf (l : Launch) (G : zG) (d : Nat) (As : List zV) (mem : zM) (post : Option zV → zM → Prop) : Prop := CT l G yX6_sulkOf cX6_sulkOf 5 (some .int) d As mem post
abbrev KX6_sulks (l : Launch) (G : zG) (d : Nat) (As : List zV) (mem : zM) (post : Option zV → zM → Prop) : Prop := CT l G yX6_sulks cX6_sulks 3 (some .int) d As mem post
abbrev KX6_takes (l : Launch) (G : zG) (d : Nat) (As : List zV) (mem : zM) (post : Option zV → zM → Prop) : Prop := CT l G yX6_takes cX6_takes 2 none d As mem post
abbrev KX6_text (l : Launch) (G : zG) (d : Nat) (As : List zV) (mem : zM) (post : Option zV → zM → Prop) : Prop := CT l G yX6_text cX6_text 2 (some .int) d As mem post
abbrev KX6_ties (l : Launch) (G : zG) (d : Nat) (As : List zV) (mem : zM) (post : Option zV → zM → Prop) : Prop := CT l G yX6_ties cX6_ties 5 none d As mem post
abbrev KX6_told (l : Launch) (G : zG) (d : Nat) (As : List zV) (mem : zM) (post : Option zV → zM → Prop) : Prop := CT l G yX6_told cX6_told 7 (some .long) d As mem post
abbrev KX6_torn (l : Launch) (G : zG) (d : Nat) (As : List zV) (mem : zM) (post : Option zV → zM → Prop) : Prop := CT l G yX6_torn cX6_torn 1 (some .int) d As mem post
abbrev KX6_wed (l : Launch) (G : zG) (d : Nat) (As : List zV) (mem : zM) (post : Option zV → zM → Prop) : Prop := CT l G yX6_wed cX6_wed 4 (some .int) d As mem post
abbrev KX6_which (l : Launch) (G : zG) (d : Nat) (As : List zV) (mem : zM) (post : Option zV → zM → Prop) : Prop := CT l G yX6_which cX6_which 5 (some .int) d As mem post
abbrev KX6_within (l : Launch) (G : zG) (d : Nat) (As : List zV) (mem : zM) (post : Option zV → zM → Prop) : Prop := CT l G yX6_within cX6_within 3 (some .int) d As mem post
end
section
/-! ===== the JDK's small methods ===== -/
theorem CT.of' {l : Launch} {G : zG} {y : MethodName} {own : String} {cc : ByteArray} {nL : Nat} {ret : Option FieldType} {d : Nat} {As ls0 : List zV} {mem : zM} {post : Option zV → zM → Prop} (how : y.cls = own) (hy : plainName y.cls = true) (hn : (zent As).length ≤ nL) (he : zent0 As nL = ls0) (h : SW l G (zrm d) own cc nL ret (zZ G post) 0 0 (fun _ => True) 0 ls0 [] mem) : CT l G y cc nL ret d As mem post := by
  subst how
  subst he
  exact CT.of hy hn h
theorem zP1.ofI {x y : Int} {m : zM} (h : x = y) : zP1 (zI y) m (some (zI x)) m := by rw [h]; exact zP1.i
def zabs (x : Int) : Int := if 0 ≤ x then x else zw (-x)
def zsg (x : Int) : Int := if x < 0 then -1 else if x = 0 then 0 else 1
theorem zsg_or {x : Int} (h : zin32 x) : zor (zshr x 31) (zushr (zw (-x)) 31) = zsg x := by
  have e1 : (Int32.ofInt x >>> (Int32.ofInt 31 &&& 31)).toInt = x >>> 31 := by
    rw [pk_shr (Int32.ofInt x) (Int32.ofInt 31 &&& 31) 31 (by decide), zo_toInt, zw_of h]
  have e1' : zshr x 31 = if x < 0 then -1 else 0 := by
    unfold zshr
    rw [e1, Int.shiftRight_eq_div_pow]
    obtain ⟨h1, h2⟩ := h
    split <;> omega
  have e2 : zushr (zw (-x)) 31 = if 0 < x ∨ x = -2147483648 then 1 else 0 := by
    unfold zushr
    have a1 : (Int32.ofInt (zw (-x))).toInt = zw (-x) := by rw [zo_toInt, zw_of (zw_in _)]
    generalize Int32.ofInt (zw (-x)) = w at a1 ⊢
    have q := pk_ushr w (Int32.ofInt 31) 31 (by decide)
    generalize hz : (w.toUInt32 >>> ((Int32.ofInt 31).toUInt32 &&& Int32.toUInt32 31)).toInt32 = z at q ⊢
    have a3 := w.toBitVec.isLt
    have a2 : w.toBitVec.toInt = zw (-x) := a1
    rw [BitVec.toInt_eq_toNat_cond] at a2
    unfold zw at a2
    obtain ⟨h1, h2⟩ := h
    have hn : (w.toBitVec.toNat : Int) = (-x) % 4294967296 := by
      split at a2 <;> omega
    have hz2 : (z.toBitVec.toNat : Int) = if 0 < x ∨ x = -2147483648 then 1 else 0 := by
      split <;> omega
    have a4 : z.toInt = z.toBitVec.toInt := rfl
    rw [a4, BitVec.toInt_eq_toNat_cond]
    split at hz2 <;> split <;> omega
  rw [e1', e2]
  unfold zsg
  obtain ⟨h1, h2⟩ := h
  by_cases a : x < 0
  · by_cases b : x = -2147483648
    · simp only [a, b, if_true, or_true]; rfl
    · have : ¬ (0 < x ∨ x = -2147483648) := by omega
      simp only [a, this, if_true, if_false]; rfl
  · by_cases b : x = 0
    · have : ¬ (0 < x ∨ x = -2147483648) := by omega
      simp only [a, b, this, if_true, if_false]; rfl
    · have : (0 < x ∨ x = -2147483648) := by omega
      simp only [a, b, this, if_true, if_false]; rfl
def zcp (f g : Int → Int) (sp dp n : Int) : Int → Int := fun j => if dp ≤ j ∧ j < dp + n then f (sp + (j - dp)) else g j
theorem zcp_eq {f g : Int → Int} {sp dp n : Int} (h1 : 0 ≤ sp) (h2 : 0 ≤ dp) (h3 : 0 ≤ n) (i1 : zin32 sp) (i2 : zin32 dp) (i3 : zin32 n) : va_cpy (fun k : Nat => Int32.ofInt (f k)) (fun k : Nat => Int32.ofInt (g k)) (Int32.ofInt sp).toNatClampNeg (Int32.ofInt dp).toNatClampNeg (Int32.ofInt n).toNatClampNeg = fun k : Nat => Int32.ofInt (zcp f g sp dp n k) := by
  rw [zo_clamp h1 i1.2, zo_clamp h2 i2.2, zo_clamp h3 i3.2]
  funext k
  unfold va_cpy zcp
  by_cases h : dp ≤ (k : Int) ∧ (k : Int) < dp + n
  · rw [if_pos h, if_pos (by omega)]
    have : ((sp.toNat + (k - dp.toNat) : Nat) : Int) = sp + ((k : Int) - dp) := by omega
    show Int32.ofInt (f ((sp.toNat + (k - dp.toNat) : Nat) : Int)) = _
    rw [this]
  · rw [if_neg h, if_neg (by omega)]
theorem zokM.row {mem : zM} {o : Nat} {r : Int → Int} (h : zokM mem) (hn : ∀ k, ¬ zlong o k) (hr : ∀ k, zin32 (r k)) : zokM (zr mem o r) := by
  intro o' k
  by_cases ho : o' = o
  · subst ho
    rw [zr_s]
    exact ⟨fun q => absurd q (hn k), fun _ => hr k⟩
  · rw [zr_n ho]
    exact h o' k
section
variable {l : Launch} {G : zG} {R : Room} {own : String} {cc : ByteArray} {nL : Nat} {ret : Option FieldType} {Z : List Frame → Array Value → State → State → Prop} {kc ks : Nat} {Ex : State → Prop} {pc index : Nat} {ls st : List zV} {mem : zM}
theorem r_mmax {x y : Int} (hk : zCs own index Lib.Math.max.name Lib.Math.max.code 2 (some .int) 2) (hd : decode cc pc = .ok (.invokestatic index, 3)) (kk : SW l G R own cc nL ret Z kc ks Ex (pc + 3) ls (zI (max x y) :: st) mem) (hR : 1 ≤ R.frames ∧ 8 + 13 ≤ R.locals := by exact ⟨Nat.le_of_ble_eq_true rfl, Nat.le_of_ble_eq_true rfl⟩) (hw : zwd st ≤ 8 := by exact Nat.le_of_ble_eq_true rfl) : SW l G R own cc nL ret Z kc ks Ex pc ls (zI y :: zI x :: st) mem := by
  intro p e s m args below meth c H locs lsA C hE hX hK hI hP hS hL ol os om
  obtain ⟨⟨y1, y2, -, -, y5⟩, y6⟩ := hk
  have hm : zok (zI (max x y)) := by rcases (show max x y = x ∨ max x y = y by omega) with h | h <;> rw [h]; exact os.tl.hd; exact os.hd
  have k9 := kk p e s m args below meth c H locs lsA C hE hX hK hI hP hS hL ol (os.tl.tl.co hm) om
  refine va_mmax C.1 C.2.1 (by rw [C.2.2.1, hL.2.1]) C.2.2.2.1 (C.2.2.2.2.1 _ y6) (C.2.2.2.2.1 _ y5) (C.2.2.2.2.1 _ y2) (C.2.2.2.2.1 _ y1) hR.1 (by rw [zwd_eq]; omega) C.2.2.2.2.2.2.2.1 C.2.2.2.2.2.2.2.2 hd ?_
  have e9 : (if Int32.ofInt x < Int32.ofInt y then Int32.ofInt y else Int32.ofInt x) = Int32.ofInt (max x y) := by
    by_cases h : x < y
    · rw [if_pos ((zo_lt os.tl.hd os.hd).mpr h), show max x y = y by omega]
    · rw [if_neg (fun q => h ((zo_lt os.tl.hd os.hd).mp q)), show max x y = x by omega]
  rw [e9]
  exact k9
theorem r_mmin {x y : Int} (hk : zCs own index Lib.Math.min.name Lib.Math.min.code 2 (some .int) 2) (hd : decode cc pc = .ok (.invokestatic index, 3)) (kk : SW l G R own cc nL ret Z kc ks Ex (pc + 3) ls (zI (min x y) :: st) mem) (hR : 1 ≤ R.frames ∧ 8 + 13 ≤ R.locals := by exact ⟨Nat.le_of_ble_eq_true rfl, Nat.le_of_ble_eq_true rfl⟩) (hw : zwd st ≤ 8 := by exact Nat.le_of_ble_eq_true rfl) : SW l G R own cc nL ret Z kc ks Ex pc ls (zI y :: zI x :: st) mem := by
  intro p e s m args below meth c H locs lsA C hE hX hK hI hP hS hL ol os om
  obtain ⟨⟨y1, y2, -, -, y5⟩, y6⟩ := hk
  have hm : zok (zI (min x y)) := by rcases (show min x y = x ∨ min x y = y by omega) with h | h <;> rw [h]; exact os.tl.hd; exact os.hd
  have k9 := kk p e s m args below meth c H locs lsA C hE hX hK hI hP hS hL ol (os.tl.tl.co hm) om
  refine va_mmin C.1 C.2.1 (by rw [C.2.2.1, hL.2.1]) C.2.2.2.1 (C.2.2.2.2.1 _ y6) (C.2.2.2.2.1 _ y5) (C.2.2.2.2.1 _ y2) (C.2.2.2.2.1 _ y1) hR.1 (by rw [zwd_eq]; omega) C.2.2.2.2.2.2.2.1 C.2.2.2.2.2.2.2.2 hd ?_
  have e9 : (if Int32.ofInt y < Int32.ofInt x then Int32.ofInt y else Int32.ofInt x) = Int32.ofInt (min x y) := by
    by_cases h : y < x
    · rw [if_pos ((zo_lt os.hd os.tl.hd).mpr h), show min x y = y by omega]
    · rw [if_neg (fun q => h ((zo_lt os.hd os.tl.hd).mp q)), show min x y = x by omega]
  rw [e9]
  exact k9
theorem r_mmaxL {x y : Int} (hk : zCs own index Lib.MathLoose.max_long.x Lib.MathLoose.max_long.code 4 (some .long) 2) (hd : decode cc pc = .ok (.invokestatic index, 3)) (kk : SW l G R own cc nL ret Z kc ks Ex (pc + 3) ls (zJ (max x y) :: st) mem) (hR : 1 ≤ R.frames ∧ 8 + 15 ≤ R.locals := by exact ⟨Nat.le_of_ble_eq_true rfl, Nat.le_of_ble_eq_true rfl⟩) (hw : zwd st ≤ 8 := by exact Nat.le_of_ble_eq_true rfl) : SW l G R own cc nL ret Z kc ks Ex pc ls (zJ y :: zJ x :: st) mem := by
  intro p e s m args below meth c H locs lsA C hE hX hK hI hP hS hL ol os om
  obtain ⟨⟨y1, y2, -, -, y5⟩, y6⟩ := hk
  have hm : zok (zJ (max x y)) := by rcases (show max x y = x ∨ max x y = y by omega) with h | h <;> rw [h]; exact os.tl.hd; exact os.hd
  have k9 := kk p e s m args below meth c H locs lsA C hE hX hK hI hP hS hL ol (os.tl.tl.co hm) om
  refine va_mmax_long C.1 C.2.1 (by rw [C.2.2.1, hL.2.1]) C.2.2.2.1 (C.2.2.2.2.1 _ y6) (C.2.2.2.2.1 _ y5) (C.2.2.2.2.1 _ y2) (C.2.2.2.2.1 _ y1) hR.1 (by rw [zwd_eq]; omega) C.2.2.2.2.2.2.2.1 C.2.2.2.2.2.2.2.2 hd ?_
  have e9 : (if Int64.ofInt y < Int64.ofInt x then Int64.ofInt x else Int64.ofInt y) = Int64.ofInt (max x y) := by
    by_cases h : y < x
    · rw [if_pos ((zo64_lt os.hd os.tl.hd).mpr h), show max x y = x by omega]
    · rw [if_neg (fun q => h ((zo64_lt os.hd os.tl.hd).mp q)), show max x y = y by omega]
  rw [e9]
  exact k9
theorem r_mabs {x : Int} (hk : zCs own index Lib.Math.abs.name Lib.Math.abs.code 1 (some .int) 1) (hd : decode cc pc = .ok (.invokestatic index, 3)) (kk : SW l G R own cc nL ret Z kc ks Ex (pc + 3) ls (zI (zabs x) :: st) mem) (hR : 1 ≤ R.frames ∧ 8 + 13 ≤ R.locals := by exact ⟨Nat.le_of_ble_eq_true rfl, Nat.le_of_ble_eq_true rfl⟩) (hw : zwd st ≤ 8 := by exact Nat.le_of_ble_eq_true rfl) : SW l G R own cc nL ret Z kc ks Ex pc ls (zI x :: st) mem := by
  intro p e s m args below meth c H locs lsA C hE hX hK hI hP hS hL ol os om
  obtain ⟨⟨y1, y2, -, -, y5⟩, y6⟩ := hk
  have hm : zok (zI (zabs x)) := by
    show zin32 (zabs x)
    unfold zabs
    split
    · exact os.hd
    · exact zw_in _
  have k9 := kk p e s m args below meth c H locs lsA C hE hX hK hI hP hS hL ol (os.tl.co hm) om
  refine va_mabs C.1 C.2.1 (by rw [C.2.2.1, hL.2.1]) C.2.2.2.1 (C.2.2.2.2.1 _ y6) (C.2.2.2.2.1 _ y5) (C.2.2.2.2.1 _ y2) (C.2.2.2.2.1 _ y1) hR.1 (by rw [zwd_eq]; omega) C.2.2.2.2.2.2.2.1 C.2.2.2.2.2.2.2.2 hd ?_
  have e9 : (if 0 ≤ Int32.ofInt x then Int32.ofInt x else 0 - Int32.ofInt x) = Int32.ofInt (zabs x) := by
    unfold zabs
    have h00 : (0 : Int32) = Int32.ofInt 0 := rfl
    rw [h00]
    by_cases h : 0 ≤ x
    · rw [if_pos ((zo_le zin_0 os.hd).mpr h), if_pos h]
    · rw [if_neg (fun q => h ((zo_le zin_0 os.hd).mp q)), if_neg h]
      have := zo_sub 0 x
      rw [Int.zero_sub] at this
      exact this
  rw [e9]
  exact k9
/-- System.arraycopy between two int[]s -/
theorem r_copy {o1 o2 n1 n2 : Nat} {sp dp n : Int} (hl9 : Cond.methodLink own index arraycopyName ∈ ztb) (hL1 : zL o1 = (10, n1)) (hL2 : zL o2 = (10, n2)) (h1 : 0 ≤ sp) (h2 : 0 ≤ dp) (h3 : 0 ≤ n) (h4 : sp + n ≤ n1) (h5 : dp + n ≤ n2) (hd : decode cc pc = .ok (.invokestatic index, 3)) (kk : SW l G R own cc nL ret Z kc ks Ex (pc + 3) ls st (zr mem o2 (zcp (mem o1) (mem o2) sp dp n))) (hR : 1 ≤ R.frames ∧ 8 + (nativeFrameWords "java/lang/System" "arraycopy" 5 + 11) ≤ R.locals := by exact ⟨Nat.le_of_ble_eq_true rfl, Nat.le_of_ble_eq_true rfl⟩) (hw : zwd st ≤ 8 := by exact Nat.le_of_ble_eq_true rfl) : SW l G R own cc nL ret Z kc ks Ex pc ls (zI n :: zI dp :: zR o2 :: zI sp :: zR o1 :: st) mem := by
  intro p e s m args below meth c H locs lsA C hE hX hK hI hP hS hL ol os om
  have hlt1 := zL_lt hL1 (by decide)
  have hlt2 := zL_lt hL2 (by decide)
  have i3 := os.hd
  have i2 := os.tl.hd
  have i1 := os.tl.tl.tl.hd
  have c3 := zo_clamp h3 i3.2
  have c2 := zo_clamp h2 i2.2
  have c1 := zo_clamp h1 i1.2
  have nl : ∀ z : Int, 0 ≤ z → zin32 z → ¬ Int32.ofInt z < 0 := fun z h hz q => by
    have := (zo_lt hz zin_0).mp q
    omega
  have hw1 : Cond.native arraycopyName ∈ ztb := List.mem_filter.mpr ⟨List.mem_of_getElem? (i := 466) (by decide +kernel), by decide +kernel⟩
  have hw2 : Cond.static arraycopyName ∈ ztb := List.mem_filter.mpr ⟨List.mem_of_getElem? (i := 465) (by decide +kernel), by decide +kernel⟩
  have hw3 : Cond.initialized "java/lang/System" ∈ ztb := List.mem_filter.mpr ⟨List.mem_of_getElem? (i := 85) (by decide +kernel), by decide +kernel⟩
  refine va_copyi C.1 C.2.1 (by rw [C.2.2.1, hL.2.1]) C.2.2.2.1 (C.2.2.2.2.1 _ hl9) (C.2.2.2.2.1 _ hw1) (C.2.2.2.2.1 _ hw2) (C.2.2.2.2.1 _ hw3) hK hP (zD_of hI mem) hS o1 o2 0 0 (ty := .int) (by rw [zC_get hlt1, zE_int hL1]) (by rw [zC_get hlt2, zE_int hL2]) rfl rfl rfl (nl sp h1 i1) (nl dp h2 i2) (nl n h3 i3) (by rw [c1, c3]; omega) (by rw [c2, c3]; omega) (fun i _ => rfl) hR.1 (by rw [zwd_eq]; omega) hd (fun H1 locs1 hP1 hD1 hS1 => ?_)
  rw [zcp_eq h1 h2 h3 i1 i2 i3] at hP1
  rw [zC_set (mem' := zr mem o2 (zcp (mem o1) (mem o2) sp dp n)) (by rw [zE_int hL2, zr_s]) (fun o' h => zr_n h)] at hP1
  refine kk p e s m args below meth c H1 locs1 lsA C hE hX hK hI hP1 hS1 hL ol os.tl.tl.tl.tl.tl (om.row (fun k => zlong_arr hL2 (by decide)) (fun k => ?_))
  unfold zcp
  split
  · exact (om o1 _).2 (zlong_arr hL1 (by decide))
  · exact (om o2 _).2 (zlong_arr hL2 (by decide))
end
def zfil (r : Int → Int) (v : Int) (n : Int) : Int → Int := fun j => if 0 ≤ j ∧ j < n then v else r j
section
variable {l : Launch} {G : zG} {mem : zM}
set_option maxRecDepth 100000 in
theorem c_signum (x : Int) (hx : zin32 x) : KJ6_signum_0f7a4 l G 0 [zI x] mem (zP1 (zI (zsg x)) mem) := by
  refine CT.of' (own := RJ6) (ls0 := [zI x]) rfl (by decide +kernel) (Nat.le_of_ble_eq_true rfl) rfl ?_
  refine r_iload_n dJ6_signum_0f7a4_0 rfl ?_
  refine r_bipush dJ6_signum_0f7a4_1 (k := ?_)
  refine r_ishr dJ6_signum_0f7a4_3 ?_
  refine r_iload_n dJ6_signum_0f7a4_4 rfl ?_
  refine r_ineg dJ6_signum_0f7a4_5 ?_
  refine r_bipush dJ6_signum_0f7a4_6 (k := ?_)
  refine r_iushr dJ6_signum_0f7a4_8 ?_
  refine r_ior dJ6_signum_0f7a4_9 ?_
  refine r_iret dJ6_signum_0f7a4_10 ?_
  exact zP1.ofI (zsg_or hx)
set_option maxRecDepth 100000 in
theorem c_fill (o n : Nat) (v : Int) (hL : zL o = (10, n)) (hn : (n : Int) ≤ 1000) : KJ7_fill_53178 l G 0 [zR o, zI v] mem (zP0 (zr mem o (zfil (mem o) v n))) := by
  refine CT.of' (own := RJ7) (ls0 := [zR o, zI v, zU, zU]) rfl (by decide +kernel) (Nat.le_of_ble_eq_true rfl) rfl ?_
  refine r_iconst dJ7_fill_53178_0 (k := ?_)
  refine r_istore_n dJ7_fill_53178_1 rfl ?_
  refine r_aload_n dJ7_fill_53178_2 rfl ?_
  refine r_alen hL ⟨by omega, by omega⟩ dJ7_fill_53178_3 ?_
  refine r_istore_n dJ7_fill_53178_4 rfl ?_
  have loop : ∀ (k : Nat) (i : Int) (m : zM), 0 ≤ i → i + k = n → m = zr mem o (zfil (mem o) v i) → SW l G (zrm 0) RJ7 cJ7_fill_53178 4 none (zZ G (zP0 (zr mem o (zfil (mem o) v n)))) 0 0 (fun _ => True) 5 [zR o, zI v, zI i, zI n] [] m := by
    intro k
    induction k with
    | zero =>
      intro i m h0 h1 hm
      refine r_iload_n dJ7_fill_53178_5 rfl ?_
      refine r_iload_n dJ7_fill_53178_6 rfl ?_
      refine r_icmp_ge (tgt := 20) dJ7_fill_53178_7 (by decide) (fun _ => ?_) (fun h => absurd h (by omega))
      refine r_vret dJ7_fill_53178_20 ?_
      refine zP0.of ?_
      rw [hm, show i = n by omega]
    | succ k ih =>
      intro i m h0 h1 hm
      refine r_iload_n dJ7_fill_53178_5 rfl ?_
      refine r_iload_n dJ7_fill_53178_6 rfl ?_
      refine r_icmp_ge (tgt := 20) dJ7_fill_53178_7 (by decide) (fun h => absurd h (by omega)) (fun _ => ?_)
      refine r_aload_n dJ7_fill_53178_10 rfl ?_
      refine r_iload_n dJ7_fill_53178_11 rfl ?_
      refine r_iload_n dJ7_fill_53178_12 rfl ?_
      refine r_iast (by exact hL) (by omega) (by omega) dJ7_fill_53178_13 ?_
      refine r_iinc dJ7_fill_53178_14 rfl rfl ?_
      refine r_goto (tgt := 5) dJ7_fill_53178_17 (by decide) ?_
      rw [zw_id (by omega) (by omega)]
      refine ih (i + 1) _ (by omega) (by omega) ?_
      subst hm
      funext o'
      unfold zs zr
      by_cases ho : o' = o
      · simp only [ho, if_true]
        funext j
        unfold zu zfil
        by_cases hj : j = i
        · rw [if_pos hj, if_pos (by omega)]
        · rw [if_neg hj]
          by_cases h3 : 0 ≤ j ∧ j < i
          · rw [if_pos h3, if_pos (by omega)]
          · rw [if_neg h3, if_neg (by omega)]
      · simp only [ho, if_false]
  refine loop n 0 mem (by omega) (by omega) ?_
  funext o'
  unfold zr zfil
  by_cases ho : o' = o
  · rw [if_pos ho, ho]
    funext j
    rw [if_neg (by omega)]
  · rw [if_neg ho]
end
end
section
/-! ===== the class's Firth: places, numbers, and the methods that read ===== -/
section
variable {l : Launch} {G : zG} {R : Room} {own : String} {cc : ByteArray} {nL : Nat} {ret : Option FieldType} {Z : List Frame → Array Value → State → State → Prop} {kc ks : Nat} {Ex : State → Prop} {pc : Nat} {ls st : List zV} {mem : zM}
theorem r_gI {index ci k t o : Nat} {q : Int} (hq : ((k : Nat) : Int) = q) (hf : zFd own index ci k t) (hL9 : zL o = (ci, zNf ci)) (ht9 : t = 0 ∨ t = 3) (hd : decode cc pc = .ok (.getfield index, 3)) (kk : SW l G R own cc nL ret Z kc ks Ex (pc + 3) ls (zI (mem o q) :: st) mem) : SW l G R own cc nL ret Z kc ks Ex pc ls (zR o :: st) mem := by
  subst hq
  exact r_getI hf hL9 ht9 hd kk
theorem r_gJ {index ci k o : Nat} {q : Int} (hq : ((k : Nat) : Int) = q) (hf : zFd own index ci k 1) (hL9 : zL o = (ci, zNf ci)) (hd : decode cc pc = .ok (.getfield index, 3)) (kk : SW l G R own cc nL ret Z kc ks Ex (pc + 3) ls (zJ (mem o q) :: st) mem) : SW l G R own cc nL ret Z kc ks Ex pc ls (zR o :: st) mem := by
  subst hq
  exact r_getJ hf hL9 hd kk
theorem r_pI {index ci k o : Nat} {q x : Int} (hq : ((k : Nat) : Int) = q) (hf : zFp own index ci k 0) (hL9 : zL o = (ci, zNf ci)) (hd : decode cc pc = .ok (.putfield index, 3)) (kk : SW l G R own cc nL ret Z kc ks Ex (pc + 3) ls st (zs mem o q x)) : SW l G R own cc nL ret Z kc ks Ex pc ls (zI x :: zR o :: st) mem := by
  subst hq
  exact r_putI hf hL9 hd kk
theorem r_pZ {index ci k o : Nat} {q x : Int} (hq : ((k : Nat) : Int) = q) (hf : zFp own index ci k 3) (hL9 : zL o = (ci, zNf ci)) (h01 : x = 0 ∨ x = 1) (hd : decode cc pc = .ok (.putfield index, 3)) (kk : SW l G R own cc nL ret Z kc ks Ex (pc + 3) ls st (zs mem o q x)) : SW l G R own cc nL ret Z kc ks Ex pc ls (zI x :: zR o :: st) mem := by
  subst hq
  exact r_putZ hf hL9 h01 hd kk
theorem r_pJ {index ci k o : Nat} {q x : Int} (hq : ((k : Nat) : Int) = q) (hf : zFp own index ci k 1) (hL9 : zL o = (ci, zNf ci)) (hd : decode cc pc = .ok (.putfield index, 3)) (kk : SW l G R own cc nL ret Z kc ks Ex (pc + 3) ls st (zs mem o q x)) : SW l G R own cc nL ret Z kc ks Ex pc ls (zJ x :: zR o :: st) mem := by
  subst hq
  exact r_putJ hf hL9 hd kk
end
def isF (b : Nat) : Prop := b = 1 ∨ b = 8 ∨ b = 21 ∨ b = 33 ∨ b = 55
theorem zlF {b : Nat} (h : isF b) : zL b = (0, zNf 0) := by rcases h with rfl | rfl | rfl | rfl | rfl <;> rfl
theorem zrF1 {b : Nat} (h : isF b) : zRf b 1 = b + 1 := by rcases h with rfl | rfl | rfl | rfl | rfl <;> rfl
theorem zrF2 {b : Nat} (h : isF b) : zRf b 2 = b + 2 := by rcases h with rfl | rfl | rfl | rfl | rfl <;> rfl
theorem zrF3 {b : Nat} (h : isF b) : zRf b 3 = b + 3 := by rcases h with rfl | rfl | rfl | rfl | rfl <;> rfl
theorem zrF5 {b : Nat} (h : isF b) : zRf b 5 = b + 4 := by rcases h with rfl | rfl | rfl | rfl | rfl <;> rfl
theorem zrF6 {b : Nat} (h : isF b) : zRf b 6 = b + 5 := by rcases h with rfl | rfl | rfl | rfl | rfl <;> rfl
theorem zrF7 {b : Nat} (h : isF b) : zRf b 7 = b + 6 := by rcases h with rfl | rfl | rfl | rfl | rfl <;> rfl
theorem zaF1 {b : Nat} (h : isF b) : zL (b + 1) = (10, 5) := by rcases h with rfl | rfl | rfl | rfl | rfl <;> rfl
theorem zaF2 {b : Nat} (h : isF b) : zL (b + 2) = (10, 5) := by rcases h with rfl | rfl | rfl | rfl | rfl <;> rfl
theorem zaF3 {b : Nat} (h : isF b) : zL (b + 3) = (10, 25) := by rcases h with rfl | rfl | rfl | rfl | rfl <;> rfl
theorem zaF4 {b : Nat} (h : isF b) : zL (b + 4) = (10, 6) := by rcases h with rfl | rfl | rfl | rfl | rfl <;> rfl
theorem zaF5 {b : Nat} (h : isF b) : zL (b + 5) = (10, 6) := by rcases h with rfl | rfl | rfl | rfl | rfl <;> rfl
theorem zaF6 {b : Nat} (h : isF b) : zL (b + 6) = (10, 6) := by rcases h with rfl | rfl | rfl | rfl | rfl <;> rfl
/-! ===== the words of the firth, for class and reference ===== -/
def zfor {α : Type} (f : Int → α → α) (i : Int) : Nat → α → α
  | 0, a => a
  | k + 1, a => zfor f (i + 1) k (f i a)
def zany (f : Int → Bool) (i : Int) : Nat → Bool
  | 0 => false
  | k + 1 => f i || zany f (i + 1) k
def sRopes (r : Int) (e1 e2 : Int → Int) (i : Int) : Int := zfor (fun k a => if e1 k = i ∨ e2 k = i then a + 1 else a) 0 r.toNat 0
def sLens (r : Int) (ln : Int → Int) : Int := zfor (fun k a => a + ln k) 0 r.toNat 0
def sGrudges (n : Int) (g : Int → Int) : Int := zfor (fun i a => zfor (fun j c => c + if i = j then 0 else g (5 * i + j)) 0 n.toNat a) 0 n.toNat 0
def sMin (p : Int → Int) (k : Nat) : Int := zfor (fun i a => min a (p i)) 1 k (p 0)
def sMax (p : Int → Int) (k : Nat) : Int := zfor (fun i a => max a (p i)) 1 k (p 0)
def sSpread (n : Int) (p : Int → Int) : Int := if n < 2 then 0 else sMax p (n - 1).toNat - sMin p (n - 1).toNat
def sMoved (n : Int) (p q : Int → Int) : Int := zfor (fun i a => if p i = q i then a else a + 1) 0 n.toNat 0
def sTaken (n : Int) (p : Int → Int) (v but : Int) : Bool := zany (fun i => decide (i ≠ but ∧ p i = v)) 0 n.toNat
def sSz (x : Int) : Int := if 0 ≤ x then x else -x
def sNear (n : Int) (p : Int → Int) (i : Int) : Int := (zfor (fun j (a : Int × Int) => if j ≠ i ∧ sSz (p i - p j) < a.1 then (sSz (p i - p j), j) else a) 0 n.toNat (100, -4)).2
def sPlain (n : Int) (p g : Int → Int) (i : Int) : Int := zfor (fun j a => if j = i then a else a + if p j < p i then g (5 * i + j) else -g (5 * i + j)) 0 n.toNat 0
def sDriftOf (t plain : Int) : Int := if t = 1 then 2 * plain else if t = 2 then plain.tdiv 2 else if t = 3 then 2 * plain - zsg plain else plain
def sHeld (r : Int) (e1 e2 ln p : Int → Int) (i to : Int) : Bool := zany (fun k => decide ((e1 k = i ∨ e2 k = i) ∧ ln k < sSz (to - p (if e1 k = i then e2 k else e1 k)) ∧ sSz (p i - p (if e1 k = i then e2 k else e1 k)) < sSz (to - p (if e1 k = i then e2 k else e1 k)))) 0 r.toNat
theorem zabs_sz {x : Int} (h : -2147483648 < x) (h2 : x < 2147483648) : zabs x = sSz x := by
  unfold zabs sSz
  split
  · rfl
  · exact zw_id (by omega) (by omega)
theorem sSz_0 (x : Int) : 0 ≤ sSz x := by unfold sSz; split <;> omega
theorem sSz_le {x m : Int} (h1 : -m ≤ x) (h2 : x ≤ m) : sSz x ≤ m := by unfold sSz; split <;> omega
/-- what holds of a firth's numbers -/
def zFI (mem : zM) (b : Nat) : Prop := 0 ≤ mem b 0 ∧ mem b 0 ≤ 5 ∧ 0 ≤ mem b 4 ∧ mem b 4 ≤ 6 ∧ (∀ i, 0 ≤ i → i < mem b 0 → 0 ≤ mem (b + 2) i ∧ mem (b + 2) i ≤ 99) ∧ (∀ i j, 0 ≤ i → i < mem b 0 → 0 ≤ j → j < mem b 0 → 0 ≤ mem (b + 3) (5 * i + j) ∧ mem (b + 3) (5 * i + j) ≤ 3) ∧ (∀ k, 0 ≤ k → k < mem b 4 → 0 ≤ mem (b + 4) k ∧ mem (b + 4) k < mem b 0 ∧ 0 ≤ mem (b + 5) k ∧ mem (b + 5) k < mem b 0 ∧ 0 ≤ mem (b + 6) k ∧ mem (b + 6) k ≤ 30)
section
variable {l : Launch} {G : zG} {mem : zM} {b : Nat}
set_option maxRecDepth 100000 in
theorem c_X0_grudge (hb : isF b) (i j : Int) (h1 : 0 ≤ i) (h2 : i < 5) (h3 : 0 ≤ j) (h4 : j < 5) : KX0_grudge l G 0 [zR b, zI i, zI j] mem (zP1 (zI (mem (b + 3) (5 * i + j))) mem) := by
  refine CT.of' (own := RX0) (ls0 := [zR b, zI i, zI j]) rfl (by decide +kernel) (Nat.le_of_ble_eq_true rfl) rfl ?_
  refine r_aload_n dX0_grudge_0 rfl ?_
  refine r_getR fX0_22 (by exact zlF hb) (zrF3 hb) dX0_grudge_1 ?_
  refine r_iload_n dX0_grudge_4 rfl ?_
  refine r_iconst dX0_grudge_5 (k := ?_)
  refine r_imul dX0_grudge_6 ?_
  try rw [zw_id (by omega) (by omega)]
  refine r_iload_n dX0_grudge_7 rfl ?_
  refine r_iadd dX0_grudge_8 ?_
  try rw [zw_id (by omega) (by omega)]
  refine r_iald (by first | exact zaF1 hb | exact zaF2 hb | exact zaF3 hb | exact zaF4 hb | exact zaF5 hb | exact zaF6 hb) (by omega) (by omega) dX0_grudge_9 ?_
  refine r_iret dX0_grudge_10 ?_
  exact zP1.ofI (by rw [show i * 5 + j = 5 * i + j by omega])
set_option maxRecDepth 100000 in
theorem c_X0_setGrudge (hb : isF b) (i j v : Int) (h1 : 0 ≤ i) (h2 : i < 5) (h3 : 0 ≤ j) (h4 : j < 5) : KX0_setGrudge l G 0 [zR b, zI i, zI j, zI v] mem (zP0 (zs mem (b + 3) (5 * i + j) v)) := by
  refine CT.of' (own := RX0) (ls0 := [zR b, zI i, zI j, zI v]) rfl (by decide +kernel) (Nat.le_of_ble_eq_true rfl) rfl ?_
  refine r_aload_n dX0_setGrudge_0 rfl ?_
  refine r_getR fX0_22 (by exact zlF hb) (zrF3 hb) dX0_setGrudge_1 ?_
  refine r_iload_n dX0_setGrudge_4 rfl ?_
  refine r_iconst dX0_setGrudge_5 (k := ?_)
  refine r_imul dX0_setGrudge_6 ?_
  try rw [zw_id (by omega) (by omega)]
  refine r_iload_n dX0_setGrudge_7 rfl ?_
  refine r_iadd dX0_setGrudge_8 ?_
  try rw [zw_id (by omega) (by omega)]
  refine r_iload_n dX0_setGrudge_9 rfl ?_
  refine r_iast (by first | exact zaF1 hb | exact zaF2 hb | exact zaF3 hb | exact zaF4 hb | exact zaF5 hb | exact zaF6 hb) (by omega) (by omega) dX0_setGrudge_10 ?_
  refine r_vret dX0_setGrudge_11 ?_
  exact zP0.of (by rw [show i * 5 + j = 5 * i + j by omega])
set_option maxRecDepth 100000 in
theorem c_X0_ropesOf (hb : isF b) (i : Int) (hr0 : 0 ≤ mem b 4) (hr6 : mem b 4 ≤ 6) : KX0_ropesOf l G 0 [zR b, zI i] mem (zP1 (zI (sRopes (mem b 4) (mem (b + 4)) (mem (b + 5)) i)) mem) := by
  refine CT.of' (own := RX0) (ls0 := [zR b, zI i, zU, zU]) rfl (by decide +kernel) (Nat.le_of_ble_eq_true rfl) rfl ?_
  refine r_iconst dX0_ropesOf_0 (k := ?_)
  refine r_istore_n dX0_ropesOf_1 rfl ?_
  refine r_iconst dX0_ropesOf_2 (k := ?_)
  refine r_istore_n dX0_ropesOf_3 rfl ?_
  have loop : ∀ (k : Nat) (x a : Int), 0 ≤ x → x + k = mem b 4 → 0 ≤ a → a ≤ x → zfor (fun k a => if mem (b + 4) k = i ∨ mem (b + 5) k = i then a + 1 else a) x k a = sRopes (mem b 4) (mem (b + 4)) (mem (b + 5)) i → SW l G (zrm 0) RX0 cX0_ropesOf 4 (some .int) (zZ G (zP1 (zI (sRopes (mem b 4) (mem (b + 4)) (mem (b + 5)) i)) mem)) 0 0 (fun _ => True) 4 [zR b, zI i, zI a, zI x] [] mem := by
    intro k
    induction k with
    | zero =>
      intro x a h0 h1 h2 h3 he
      refine r_iload_n dX0_ropesOf_4 rfl ?_
      refine r_aload_n dX0_ropesOf_5 rfl ?_
      refine r_gI (q := 4) rfl fX0_25 (by exact zlF hb) (by decide) dX0_ropesOf_6 ?_
      refine r_icmp_ge (tgt := 41) dX0_ropesOf_9 (by decide) (fun h9 => ?_) (fun h9 => ?_)
      · refine r_iload_n dX0_ropesOf_41 rfl ?_
        refine r_iret dX0_ropesOf_42 ?_
        exact zP1.ofI he
      · exact absurd (by omega) h9
    | succ k ih =>
      intro x a h0 h1 h2 h3 he
      refine r_iload_n dX0_ropesOf_4 rfl ?_
      refine r_aload_n dX0_ropesOf_5 rfl ?_
      refine r_gI (q := 4) rfl fX0_25 (by exact zlF hb) (by decide) dX0_ropesOf_6 ?_
      refine r_icmp_ge (tgt := 41) dX0_ropesOf_9 (by decide) (fun h9 => ?_) (fun h9 => ?_)
      · exact absurd h9 (by omega)
      · refine r_aload_n dX0_ropesOf_12 rfl ?_
        refine r_getR fX0_28 (by exact zlF hb) (zrF5 hb) dX0_ropesOf_13 ?_
        refine r_iload_n dX0_ropesOf_16 rfl ?_
        refine r_iald (by first | exact zaF1 hb | exact zaF2 hb | exact zaF3 hb | exact zaF4 hb | exact zaF5 hb | exact zaF6 hb) (by omega) (by omega) dX0_ropesOf_17 ?_
        refine r_iload_n dX0_ropesOf_18 rfl ?_
        refine r_icmp_eq (tgt := 32) dX0_ropesOf_19 (by decide) (fun h19 => ?_) (fun h19 => ?_)
        · refine r_iinc dX0_ropesOf_32 rfl rfl ?_
          try rw [zw_id (by omega) (by omega)]
          refine r_iinc dX0_ropesOf_35 rfl rfl ?_
          try rw [zw_id (by omega) (by omega)]
          refine r_goto (tgt := 4) dX0_ropesOf_38 (by decide) ?_
          exact ih _ _ (by omega) (by omega) (by omega) (by omega) (by rw [zfor] at he; simpa [*] using he)
        · refine r_aload_n dX0_ropesOf_22 rfl ?_
          refine r_getR fX0_31 (by exact zlF hb) (zrF6 hb) dX0_ropesOf_23 ?_
          refine r_iload_n dX0_ropesOf_26 rfl ?_
          refine r_iald (by first | exact zaF1 hb | exact zaF2 hb | exact zaF3 hb | exact zaF4 hb | exact zaF5 hb | exact zaF6 hb) (by omega) (by omega) dX0_ropesOf_27 ?_
          refine r_iload_n dX0_ropesOf_28 rfl ?_
          refine r_icmp_ne (tgt := 35) dX0_ropesOf_29 (by decide) (fun h29 => ?_) (fun h29 => ?_)
          · refine r_iinc dX0_ropesOf_35 rfl rfl ?_
            try rw [zw_id (by omega) (by omega)]
            refine r_goto (tgt := 4) dX0_ropesOf_38 (by decide) ?_
            exact ih _ _ (by omega) (by omega) (by omega) (by omega) (by rw [zfor] at he; simpa [*] using he)
          · refine r_iinc dX0_ropesOf_32 rfl rfl ?_
            try rw [zw_id (by omega) (by omega)]
            refine r_iinc dX0_ropesOf_35 rfl rfl ?_
            try rw [zw_id (by omega) (by omega)]
            refine r_goto (tgt := 4) dX0_ropesOf_38 (by decide) ?_
            exact ih _ _ (by omega) (by omega) (by omega) (by omega) (by rw [zfor] at he; simpa [*] using he)
  exact loop (mem b 4).toNat 0 0 (by omega) (by omega) (by omega) (by omega) rfl
end
end

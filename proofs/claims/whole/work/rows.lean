section
/-- a private method of a class that the tables say can be made, by its rows of tables_1 -/
def lw_okq (q : MethodName × Nat) : Prop := (q.1.cls ≠ "java/lang/invoke/MethodHandle" ∧ q.1.cls ≠ "java/lang/invoke/VarHandle") ∧ Cond.instantiable q.1.cls q.2 ∈ tables_1 ∧ Cond.privateMethod q.1 ∈ tables_1 ∧ Cond.instanceMethod q.1 ∈ tables_1
theorem lw_p0 : lw_okq (⟨"FacadeShow", "surveyLights", "()V"⟩, 16) := ⟨⟨by decide +kernel, by decide +kernel⟩, List.mem_of_getElem? (i := 15) (by decide +kernel), List.mem_of_getElem? (i := 124) (by decide +kernel), List.mem_of_getElem? (i := 125) (by decide +kernel)⟩
theorem lw_p1 : lw_okq (⟨"FacadeShow", "find", "(I)LFacadeShow$Projector;"⟩, 16) := ⟨⟨by decide +kernel, by decide +kernel⟩, List.mem_of_getElem? (i := 15) (by decide +kernel), List.mem_of_getElem? (i := 128) (by decide +kernel), List.mem_of_getElem? (i := 129) (by decide +kernel)⟩
theorem lw_p2 : lw_okq (⟨"FacadeShow$Survey", "note", "(IIIZ)V"⟩, 2) := ⟨⟨by decide +kernel, by decide +kernel⟩, List.mem_of_getElem? (i := 42) (by decide +kernel), List.mem_of_getElem? (i := 132) (by decide +kernel), List.mem_of_getElem? (i := 133) (by decide +kernel)⟩
theorem lw_p3 : lw_okq (⟨"FacadeShow", "lightFrom", "(LFacadeShow$Projector;I)I"⟩, 16) := ⟨⟨by decide +kernel, by decide +kernel⟩, List.mem_of_getElem? (i := 15) (by decide +kernel), List.mem_of_getElem? (i := 142) (by decide +kernel), List.mem_of_getElem? (i := 143) (by decide +kernel)⟩
theorem lw_p4 : lw_okq (⟨"FacadeShow", "isAimedAt", "(LFacadeShow$Projector;I)Z"⟩, 16) := ⟨⟨by decide +kernel, by decide +kernel⟩, List.mem_of_getElem? (i := 15) (by decide +kernel), List.mem_of_getElem? (i := 146) (by decide +kernel), List.mem_of_getElem? (i := 147) (by decide +kernel)⟩
theorem lw_p5 : lw_okq (⟨"FacadeShow", "isBlocked", "(LFacadeShow$Projector;I)Z"⟩, 16) := ⟨⟨by decide +kernel, by decide +kernel⟩, List.mem_of_getElem? (i := 15) (by decide +kernel), List.mem_of_getElem? (i := 150) (by decide +kernel), List.mem_of_getElem? (i := 151) (by decide +kernel)⟩
theorem lw_p6 : lw_okq (⟨"FacadeShow$Square", "reliefOf", "(I)I"⟩, 3) := ⟨⟨by decide +kernel, by decide +kernel⟩, List.mem_of_getElem? (i := 23) (by decide +kernel), List.mem_of_getElem? (i := 154) (by decide +kernel), List.mem_of_getElem? (i := 155) (by decide +kernel)⟩
theorem lw_p7 : lw_okq (⟨"FacadeShow", "crossing", "(LFacadeShow$Projector;II)I"⟩, 16) := ⟨⟨by decide +kernel, by decide +kernel⟩, List.mem_of_getElem? (i := 15) (by decide +kernel), List.mem_of_getElem? (i := 159) (by decide +kernel), List.mem_of_getElem? (i := 160) (by decide +kernel)⟩
theorem lw_p8 : lw_okq (⟨"FacadeShow$Square", "stopsRays", "(II)Z"⟩, 3) := ⟨⟨by decide +kernel, by decide +kernel⟩, List.mem_of_getElem? (i := 23) (by decide +kernel), List.mem_of_getElem? (i := 163) (by decide +kernel), List.mem_of_getElem? (i := 164) (by decide +kernel)⟩
theorem lw_p9 : lw_okq (⟨"FacadeShow$Square", "contentOf", "(II)I"⟩, 3) := ⟨⟨by decide +kernel, by decide +kernel⟩, List.mem_of_getElem? (i := 23) (by decide +kernel), List.mem_of_getElem? (i := 167) (by decide +kernel), List.mem_of_getElem? (i := 168) (by decide +kernel)⟩
theorem lw_p10 : lw_okq (⟨"FacadeShow$Square", "hundredthsOf", "(I)I"⟩, 3) := ⟨⟨by decide +kernel, by decide +kernel⟩, List.mem_of_getElem? (i := 23) (by decide +kernel), List.mem_of_getElem? (i := 175) (by decide +kernel), List.mem_of_getElem? (i := 176) (by decide +kernel)⟩
theorem lw_p11 : lw_okq (⟨"FacadeShow", "isInFocus", "(LFacadeShow$Projector;I)Z"⟩, 16) := ⟨⟨by decide +kernel, by decide +kernel⟩, List.mem_of_getElem? (i := 15) (by decide +kernel), List.mem_of_getElem? (i := 179) (by decide +kernel), List.mem_of_getElem? (i := 180) (by decide +kernel)⟩
theorem lw_p12 : lw_okq (⟨"FacadeShow", "unfailedProjectors", "()I"⟩, 16) := ⟨⟨by decide +kernel, by decide +kernel⟩, List.mem_of_getElem? (i := 15) (by decide +kernel), List.mem_of_getElem? (i := 183) (by decide +kernel), List.mem_of_getElem? (i := 184) (by decide +kernel)⟩
theorem lw_p13 : lw_okq (⟨"FacadeShow$Survey", "coversAll", "(III)Z"⟩, 2) := ⟨⟨by decide +kernel, by decide +kernel⟩, List.mem_of_getElem? (i := 42) (by decide +kernel), List.mem_of_getElem? (i := 193) (by decide +kernel), List.mem_of_getElem? (i := 194) (by decide +kernel)⟩
theorem lw_p14 : lw_okq (⟨"FacadeShow$Survey", "isWellCovered", "(III)Z"⟩, 2) := ⟨⟨by decide +kernel, by decide +kernel⟩, List.mem_of_getElem? (i := 42) (by decide +kernel), List.mem_of_getElem? (i := 197) (by decide +kernel), List.mem_of_getElem? (i := 198) (by decide +kernel)⟩
theorem lw_p15 : lw_okq (⟨"FacadeShow$Projector", "shines", "()Z"⟩, 10) := ⟨⟨by decide +kernel, by decide +kernel⟩, List.mem_of_getElem? (i := 211) (by decide +kernel), List.mem_of_getElem? (i := 209) (by decide +kernel), List.mem_of_getElem? (i := 210) (by decide +kernel)⟩
def lw_privs_1 : List (MethodName × Nat) := [(⟨"FacadeShow", "surveyLights", "()V"⟩, 16), (⟨"FacadeShow", "find", "(I)LFacadeShow$Projector;"⟩, 16), (⟨"FacadeShow$Survey", "note", "(IIIZ)V"⟩, 2), (⟨"FacadeShow", "lightFrom", "(LFacadeShow$Projector;I)I"⟩, 16), (⟨"FacadeShow", "isAimedAt", "(LFacadeShow$Projector;I)Z"⟩, 16), (⟨"FacadeShow", "isBlocked", "(LFacadeShow$Projector;I)Z"⟩, 16), (⟨"FacadeShow$Square", "reliefOf", "(I)I"⟩, 3), (⟨"FacadeShow", "crossing", "(LFacadeShow$Projector;II)I"⟩, 16), (⟨"FacadeShow$Square", "stopsRays", "(II)Z"⟩, 3), (⟨"FacadeShow$Square", "contentOf", "(II)I"⟩, 3), (⟨"FacadeShow$Square", "hundredthsOf", "(I)I"⟩, 3), (⟨"FacadeShow", "isInFocus", "(LFacadeShow$Projector;I)Z"⟩, 16), (⟨"FacadeShow", "unfailedProjectors", "()I"⟩, 16), (⟨"FacadeShow$Survey", "coversAll", "(III)Z"⟩, 2), (⟨"FacadeShow$Survey", "isWellCovered", "(III)Z"⟩, 2), (⟨"FacadeShow$Projector", "shines", "()Z"⟩, 10)]
theorem lw_r1 : ∀ q ∈ lw_privs_1, lw_okq q := List.forall_mem_cons.mpr ⟨lw_p0, List.forall_mem_cons.mpr ⟨lw_p1, List.forall_mem_cons.mpr ⟨lw_p2, List.forall_mem_cons.mpr ⟨lw_p3, List.forall_mem_cons.mpr ⟨lw_p4, List.forall_mem_cons.mpr ⟨lw_p5, List.forall_mem_cons.mpr ⟨lw_p6, List.forall_mem_cons.mpr ⟨lw_p7, List.forall_mem_cons.mpr ⟨lw_p8, List.forall_mem_cons.mpr ⟨lw_p9, List.forall_mem_cons.mpr ⟨lw_p10, List.forall_mem_cons.mpr ⟨lw_p11, List.forall_mem_cons.mpr ⟨lw_p12, List.forall_mem_cons.mpr ⟨lw_p13, List.forall_mem_cons.mpr ⟨lw_p14, List.forall_mem_cons.mpr ⟨lw_p15, fun _ h => absurd h List.not_mem_nil⟩⟩⟩⟩⟩⟩⟩⟩⟩⟩⟩⟩⟩⟩⟩⟩
theorem lw_p16 : lw_okq (⟨"FacadeShow", "breachesBy", "(LFacadeShow$Projector;)I"⟩, 16) := ⟨⟨by decide +kernel, by decide +kernel⟩, List.mem_of_getElem? (i := 15) (by decide +kernel), List.mem_of_getElem? (i := 214) (by decide +kernel), List.mem_of_getElem? (i := 215) (by decide +kernel)⟩
theorem lw_p17 : lw_okq (⟨"FacadeShow", "meetsTheLiving", "(LFacadeShow$Projector;I)Z"⟩, 16) := ⟨⟨by decide +kernel, by decide +kernel⟩, List.mem_of_getElem? (i := 15) (by decide +kernel), List.mem_of_getElem? (i := 218) (by decide +kernel), List.mem_of_getElem? (i := 219) (by decide +kernel)⟩
theorem lw_p18 : lw_okq (⟨"FacadeShow$Square", "hasTheLiving", "(II)Z"⟩, 3) := ⟨⟨by decide +kernel, by decide +kernel⟩, List.mem_of_getElem? (i := 23) (by decide +kernel), List.mem_of_getElem? (i := 222) (by decide +kernel), List.mem_of_getElem? (i := 223) (by decide +kernel)⟩
theorem lw_p19 : lw_okq (⟨"java/lang/Throwable", "fillInStackTrace", "(I)Ljava/lang/Throwable;"⟩, 6) := ⟨⟨by decide +kernel, by decide +kernel⟩, List.mem_of_getElem? (i := 274) (by decide +kernel), List.mem_of_getElem? (i := 272) (by decide +kernel), List.mem_of_getElem? (i := 273) (by decide +kernel)⟩
theorem lw_p20 : lw_okq (⟨"FacadeShow$Square", "build", "(III)V"⟩, 3) := ⟨⟨by decide +kernel, by decide +kernel⟩, List.mem_of_getElem? (i := 23) (by decide +kernel), List.mem_of_getElem? (i := 321) (by decide +kernel), List.mem_of_getElem? (i := 322) (by decide +kernel)⟩
theorem lw_p21 : lw_okq (⟨"FacadeShow$Square", "put", "(III)V"⟩, 3) := ⟨⟨by decide +kernel, by decide +kernel⟩, List.mem_of_getElem? (i := 23) (by decide +kernel), List.mem_of_getElem? (i := 355) (by decide +kernel), List.mem_of_getElem? (i := 356) (by decide +kernel)⟩
theorem lw_p22 : lw_okq (⟨"FacadeShow", "loadOf", "(I)I"⟩, 16) := ⟨⟨by decide +kernel, by decide +kernel⟩, List.mem_of_getElem? (i := 15) (by decide +kernel), List.mem_of_getElem? (i := 444) (by decide +kernel), List.mem_of_getElem? (i := 445) (by decide +kernel)⟩
theorem lw_p23 : lw_okq (⟨"FacadeShow", "borneBy", "(I)I"⟩, 16) := ⟨⟨by decide +kernel, by decide +kernel⟩, List.mem_of_getElem? (i := 15) (by decide +kernel), List.mem_of_getElem? (i := 448) (by decide +kernel), List.mem_of_getElem? (i := 449) (by decide +kernel)⟩
theorem lw_p24 : lw_okq (⟨"FacadeShow", "lightOf", "(I)I"⟩, 16) := ⟨⟨by decide +kernel, by decide +kernel⟩, List.mem_of_getElem? (i := 15) (by decide +kernel), List.mem_of_getElem? (i := 505) (by decide +kernel), List.mem_of_getElem? (i := 506) (by decide +kernel)⟩
theorem lw_p25 : lw_okq (⟨"FacadeShow", "isSetOfProjectors", "(I)Z"⟩, 16) := ⟨⟨by decide +kernel, by decide +kernel⟩, List.mem_of_getElem? (i := 15) (by decide +kernel), List.mem_of_getElem? (i := 523) (by decide +kernel), List.mem_of_getElem? (i := 524) (by decide +kernel)⟩
theorem lw_p26 : lw_okq (⟨"FacadeShow", "findScene", "(I)LFacadeShow$Scene;"⟩, 16) := ⟨⟨by decide +kernel, by decide +kernel⟩, List.mem_of_getElem? (i := 15) (by decide +kernel), List.mem_of_getElem? (i := 560) (by decide +kernel), List.mem_of_getElem? (i := 561) (by decide +kernel)⟩
theorem lw_p27 : lw_okq (⟨"FacadeShow", "countOfOn", "()I"⟩, 16) := ⟨⟨by decide +kernel, by decide +kernel⟩, List.mem_of_getElem? (i := 15) (by decide +kernel), List.mem_of_getElem? (i := 588) (by decide +kernel), List.mem_of_getElem? (i := 589) (by decide +kernel)⟩
theorem lw_p28 : lw_okq (⟨"FacadeShow", "powerOfOn", "()I"⟩, 16) := ⟨⟨by decide +kernel, by decide +kernel⟩, List.mem_of_getElem? (i := 15) (by decide +kernel), List.mem_of_getElem? (i := 602) (by decide +kernel), List.mem_of_getElem? (i := 603) (by decide +kernel)⟩
theorem lw_p29 : lw_okq (⟨"FacadeShow", "lastFrameOfAll", "()I"⟩, 16) := ⟨⟨by decide +kernel, by decide +kernel⟩, List.mem_of_getElem? (i := 15) (by decide +kernel), List.mem_of_getElem? (i := 606) (by decide +kernel), List.mem_of_getElem? (i := 607) (by decide +kernel)⟩
theorem lw_p30 : lw_okq (⟨"FacadeShow", "isCurfewNow", "()Z"⟩, 16) := ⟨⟨by decide +kernel, by decide +kernel⟩, List.mem_of_getElem? (i := 15) (by decide +kernel), List.mem_of_getElem? (i := 610) (by decide +kernel), List.mem_of_getElem? (i := 611) (by decide +kernel)⟩
theorem lw_p31 : lw_okq (⟨"FacadeShowModel", "goesWell", "(I)Z"⟩, 30) := ⟨⟨by decide +kernel, by decide +kernel⟩, List.mem_of_getElem? (i := 614) (by decide +kernel), List.mem_of_getElem? (i := 726) (by decide +kernel), List.mem_of_getElem? (i := 727) (by decide +kernel)⟩
def lw_privs_2 : List (MethodName × Nat) := [(⟨"FacadeShow", "breachesBy", "(LFacadeShow$Projector;)I"⟩, 16), (⟨"FacadeShow", "meetsTheLiving", "(LFacadeShow$Projector;I)Z"⟩, 16), (⟨"FacadeShow$Square", "hasTheLiving", "(II)Z"⟩, 3), (⟨"java/lang/Throwable", "fillInStackTrace", "(I)Ljava/lang/Throwable;"⟩, 6), (⟨"FacadeShow$Square", "build", "(III)V"⟩, 3), (⟨"FacadeShow$Square", "put", "(III)V"⟩, 3), (⟨"FacadeShow", "loadOf", "(I)I"⟩, 16), (⟨"FacadeShow", "borneBy", "(I)I"⟩, 16), (⟨"FacadeShow", "lightOf", "(I)I"⟩, 16), (⟨"FacadeShow", "isSetOfProjectors", "(I)Z"⟩, 16), (⟨"FacadeShow", "findScene", "(I)LFacadeShow$Scene;"⟩, 16), (⟨"FacadeShow", "countOfOn", "()I"⟩, 16), (⟨"FacadeShow", "powerOfOn", "()I"⟩, 16), (⟨"FacadeShow", "lastFrameOfAll", "()I"⟩, 16), (⟨"FacadeShow", "isCurfewNow", "()Z"⟩, 16), (⟨"FacadeShowModel", "goesWell", "(I)Z"⟩, 30)]
theorem lw_r2 : ∀ q ∈ lw_privs_2, lw_okq q := List.forall_mem_cons.mpr ⟨lw_p16, List.forall_mem_cons.mpr ⟨lw_p17, List.forall_mem_cons.mpr ⟨lw_p18, List.forall_mem_cons.mpr ⟨lw_p19, List.forall_mem_cons.mpr ⟨lw_p20, List.forall_mem_cons.mpr ⟨lw_p21, List.forall_mem_cons.mpr ⟨lw_p22, List.forall_mem_cons.mpr ⟨lw_p23, List.forall_mem_cons.mpr ⟨lw_p24, List.forall_mem_cons.mpr ⟨lw_p25, List.forall_mem_cons.mpr ⟨lw_p26, List.forall_mem_cons.mpr ⟨lw_p27, List.forall_mem_cons.mpr ⟨lw_p28, List.forall_mem_cons.mpr ⟨lw_p29, List.forall_mem_cons.mpr ⟨lw_p30, List.forall_mem_cons.mpr ⟨lw_p31, fun _ h => absurd h List.not_mem_nil⟩⟩⟩⟩⟩⟩⟩⟩⟩⟩⟩⟩⟩⟩⟩⟩
theorem lw_p32 : lw_okq (⟨"FacadeShowModel", "isProjector", "(I)Z"⟩, 30) := ⟨⟨by decide +kernel, by decide +kernel⟩, List.mem_of_getElem? (i := 614) (by decide +kernel), List.mem_of_getElem? (i := 753) (by decide +kernel), List.mem_of_getElem? (i := 754) (by decide +kernel)⟩
theorem lw_p33 : lw_okq (⟨"FacadeShowModel", "borne", "(I)I"⟩, 30) := ⟨⟨by decide +kernel, by decide +kernel⟩, List.mem_of_getElem? (i := 614) (by decide +kernel), List.mem_of_getElem? (i := 761) (by decide +kernel), List.mem_of_getElem? (i := 762) (by decide +kernel)⟩
theorem lw_p34 : lw_okq (⟨"FacadeShowModel", "cross", "(III)I"⟩, 30) := ⟨⟨by decide +kernel, by decide +kernel⟩, List.mem_of_getElem? (i := 614) (by decide +kernel), List.mem_of_getElem? (i := 782) (by decide +kernel), List.mem_of_getElem? (i := 783) (by decide +kernel)⟩
theorem lw_p35 : lw_okq (⟨"FacadeShowModel", "lightOf", "(II)I"⟩, 30) := ⟨⟨by decide +kernel, by decide +kernel⟩, List.mem_of_getElem? (i := 614) (by decide +kernel), List.mem_of_getElem? (i := 790) (by decide +kernel), List.mem_of_getElem? (i := 791) (by decide +kernel)⟩
theorem lw_p36 : lw_okq (⟨"FacadeShowModel", "covers", "(II)Z"⟩, 30) := ⟨⟨by decide +kernel, by decide +kernel⟩, List.mem_of_getElem? (i := 614) (by decide +kernel), List.mem_of_getElem? (i := 794) (by decide +kernel), List.mem_of_getElem? (i := 795) (by decide +kernel)⟩
theorem lw_p37 : lw_okq (⟨"FacadeShowModel", "isBlocked", "(II)Z"⟩, 30) := ⟨⟨by decide +kernel, by decide +kernel⟩, List.mem_of_getElem? (i := 614) (by decide +kernel), List.mem_of_getElem? (i := 798) (by decide +kernel), List.mem_of_getElem? (i := 799) (by decide +kernel)⟩
theorem lw_p38 : lw_okq (⟨"FacadeShowModel", "isSharpAt", "(II)Z"⟩, 30) := ⟨⟨by decide +kernel, by decide +kernel⟩, List.mem_of_getElem? (i := 614) (by decide +kernel), List.mem_of_getElem? (i := 806) (by decide +kernel), List.mem_of_getElem? (i := 807) (by decide +kernel)⟩
theorem lw_p39 : lw_okq (⟨"FacadeShowModel", "lightAt", "(I)I"⟩, 30) := ⟨⟨by decide +kernel, by decide +kernel⟩, List.mem_of_getElem? (i := 614) (by decide +kernel), List.mem_of_getElem? (i := 814) (by decide +kernel), List.mem_of_getElem? (i := 815) (by decide +kernel)⟩
theorem lw_p40 : lw_okq (⟨"FacadeShowModel", "shines", "(I)Z"⟩, 30) := ⟨⟨by decide +kernel, by decide +kernel⟩, List.mem_of_getElem? (i := 614) (by decide +kernel), List.mem_of_getElem? (i := 818) (by decide +kernel), List.mem_of_getElem? (i := 819) (by decide +kernel)⟩
theorem lw_p41 : lw_okq (⟨"FacadeShowModel", "isSet", "(I)Z"⟩, 30) := ⟨⟨by decide +kernel, by decide +kernel⟩, List.mem_of_getElem? (i := 614) (by decide +kernel), List.mem_of_getElem? (i := 830) (by decide +kernel), List.mem_of_getElem? (i := 831) (by decide +kernel)⟩
theorem lw_p42 : lw_okq (⟨"FacadeShowModel", "coveredBy", "(I)I"⟩, 30) := ⟨⟨by decide +kernel, by decide +kernel⟩, List.mem_of_getElem? (i := 614) (by decide +kernel), List.mem_of_getElem? (i := 834) (by decide +kernel), List.mem_of_getElem? (i := 835) (by decide +kernel)⟩
theorem lw_p43 : lw_okq (⟨"FacadeShowModel", "isWell", "(II)Z"⟩, 30) := ⟨⟨by decide +kernel, by decide +kernel⟩, List.mem_of_getElem? (i := 614) (by decide +kernel), List.mem_of_getElem? (i := 838) (by decide +kernel), List.mem_of_getElem? (i := 839) (by decide +kernel)⟩
theorem lw_p44 : lw_okq (⟨"FacadeShowModel", "leastSet", "()I"⟩, 30) := ⟨⟨by decide +kernel, by decide +kernel⟩, List.mem_of_getElem? (i := 614) (by decide +kernel), List.mem_of_getElem? (i := 846) (by decide +kernel), List.mem_of_getElem? (i := 847) (by decide +kernel)⟩
theorem lw_p45 : lw_okq (⟨"FacadeShowModel", "isEnough", "(I)Z"⟩, 30) := ⟨⟨by decide +kernel, by decide +kernel⟩, List.mem_of_getElem? (i := 614) (by decide +kernel), List.mem_of_getElem? (i := 853) (by decide +kernel), List.mem_of_getElem? (i := 854) (by decide +kernel)⟩
theorem lw_p46 : lw_okq (⟨"FacadeShowModel", "breachesNow", "()I"⟩, 30) := ⟨⟨by decide +kernel, by decide +kernel⟩, List.mem_of_getElem? (i := 614) (by decide +kernel), List.mem_of_getElem? (i := 869) (by decide +kernel), List.mem_of_getElem? (i := 870) (by decide +kernel)⟩
theorem lw_p47 : lw_okq (⟨"FacadeShowModel", "meets", "(II)Z"⟩, 30) := ⟨⟨by decide +kernel, by decide +kernel⟩, List.mem_of_getElem? (i := 614) (by decide +kernel), List.mem_of_getElem? (i := 873) (by decide +kernel), List.mem_of_getElem? (i := 874) (by decide +kernel)⟩
def lw_privs_3 : List (MethodName × Nat) := [(⟨"FacadeShowModel", "isProjector", "(I)Z"⟩, 30), (⟨"FacadeShowModel", "borne", "(I)I"⟩, 30), (⟨"FacadeShowModel", "cross", "(III)I"⟩, 30), (⟨"FacadeShowModel", "lightOf", "(II)I"⟩, 30), (⟨"FacadeShowModel", "covers", "(II)Z"⟩, 30), (⟨"FacadeShowModel", "isBlocked", "(II)Z"⟩, 30), (⟨"FacadeShowModel", "isSharpAt", "(II)Z"⟩, 30), (⟨"FacadeShowModel", "lightAt", "(I)I"⟩, 30), (⟨"FacadeShowModel", "shines", "(I)Z"⟩, 30), (⟨"FacadeShowModel", "isSet", "(I)Z"⟩, 30), (⟨"FacadeShowModel", "coveredBy", "(I)I"⟩, 30), (⟨"FacadeShowModel", "isWell", "(II)Z"⟩, 30), (⟨"FacadeShowModel", "leastSet", "()I"⟩, 30), (⟨"FacadeShowModel", "isEnough", "(I)Z"⟩, 30), (⟨"FacadeShowModel", "breachesNow", "()I"⟩, 30), (⟨"FacadeShowModel", "meets", "(II)Z"⟩, 30)]
theorem lw_r3 : ∀ q ∈ lw_privs_3, lw_okq q := List.forall_mem_cons.mpr ⟨lw_p32, List.forall_mem_cons.mpr ⟨lw_p33, List.forall_mem_cons.mpr ⟨lw_p34, List.forall_mem_cons.mpr ⟨lw_p35, List.forall_mem_cons.mpr ⟨lw_p36, List.forall_mem_cons.mpr ⟨lw_p37, List.forall_mem_cons.mpr ⟨lw_p38, List.forall_mem_cons.mpr ⟨lw_p39, List.forall_mem_cons.mpr ⟨lw_p40, List.forall_mem_cons.mpr ⟨lw_p41, List.forall_mem_cons.mpr ⟨lw_p42, List.forall_mem_cons.mpr ⟨lw_p43, List.forall_mem_cons.mpr ⟨lw_p44, List.forall_mem_cons.mpr ⟨lw_p45, List.forall_mem_cons.mpr ⟨lw_p46, List.forall_mem_cons.mpr ⟨lw_p47, fun _ h => absurd h List.not_mem_nil⟩⟩⟩⟩⟩⟩⟩⟩⟩⟩⟩⟩⟩⟩⟩⟩
theorem lw_p48 : lw_okq (⟨"FacadeShowModel", "on", "()I"⟩, 30) := ⟨⟨by decide +kernel, by decide +kernel⟩, List.mem_of_getElem? (i := 614) (by decide +kernel), List.mem_of_getElem? (i := 901) (by decide +kernel), List.mem_of_getElem? (i := 902) (by decide +kernel)⟩
theorem lw_p49 : lw_okq (⟨"FacadeShowModel", "passOne", "(I)V"⟩, 30) := ⟨⟨by decide +kernel, by decide +kernel⟩, List.mem_of_getElem? (i := 614) (by decide +kernel), List.mem_of_getElem? (i := 909) (by decide +kernel), List.mem_of_getElem? (i := 910) (by decide +kernel)⟩
def lw_privs_4 : List (MethodName × Nat) := [(⟨"FacadeShowModel", "on", "()I"⟩, 30), (⟨"FacadeShowModel", "passOne", "(I)V"⟩, 30)]
theorem lw_r4 : ∀ q ∈ lw_privs_4, lw_okq q := List.forall_mem_cons.mpr ⟨lw_p48, List.forall_mem_cons.mpr ⟨lw_p49, fun _ h => absurd h List.not_mem_nil⟩⟩
def lw_privs : List (MethodName × Nat) := lw_privs_1 ++ (lw_privs_2 ++ (lw_privs_3 ++ (lw_privs_4)))
def lw_tbl : List Cond := k2_sels lw_privs ++ tables_1
theorem lw_privs_ok : ∀ q ∈ lw_privs, lw_okq q := by
  show ∀ q ∈ lw_privs_1 ++ (lw_privs_2 ++ (lw_privs_3 ++ (lw_privs_4))), lw_okq q
  exact List.forall_mem_append.mpr ⟨lw_r1, List.forall_mem_append.mpr ⟨lw_r2, List.forall_mem_append.mpr ⟨lw_r3, lw_r4⟩⟩⟩
end
section
/-! ===== BEGIN words of one list among another's, by their places ===== -/
theorem goodIn_r {big : List Cond} (ws : List Cond) (ps : List Nat) (hp : ws = ps.filterMap (fun i => big[i]?)) (h : ws.all goodWord = true) : GoodIn big ws := by
  intro w hw
  have h1 := List.all_eq_true.mp h w hw
  rw [hp] at hw
  obtain ⟨i, -, hi⟩ := List.mem_filterMap.mp hw
  have hm : w ∈ big := by first | exact List.mem_of_getElem? hi | exact List.getElem?_mem hi
  exact ⟨hm, good_of_word h1⟩
theorem goodIn_app {big a b : List Cond} (ha : GoodIn big a) (hb : GoodIn big b) : GoodIn big (a ++ b) := fun w h => (List.mem_append.mp h).elim (ha w) (hb w)
theorem goodIn_ca {big a b : List Cond} {c : Cond} (ha : GoodIn big (c :: a)) (hb : GoodIn big b) : GoodIn big (c :: (a ++ b)) := fun w h => (List.mem_cons.mp h).elim (fun e => ha w (List.mem_cons.mpr (Or.inl e))) (fun h => (List.mem_append.mp h).elim (fun h => ha w (List.mem_cons.mpr (Or.inr h))) (hb w))
theorem goodIn_sub {big ws : List Cond} (hm : ∀ w ∈ ws, w ∈ big) (h : ws.all goodWord = true) : GoodIn big ws := fun w hw => ⟨hm w hw, good_of_word (List.all_eq_true.mp h w hw)⟩
/-! ===== END ===== -/

/-! ===== BEGIN exceptions that leave a method, and their catching by the caller (launches without stack traces) ===== -/
section VXA
/-! The laws vx_back, vx_callV, vx_callS, vx_callSW, vx_throw0, vx_throwS follow proofs of the library, with one case more: JvmDerived/Free/Laws.lean (Back.of_free), Shelf42/LK1.lean (callV, callS), Shelf/KitTraced.lean (throwNew0V, throwNewS). -/
/-- where a method has thrown q: the class by its name, the cell, what was written, the world -/
def vx_T (XC : String → State → State → Prop) (st : State) (q : Addr) (t : State) (mc ms : Nat) (free : Addr → Prop) : Prop :=
  ∃ (E : String) (ce : Cell) (L : List Loc), XC E st t ∧ t.heap[q]? = some ce ∧ ce.vm = .none ∧ st.vm.findClass E = some ce.cls ∧ st.WarmedH t.vm ∧ st.sameButNew ({ t with vm := st.vm } : State) L mc ms ∧ ∀ z ∈ L, free z.base
def vx_Q (Qc : Array Value → State → Outcome → State → Prop) (XC : String → State → State → Prop) (mc ms : Nat) (free : Addr → Prop) : Array Value → State → Outcome → State → Prop := fun a st o t =>
  (Qc a st o t ∧ ∃ L, FrameEnd st o t L mc ms ∧ ∀ q ∈ L, free q.base) ∨ ∃ q, o = .threw q ∧ vx_T XC st q t mc ms free
/-- a callee that returns or throws -/
def vx_Met (l : Launch) (y : MethodName) (ws : List Cond) (rm : Room) (Pc : Array Value → State → Prop) (Qc : Array Value → State → Outcome → State → Prop) (XC : String → State → State → Prop) (mc ms : Nat) (free : Addr → Prop) : Prop :=
  MetFree l y (headSpec ws rm) Pc (fun _ _ _ _ _ => True) (vx_Q Qc XC mc ms free)
def vx_Post (XC : String → State → State → Prop) (mc ms : Nat) (free : Addr → Prop) : Pt → Array Value → Addr → Pt → Prop := fun A a q B =>
  ∃ (g : JFrame) (mk : MethodId) (t : State) (L : List Loc) (E : String) (ce : Cell), B.U.heap = t.heap ∧ B.U.vm = t.vm ∧ XC E (A.U.calling g mk a) t ∧ t.heap[q]? = some ce ∧ ce.vm = .none ∧ A.U.vm.findClass E = some ce.cls ∧ B.locs = A.locs ++ L ∧ (∀ z ∈ L, free z.base) ∧ B.cells = A.cells + mc ∧ B.slots = A.slots + ms
def vx_Back (l : Launch) (R : Room) (p : Program) (e : Env) (below : List Frame) (s : State) (sargs : Array Value) (y : MethodName) (len W9 : Nat)
    (Pre : Pt → Array Value → Prop) (Post : Pt → Array Value → Option Value → Pt → Prop) (PostX : Pt → Array Value → Addr → Pt → Prop) : Prop :=
  ∀ (m : MethodId) (meth : Method) (c : Code) (A : Pt) (g : JFrame) (ig : Instr) (mk : MethodId) (a : Array Value),
    Stand p l e R s m sargs below meth c A.U A.locs A.cells A.slots → g.method = m → g.locals.size = c.maxLocals → decode c.code g.pc = .ok (ig, len) →
    2 * g.monitorRoom + (g.stack.map fun v => v.category).sum ≤ W9 → A.U.methodNamed? y = some mk → Pre A a →
    (∃ (v : Option Value) (B : Pt), Stand p l e R s m sargs below meth c B.U B.locs B.cells B.slots ∧ Post A a v B ∧
      Steps p.tables e below (doInvoke e (A.U.setTop g) [] mk a).1 (B.U.setTop { g with pc := g.pc + len, stack := v.toList ++ g.stack })) ∨
    (∃ (q : Addr) (B : Pt), Stand p l e R s m sargs below meth c B.U B.locs B.cells B.slots ∧ PostX A a q B ∧
      Steps p.tables e below (doInvoke e (A.U.setTop g) [] mk a).1 ((B.U.setTop g).pushFrame (.throwing q)))
section Payer
variable {l : Launch} {R : Room} {p : Program} {e : Env} {below : List Frame} {s : State} {sargs : Array Value} {y : MethodName} {len W9 : Nat}
theorem vx_back {ws : List Cond} {rm : Room} {Pc : Array Value → State → Prop} {Qc : Array Value → State → Outcome → State → Prop} {XC : String → State → State → Prop} {mc ms : Nat} {free : Addr → Prop} {bytes : ByteArray} {maxL : Nat} {ret : Option FieldType}
    (hM : vx_Met l y ws rm Pc Qc XC mc ms free) (hblind : FrameBlind Pc) (hrc : rm.cells = mc) (hrs : rm.slots = ms)
    (hframes : rm.frames + 1 ≤ R.frames) (hlocals : W9 + (maxL + 11) + rm.locals ≤ R.locals)
    (hws : ∀ w ∈ ws, ∀ a' U, s.WarmedH U.vm → w.before a' U = true) (hcode : Cond.code y bytes maxL ret ∈ ws) (hinit : ∀ a' U, s.WarmedH U.vm → (Cond.initialized y.cls).before a' U = true) :
    vx_Back l R p e below s sargs y len W9 (PreOf R mc ms Pc) (PostOf Qc mc ms free) (vx_Post XC mc ms free) := by
  intro m meth c A g ig mk a X hg hsize hdg hW hn hp
  have h1 : (headSpec ws rm).pre.before a A.U = true := atoms_intro fun w hw => hws w hw _ _ X.warmed
  have h2 : (Cond.code y bytes maxL ret).before a A.U = true := hws _ hcode _ _ X.warmed
  have h3 : (Cond.initialized y.cls).before a A.U = true := hinit _ _ X.warmed
  have h4 : A.cells + (headSpec ws rm).room.cells ≤ R.cells := by rw [show (headSpec ws rm).room.cells = mc from hrc]; exact hp.1
  have h5 : A.slots + (headSpec ws rm).room.slots ≤ R.slots := by rw [show (headSpec ws rm).room.slots = ms from hrs]; exact hp.2.1
  have hPc : Pc a (A.U.calling g mk a) := hblind _ _ _ _ hp.2.2
  obtain ⟨U, Ls, c0, s0⟩ := A
  dsimp only [Pt.U, Pt.locs, Pt.cells, Pt.slots] at h1 h2 h3 h4 h5 X hn hPc ⊢
  obtain ⟨methY, cY, hmY, hcY, -, hlY, -, -, -, -⟩ := Cond.code_spec hn h2
  obtain ⟨kY, hkY, -⟩ := className_of_methodNamed hn
  have hinitY : kY.init = .initialized := Cond.initialized_spec (findClass_of_methodNamed hn) hkY h3
  have h : At U g.method c below := by rw [hg]; exact X.here
  have hlocals9 : W9 + (maxL + 11) + (headSpec ws rm).room.locals ≤ R.locals := hlocals
  have happ : (headSpec ws rm).appliesLoose y e.platform (U.calling g mk a) = true :=
    Spec.appliesLoose_calling (g := g) h hdg hn hkY hinitY
      (X.room_calling (g := g) (R' := (headSpec ws rm).room) hsize hmY hcY hframes (by rw [hlY]; omega) h4 h5) h1
  obtain ⟨mid, hmid⟩ := h.above
  have hfr : (U.setTop g).frames = (.java g :: mid) ++ below := by rw [State.frames_setTop' g h.top, hmid]; rfl
  obtain ⟨o, s₂, hsteps, -, hend, hq⟩ := Steps.callFree hM p X.admits X.cas X.clock (acts := []) hfr happ hPc trivial
  have hq' : vx_Q Qc XC mc ms free a (U.calling g mk a) o s₂ := hq
  rw [State.frames_setTop' g h.top] at hend
  obtain ⟨g₀, hg0⟩ := Option.isSome_iff_exists.mp h.top
  obtain ⟨r, hr⟩ := State.topJava?_eq_some.mp hg0
  have hr' : (({ U with heap := s₂.heap, slotsUsed := s₂.slotsUsed } : State).setVm s₂.vm).frames = .java g₀ :: r := hr
  rcases hq' with ⟨hqc, L, hfe, hL⟩ | ⟨q, rfl, E, ce, L, hx, hce, hcv, hcl, hW₂, hsm, hL⟩
  · obtain ⟨⟨v, rfl⟩, hW₂, e2, q2, q3, q4, q5, q6⟩ := id hfe
    have e3 : s₂ = ({ (U.calling g mk a).setFrames s₂.frames with heap := s₂.heap, slotsUsed := s₂.slotsUsed } : State).setVm s₂.vm := by
      have : s₂ = ({ s₂ with vm := (U.calling g mk a).vm } : State).setVm s₂.vm := rfl
      rw [e2] at this
      exact this
    obtain ⟨c₂, i₂, len₂, hc₂, hd₂, hf₂⟩ := hend
    have hW' : U.WarmedH s₂.vm := hW₂
    have hcc : c₂ = c := by
      have h1 : s₂.code? g.method = U.code? g.method := by
        rw [State.code?_eq, State.code?_eq, hW'.alike.method?]
      exact Option.some.inj (hc₂.symm.trans (h1.trans h.code))
    subst hcc
    have hlen : len₂ = len := by rw [hdg] at hd₂; cases hd₂; rfl
    subst hlen
    have hs₂ : s₂ = (({ U with heap := s₂.heap, slotsUsed := s₂.slotsUsed } : State).setVm s₂.vm).setTop { g with pc := g.pc + len₂, stack := v.toList ++ g.stack } := by
      refine e3.trans ?_
      rw [hf₂, State.calling_eq h.top, State.setFrames_setFrames, State.setTop_of_frames _ hr', hr]
      rfl
    have hsame : U.sameButNew ({ U with heap := s₂.heap, slotsUsed := s₂.slotsUsed } : State) L mc ms := by
      refine ⟨?_, q2, q3, q4, q5, q6⟩
      obtain ⟨t, ht, -⟩ := State.frames_cons hr
      show ({ U with heap := s₂.heap, slotsUsed := s₂.slotsUsed } : State) = { U.setFrames U.frames with heap := s₂.heap, slotsUsed := s₂.slotsUsed }
      rw [State.setFrames_self ht]
    subst hg
    refine Or.inl ⟨v, ⟨(({ U with heap := s₂.heap, slotsUsed := s₂.slotsUsed } : State).setVm s₂.vm), Ls ++ L, c0 + mc, s0 + ms⟩,
      ⟨X.admits, X.cas, X.clock, X.frames, X.room, X.hears, X.method, X.code, (X.here.setHeapUsed s₂.heap s₂.slotsUsed).setVm hW'.alike, X.tail, State.WarmedH.trans X.warmed hW', X.limits, X.bytes, X.same.trans (hsame.setVm s.vm)⟩,
      ⟨g, mk, s₂, L, rfl, rfl, hqc, rfl, hL, rfl, rfl⟩, ?_⟩
    show Steps p.tables e below _ ((({ U with heap := s₂.heap, slotsUsed := s₂.slotsUsed } : State).setVm s₂.vm).setTop { g with pc := g.pc + len₂, stack := v.toList ++ g.stack })
    rw [← hs₂]
    exact hsteps
  · obtain ⟨e2, q2, q3, q4, q5, q6⟩ := id hsm
    have e3 : s₂ = ({ (U.calling g mk a).setFrames s₂.frames with heap := s₂.heap, slotsUsed := s₂.slotsUsed } : State).setVm s₂.vm := by
      have : s₂ = ({ s₂ with vm := (U.calling g mk a).vm } : State).setVm s₂.vm := rfl
      rw [e2] at this
      exact this
    have hf₂ : s₂.frames = .throwing q :: .java g :: U.frames.tail := hend
    have hW' : U.WarmedH s₂.vm := hW₂
    have hs₂ : s₂ = ((({ U with heap := s₂.heap, slotsUsed := s₂.slotsUsed } : State).setVm s₂.vm).setTop g).pushFrame (.throwing q) := by
      refine e3.trans ?_
      rw [hf₂, State.calling_eq h.top, State.setFrames_setFrames, State.pushFrame, State.frames_setTop _ hr', State.setTop_of_frames _ hr', State.setFrames_setFrames, hr]
      rfl
    have hsame : U.sameButNew ({ U with heap := s₂.heap, slotsUsed := s₂.slotsUsed } : State) L mc ms := by
      refine ⟨?_, q2, q3, q4, q5, q6⟩
      obtain ⟨t, ht, -⟩ := State.frames_cons hr
      show ({ U with heap := s₂.heap, slotsUsed := s₂.slotsUsed } : State) = { U.setFrames U.frames with heap := s₂.heap, slotsUsed := s₂.slotsUsed }
      rw [State.setFrames_self ht]
    subst hg
    refine Or.inr ⟨q, ⟨(({ U with heap := s₂.heap, slotsUsed := s₂.slotsUsed } : State).setVm s₂.vm), Ls ++ L, c0 + mc, s0 + ms⟩,
      ⟨X.admits, X.cas, X.clock, X.frames, X.room, X.hears, X.method, X.code, (X.here.setHeapUsed s₂.heap s₂.slotsUsed).setVm hW'.alike, X.tail, State.WarmedH.trans X.warmed hW', X.limits, X.bytes, X.same.trans (hsame.setVm s.vm)⟩,
      ⟨g, mk, s₂, L, E, ce, rfl, rfl, hx, hce, hcv, hcl, rfl, hL, rfl, rfl⟩, ?_⟩
    show Steps p.tables e below _ (((({ U with heap := s₂.heap, slotsUsed := s₂.slotsUsed } : State).setVm s₂.vm).setTop g).pushFrame (.throwing q))
    rw [← hs₂]
    exact hsteps
end Payer
section Calls
variable {p : Program} {l : Launch} {e : Env} {R : Room} {s : State} {m : MethodId} {args : Array Value} {below : List Frame} {meth : Method} {c : Code} {T : State} {locs : List Loc} {cells slots : Nat}
theorem vx_callV (X : Stand p l e R s m args below meth c T locs cells slots) (hexec : p.tables.exec = Jvm.exec) {own C : String} {index : Nat} {y : MethodName} {bytes : ByteArray} {maxL : Nat} {ret : Option FieldType}
    (hown : s.vm.findClass own = some m.cls) (hlink : (Cond.methodLink own index y).before args s = true) (hinst : (Cond.instanceMethod y).before args s = true) (hsel : (Cond.selects C y y).before args s = true)
    (hcode : (Cond.code y bytes maxL ret).before args s = true) (hy : y.cls ≠ "java/lang/invoke/MethodHandle" ∧ y.cls ≠ "java/lang/invoke/VarHandle")
    {W9 : Nat} {Pre : Pt → Array Value → Prop} {Post : Pt → Array Value → Option Value → Pt → Prop} {PostX : Pt → Array Value → Addr → Pt → Prop} (hK : vx_Back l R p e below s args y 3 W9 Pre Post PostX)
    {b : Addr} {cellB : Cell} (hcell : T.heap[b]? = some cellB) (hobj : cellB.vm.isStatics = false) (hcls : s.vm.findClass C = some cellB.cls)
    {g : JFrame} (hg : g.method = m) (hsize : g.locals.size = c.maxLocals) {argsL rest : List Value} (hlen : ∀ sig, parseMethodDescriptor y.desc = some sig → argsL.length = sig.parameters.length)
    (hstack : g.stack = argsL.reverse ++ .ref b :: rest) (hW : 2 * g.monitorRoom + (rest.map fun v => v.category).sum ≤ W9) (hdg : decode c.code g.pc = .ok (.invokevirtual index, 3))
    (hpre : ∀ vm₁, s.WarmedH vm₁ → Pre ⟨T.setVm vm₁, locs, cells, slots⟩ (Value.ref b :: argsL).toArray) :
    (∃ (v : Option Value) (vm₁ : Vm) (B : Pt), s.WarmedH vm₁ ∧ Stand p l e R s m args below meth c B.U B.locs B.cells B.slots ∧ Post ⟨T.setVm vm₁, locs, cells, slots⟩ (Value.ref b :: argsL).toArray v B ∧
      ∀ target, Steps p.tables e below (B.U.setTop { g with pc := g.pc + 3, stack := v.toList ++ rest }) target → Steps p.tables e below (T.setTop g) target) ∨
    (∃ (q : Addr) (vm₁ : Vm) (B : Pt), s.WarmedH vm₁ ∧ Stand p l e R s m args below meth c B.U B.locs B.cells B.slots ∧ PostX ⟨T.setVm vm₁, locs, cells, slots⟩ (Value.ref b :: argsL).toArray q B ∧
      Steps p.tables e below (T.setTop g) ((B.U.setTop { g with stack := rest }).pushFrame (.throwing q))) := by
  obtain ⟨mk, methM, hnamed, hmethM, hstM, habM⟩ := Cond.instanceMethod_spec hinst
  obtain ⟨methM', cM, hmethM', -, -, -, -, -, -, hsigM⟩ := Cond.code_spec hnamed hcode
  cases hmethM.symm.trans hmethM'
  obtain ⟨c2, r2, m2, q1, q2, q3, q4, kP, hkP, hkPi⟩ := Cond.selects_spec hsel
  cases hcls.symm.trans q1
  cases (State.methodFound?_of_named hnamed hy).symm.trans q2
  cases hnamed.symm.trans q3
  have hselP : selectMethod e.platform s.vm cellB.cls mk = .method mk := by rw [Launch.admits_selectMethod X.admits]; exact q4
  obtain ⟨vm₁, X₁, hstep₁⟩ := X.invokevirtual hexec hown hlink hnamed hmethM hstM hkP hkPi hy (a := b) (cell := cellB) hcell
    (fun z h => by rw [h] at hobj; cases hobj) hselP hmethM habM hkP hkPi (g := g) hg (argsL := argsL) (rest := rest) (hlen _ hsigM) hstack hdg
  rcases hK m meth c ⟨T.setVm vm₁, locs, cells, slots⟩ { g with stack := rest } (.invokevirtual index) mk (Value.ref b :: argsL).toArray X₁ hg hsize hdg hW (X₁.named hnamed) (hpre vm₁ X₁.warmed) with ⟨v, B, X', hpost, hsteps⟩ | ⟨q, B, X', hpost, hsteps⟩
  · exact Or.inl ⟨v, vm₁, B, X₁.warmed, X', hpost, fun target h => hstep₁ _ fun acts => by rw [doInvoke_state]; exact hsteps.trans h⟩
  · exact Or.inr ⟨q, vm₁, B, X₁.warmed, X', hpost, hstep₁ _ fun acts => by rw [doInvoke_state]; exact hsteps⟩
theorem vx_callS (X : Stand p l e R s m args below meth c T locs cells slots) (hexec : p.tables.exec = Jvm.exec) {own : String} {index : Nat} {y : MethodName} {bytes : ByteArray} {maxL : Nat} {ret : Option FieldType}
    (hown : s.vm.findClass own = some m.cls) (hlink : (Cond.methodLink own index y).before args s = true) (hstat : (Cond.static y).before args s = true) (hinit : (Cond.initialized y.cls).before args s = true)
    (hcode : (Cond.code y bytes maxL ret).before args s = true) (hy : y.cls ≠ "java/lang/invoke/MethodHandle" ∧ y.cls ≠ "java/lang/invoke/VarHandle")
    {W9 : Nat} {Pre : Pt → Array Value → Prop} {Post : Pt → Array Value → Option Value → Pt → Prop} {PostX : Pt → Array Value → Addr → Pt → Prop} (hK : vx_Back l R p e below s args y 3 W9 Pre Post PostX)
    {g : JFrame} (hg : g.method = m) (hsize : g.locals.size = c.maxLocals) {argsL rest : List Value} (hlen : ∀ sig, parseMethodDescriptor y.desc = some sig → argsL.length = sig.parameters.length)
    (hstack : g.stack = argsL.reverse ++ rest) (hW : 2 * g.monitorRoom + (rest.map fun v => v.category).sum ≤ W9) (hdg : decode c.code g.pc = .ok (.invokestatic index, 3))
    (hpre : ∀ vm₁, s.WarmedH vm₁ → Pre ⟨T.setVm vm₁, locs, cells, slots⟩ argsL.toArray) :
    (∃ (v : Option Value) (vm₁ : Vm) (B : Pt), s.WarmedH vm₁ ∧ Stand p l e R s m args below meth c B.U B.locs B.cells B.slots ∧ Post ⟨T.setVm vm₁, locs, cells, slots⟩ argsL.toArray v B ∧
      ∀ target, Steps p.tables e below (B.U.setTop { g with pc := g.pc + 3, stack := v.toList ++ rest }) target → Steps p.tables e below (T.setTop g) target) ∨
    (∃ (q : Addr) (vm₁ : Vm) (B : Pt), s.WarmedH vm₁ ∧ Stand p l e R s m args below meth c B.U B.locs B.cells B.slots ∧ PostX ⟨T.setVm vm₁, locs, cells, slots⟩ argsL.toArray q B ∧
      Steps p.tables e below (T.setTop g) ((B.U.setTop { g with stack := rest }).pushFrame (.throwing q))) := by
  obtain ⟨mk, hnamed⟩ := Cond.code_named hcode
  obtain ⟨methM, cM, hmethM, -, -, -, -, -, -, hsigM⟩ := Cond.code_spec hnamed hcode
  have hstatic : methM.isStatic = true := Cond.static_spec hnamed hmethM hstat
  obtain ⟨kP, hkP, -⟩ := className_of_methodNamed hnamed
  have hinitP : kP.init = .initialized := Cond.initialized_spec (findClass_of_methodNamed hnamed) hkP hinit
  obtain ⟨vm₁, X₁, hstep₁⟩ := X.invokestatic hexec hown hlink hnamed hmethM hstatic hkP hinitP hy (g := g) hg (argsL := argsL) (rest := rest) (hlen _ hsigM) hstack hdg
  rcases hK m meth c ⟨T.setVm vm₁, locs, cells, slots⟩ { g with stack := rest } (.invokestatic index) mk argsL.toArray X₁ hg hsize hdg hW (X₁.named hnamed) (hpre vm₁ X₁.warmed) with ⟨v, B, X', hpost, hsteps⟩ | ⟨q, B, X', hpost, hsteps⟩
  · exact Or.inl ⟨v, vm₁, B, X₁.warmed, X', hpost, fun target h => hstep₁ _ fun acts => by rw [doInvoke_state]; exact hsteps.trans h⟩
  · exact Or.inr ⟨q, vm₁, B, X₁.warmed, X', hpost, hstep₁ _ fun acts => by rw [doInvoke_state]; exact hsteps⟩
end Calls
theorem vx_cls {s : State} {T : State} {vm₁ : Vm} {E : String} {k : ClassId} (hW : s.WarmedH vm₁) (h : (T.setVm vm₁).vm.findClass E = some k) : s.vm.findClass E = some k := by
  have h1 : vm₁.findClass E = some k := h
  rw [hW.alike.findClass] at h1
  exact h1
/-- the method's frame g, with q thrown over it -/
def vx_W (p : Program) (l : Launch) (e : Env) (R : Room) (s : State) (m : MethodId) (args : Array Value) (below : List Frame) (meth : Method) (c : Code) (H : Heap) (locs : List Loc) (cells slots : Nat) (Q : State → Prop) (g : JFrame) (q : Addr) : Prop :=
  ∀ T : State, T.heap = H → Stand p l e R s m args below meth c T locs cells slots → ∃ t, Steps p.tables e below ((T.setTop g).pushFrame (.throwing q)) t ∧ Q t
def vx_Run (p : Program) (l : Launch) (e : Env) (R : Room) (s : State) (m : MethodId) (args : Array Value) (below : List Frame) (meth : Method) (c : Code) (H : Heap) (locs : List Loc) (cells slots mc ms : Nat) (g : JFrame) (rest : List Value) (Qa : State → Outcome → State → Prop) (XC : String → State → State → Prop) (free : Addr → Prop) : Prop :=
  ∀ T : State, T.heap = H → Stand p l e R s m args below meth c T locs cells slots →
    (∃ (v : Option Value) (st₀ t T' : State) (L : List Loc), st₀.heap = H ∧ Stand p l e R s m args below meth c T' (locs ++ L) (cells + mc) (slots + ms) ∧ (∀ q ∈ L, free q.base) ∧ T'.heap = t.heap ∧ T'.vm = t.vm ∧ Qa st₀ (.returned v) t ∧
      Goes p e below T g T' { g with pc := g.pc + 3, stack := v.toList ++ rest }) ∨
    (∃ (q : Addr) (st₀ t T' : State) (L : List Loc) (E : String) (ce : Cell), st₀.heap = H ∧ Stand p l e R s m args below meth c T' (locs ++ L) (cells + mc) (slots + ms) ∧ (∀ z ∈ L, free z.base) ∧ T'.heap = t.heap ∧ T'.vm = t.vm ∧ XC E st₀ t ∧ t.heap[q]? = some ce ∧ ce.vm = .none ∧ s.vm.findClass E = some ce.cls ∧
      Steps p.tables e below (T.setTop g) ((T'.setTop { g with stack := rest }).pushFrame (.throwing q)))
def vx_X {S : Type} (px : S → Prop) (B : String → S → State → Prop) (A : Nat → Prop) : String → State → State → Prop := fun E st t => ∃ u : S, px u ∧ B E u t ∧ va_F A st t
section Runs
variable {p : Program} {l : Launch} {e : Env} {R : Room} {s : State} {m : MethodId} {args : Array Value} {below : List Frame} {meth : Method} {c : Code} {H : Heap} {locs : List Loc} {cells slots : Nat}
variable {y : MethodName} {bytes cc : ByteArray} {maxL nL mc ms n index : Nat} {ret : Option FieldType} {ws : List Cond} {rm : Room} {Pc : Array Value → State → Prop} {Qc : Array Value → State → Outcome → State → Prop} {XC : String → State → State → Prop} {free : Addr → Prop} {Ts : List Cond} {own C : String} {b : Addr} {As rest : List Value} {g : JFrame}
theorem vx_callBack (cb : CallB R s args own index y bytes maxL ret ws rm mc ms n) (hM : vx_Met l y ws rm Pc Qc XC mc ms free) (hbl : FrameBlind Pc) : vx_Back l R p e below s args y 3 8 (PreOf R mc ms Pc) (PostOf Qc mc ms free) (vx_Post XC mc ms free) := by
  obtain ⟨hrc, hrs, hfr, hlo, hws, hcw, -, hini, -⟩ := cb
  exact vx_back (bytes := bytes) (maxL := maxL) (ret := ret) hM hbl hrc hrs hfr hlo hws hcw (fun a' U hW => word_at hW (Or.inl (by first | rfl | simp [Cond.onTables, Cond.keeps, Cond.steady])) hini)
theorem vx_runV (S : CallFix p m c cc nL s args Ts own) (hM : vx_Met l y ws rm Pc Qc XC mc ms free) (cw : CallW R s args own C index y bytes maxL ret ws rm mc ms n) (hp : PreV s H C b Pc As)
    (hg : g.method = m) (hn : As.length = n) (hsize : g.locals.size = nL) (hstack : g.stack = As.reverse ++ .ref b :: rest) (hW : 2 * g.monitorRoom + (rest.map fun v => v.category).sum ≤ 8) (hdg : decode cc g.pc = .ok (.invokevirtual index, 3)) (hf : cells + mc ≤ R.cells ∧ slots + ms ≤ R.slots) :
    vx_Run p l e R s m args below meth c H locs cells slots mc ms g rest (Qc (Value.ref b :: As).toArray) XC free := by
  have hK : vx_Back l R p e below s args y 3 8 (PreOf R mc ms Pc) (PostOf Qc mc ms free) (vx_Post XC mc ms free) := vx_callBack cw.1 hM hp.1
  obtain ⟨⟨-, -, -, -, -, -, hcode, -, hy, hlen, hl⟩, hin, hse⟩ := cw
  obtain ⟨hx, hb, hml, ho, -⟩ := S
  obtain ⟨-, ⟨cellB, hcB, hoB, hclB⟩, hPc⟩ := hp
  intro T hT X
  rcases vx_callV X hx (C := C) (bytes := bytes) (maxL := maxL) (ret := ret) ho hl hin hse hcode hy hK (by rw [hT]; exact hcB) hoB hclB hg (hsize.trans hml.symm) (argsL := As) (rest := rest) (fun sig h => hn.trans (hlen sig h)) hstack hW (by rw [hb]; exact hdg)
    (fun vm₁ hW₁ => ⟨hf.1, hf.2, hPc (T.setVm vm₁) hT hW₁⟩) with ⟨v, vm₁, ⟨U', l2, c2, s2⟩, hW₁, X', ⟨g', mk, t, L, e1, e2, hq, h1, hL, h2, h3⟩, st⟩ | ⟨q, vm₁, ⟨U', l2, c2, s2⟩, hW₁, X', ⟨g', mk, t, L, E, ce, e1, e2, hq, hce, hcv, hcl, h1, hL, h2, h3⟩, st⟩
  · dsimp only [Pt.U, Pt.locs, Pt.cells, Pt.slots] at X' e1 e2 h1 h2 h3 st
    subst h1; subst h2; subst h3
    exact Or.inl ⟨v, (T.setVm vm₁).calling g' mk (Value.ref b :: As).toArray, t, U', L, hT, X', hL, e1, e2, hq, st⟩
  · dsimp only [Pt.U, Pt.locs, Pt.cells, Pt.slots] at X' e1 e2 h1 h2 h3 st hcl
    subst h1; subst h2; subst h3
    exact Or.inr ⟨q, (T.setVm vm₁).calling g' mk (Value.ref b :: As).toArray, t, U', L, E, ce, hT, X', hL, e1, e2, hq, hce, hcv, vx_cls hW₁ hcl, st⟩
theorem vx_runS (S : CallFix p m c cc nL s args Ts own) (hM : vx_Met l y ws rm Pc Qc XC mc ms free) (cw : CallB R s args own index y bytes maxL ret ws rm mc ms n ∧ (Cond.static y).before args s = true) (hp : PreS s H Pc As)
    (hg : g.method = m) (hn : As.length = n) (hsize : g.locals.size = nL) (hstack : g.stack = As.reverse ++ rest) (hW : 2 * g.monitorRoom + (rest.map fun v => v.category).sum ≤ 8) (hdg : decode cc g.pc = .ok (.invokestatic index, 3)) (hf : cells + mc ≤ R.cells ∧ slots + ms ≤ R.slots) :
    vx_Run p l e R s m args below meth c H locs cells slots mc ms g rest (Qc As.toArray) XC free := by
  have hK : vx_Back l R p e below s args y 3 8 (PreOf R mc ms Pc) (PostOf Qc mc ms free) (vx_Post XC mc ms free) := vx_callBack cw.1 hM hp.1
  obtain ⟨⟨-, -, -, -, -, -, hcode, hini, hy, hlen, hl⟩, hstt⟩ := cw
  obtain ⟨hx, hb, hml, ho, -⟩ := S
  intro T hT X
  rcases vx_callS X hx (bytes := bytes) (maxL := maxL) (ret := ret) ho hl hstt hini hcode hy hK hg (hsize.trans hml.symm) (argsL := As) (rest := rest) (fun sig h => hn.trans (hlen sig h)) hstack hW (by rw [hb]; exact hdg)
    (fun vm₁ hW₁ => ⟨hf.1, hf.2, hp.2 (T.setVm vm₁) hT hW₁⟩) with ⟨v, vm₁, ⟨U', l2, c2, s2⟩, hW₁, X', ⟨g', mk, t, L, e1, e2, hq, h1, hL, h2, h3⟩, st⟩ | ⟨q, vm₁, ⟨U', l2, c2, s2⟩, hW₁, X', ⟨g', mk, t, L, E, ce, e1, e2, hq, hce, hcv, hcl, h1, hL, h2, h3⟩, st⟩
  · dsimp only [Pt.U, Pt.locs, Pt.cells, Pt.slots] at X' e1 e2 h1 h2 h3 st
    subst h1; subst h2; subst h3
    exact Or.inl ⟨v, (T.setVm vm₁).calling g' mk As.toArray, t, U', L, hT, X', hL, e1, e2, hq, st⟩
  · dsimp only [Pt.U, Pt.locs, Pt.cells, Pt.slots] at X' e1 e2 h1 h2 h3 st hcl
    subst h1; subst h2; subst h3
    exact Or.inr ⟨q, (T.setVm vm₁).calling g' mk As.toArray, t, U', L, E, ce, hT, X', hL, e1, e2, hq, hce, hcv, vx_cls hW₁ hcl, st⟩
end Runs
section Rows
variable {p : Program} {l : Launch} {e : Env} {R : Room} {s : State} {m : MethodId} {args : Array Value} {below : List Frame} {meth : Method} {c : Code} {H : Heap} {locs : List Loc} {cells slots : Nat} {Q : State → Prop}
variable {mc ms : Nat} {free : Addr → Prop} {A0 A1 : Nat → Prop} {H0 : Heap} {a : Array Value} {pc : Nat} {ls : Array Slot} {st0 rest : List Value}
theorem vx_keep {st₀ t T' : State} {L : List Loc} (h0 : st₀.heap = H) (e1 : T'.heap = t.heap) (hS : va_S A0 H0 H locs) (hA : ∀ q, q < H.size → A1 q → A0 q) (hf : ∀ q, free q → A0 q) (hL : ∀ q ∈ L, free q.base) (hF : va_F A1 st₀ t) :
    H.size ≤ T'.heap.size ∧ (∀ q : Nat, q < H.size → ¬ A1 q → T'.heap[q]? = H[q]?) ∧ va_S A0 H0 T'.heap (locs ++ L) := by
  obtain ⟨hz, hk⟩ := hF
  rw [h0] at hz hk
  exact ⟨by rw [e1]; exact hz, fun q h1 h2 => by rw [e1]; exact hk q h1 h2,
    ⟨Nat.le_trans hS.1 (by rw [e1]; exact hz), fun q h1 h2 => by rw [e1, hk q (Nat.lt_of_lt_of_le h1 hS.1) (fun z => h2 (hA q (Nat.lt_of_lt_of_le h1 hS.1) z))]; exact hS.2.1 q h1 h2, fun q hq => by
      rcases List.mem_append.mp hq with h | h
      · exact hS.2.2 q h
      · exact hf _ (hL q h)⟩⟩
theorem vx_calli {S SX : Type} {post : Int32 → S → Prop} {px : SX → Prop} {B : S → State → Prop} {BX : String → SX → State → Prop} {AX : Nat → Prop} (hr : vx_Run p l e R s m args below meth c H locs cells slots mc ms (F0 m pc ls st0) rest (va_Qi post B A1 a) (vx_X px BX AX) free) (hS : va_S A0 H0 H locs) (hA : ∀ q, q < H.size → A1 q → A0 q) (hf : ∀ q, free q → A0 q) (hAX : ∀ q, q < H.size → AX q → A0 q)
    (kx : ∀ (E : String) (ce : Cell) (q9 : Addr) (u : SX) (t : State) (H1 : Heap) (locs1 : List Loc), t.heap = H1 → s.vm.Alike t.vm → px u → BX E u t → H.size ≤ H1.size → (∀ q : Nat, q < H.size → ¬ AX q → H1[q]? = H[q]?) → va_S A0 H0 H1 locs1 → H1[q9]? = some ce → ce.vm = .none → s.vm.findClass E = some ce.cls → vx_W p l e R s m args below meth c H1 locs1 (cells + mc) (slots + ms) Q (F0 m pc ls rest) q9)
    (kk : ∀ (r : Int32) (u : S) (t : State) (H1 : Heap) (locs1 : List Loc), t.heap = H1 → s.vm.Alike t.vm → post r u → B u t → H.size ≤ H1.size → (∀ q : Nat, q < H.size → ¬ A1 q → H1[q]? = H[q]?) → va_S A0 H0 H1 locs1 → W p l e R s m args below meth c H1 locs1 (cells + mc) (slots + ms) Q (F0 m (pc + 3) ls (.int r :: rest))) : W p l e R s m args below meth c H locs cells slots Q (F0 m pc ls st0) := by
  intro T hT X
  rcases hr T hT X with ⟨v, st₀, t, T', L, h0, X', hL, e1, e2, ⟨⟨r, u, hv, hp, hb⟩, hF⟩, st⟩ | ⟨q, st₀, t, T', L, E, ce, h0, X', hL, e1, e2, ⟨u, hp, hb, hF⟩, hce, hcv, hcl, st⟩
  · cases hv
    obtain ⟨k1, k2, k3⟩ := vx_keep h0 e1 hS hA hf hL hF
    obtain ⟨t2, a1, b1⟩ := kk r u t T'.heap (locs ++ L) e1.symm (by rw [← e2]; exact X'.warmed.alike) hp hb k1 k2 k3 T' rfl X'
    exact ⟨t2, st t2 a1, b1⟩
  · obtain ⟨k1, k2, k3⟩ := vx_keep h0 e1 hS hAX hf hL hF
    obtain ⟨t2, a1, b1⟩ := kx E ce q u t T'.heap (locs ++ L) e1.symm (by rw [← e2]; exact X'.warmed.alike) hp hb k1 k2 k3 (by rw [e1]; exact hce) hcv hcl T' rfl X'
    exact ⟨t2, st.trans a1, b1⟩
theorem vx_calll {S SX : Type} {post : Int64 → S → Prop} {px : SX → Prop} {B : S → State → Prop} {BX : String → SX → State → Prop} {AX : Nat → Prop} (hr : vx_Run p l e R s m args below meth c H locs cells slots mc ms (F0 m pc ls st0) rest (va_Ql post B A1 a) (vx_X px BX AX) free) (hS : va_S A0 H0 H locs) (hA : ∀ q, q < H.size → A1 q → A0 q) (hf : ∀ q, free q → A0 q) (hAX : ∀ q, q < H.size → AX q → A0 q)
    (kx : ∀ (E : String) (ce : Cell) (q9 : Addr) (u : SX) (t : State) (H1 : Heap) (locs1 : List Loc), t.heap = H1 → s.vm.Alike t.vm → px u → BX E u t → H.size ≤ H1.size → (∀ q : Nat, q < H.size → ¬ AX q → H1[q]? = H[q]?) → va_S A0 H0 H1 locs1 → H1[q9]? = some ce → ce.vm = .none → s.vm.findClass E = some ce.cls → vx_W p l e R s m args below meth c H1 locs1 (cells + mc) (slots + ms) Q (F0 m pc ls rest) q9)
    (kk : ∀ (r : Int64) (u : S) (t : State) (H1 : Heap) (locs1 : List Loc), t.heap = H1 → s.vm.Alike t.vm → post r u → B u t → H.size ≤ H1.size → (∀ q : Nat, q < H.size → ¬ A1 q → H1[q]? = H[q]?) → va_S A0 H0 H1 locs1 → W p l e R s m args below meth c H1 locs1 (cells + mc) (slots + ms) Q (F0 m (pc + 3) ls (.long r :: rest))) : W p l e R s m args below meth c H locs cells slots Q (F0 m pc ls st0) := by
  intro T hT X
  rcases hr T hT X with ⟨v, st₀, t, T', L, h0, X', hL, e1, e2, ⟨⟨r, u, hv, hp, hb⟩, hF⟩, st⟩ | ⟨q, st₀, t, T', L, E, ce, h0, X', hL, e1, e2, ⟨u, hp, hb, hF⟩, hce, hcv, hcl, st⟩
  · cases hv
    obtain ⟨k1, k2, k3⟩ := vx_keep h0 e1 hS hA hf hL hF
    obtain ⟨t2, a1, b1⟩ := kk r u t T'.heap (locs ++ L) e1.symm (by rw [← e2]; exact X'.warmed.alike) hp hb k1 k2 k3 T' rfl X'
    exact ⟨t2, st t2 a1, b1⟩
  · obtain ⟨k1, k2, k3⟩ := vx_keep h0 e1 hS hAX hf hL hF
    obtain ⟨t2, a1, b1⟩ := kx E ce q u t T'.heap (locs ++ L) e1.symm (by rw [← e2]; exact X'.warmed.alike) hp hb k1 k2 k3 (by rw [e1]; exact hce) hcv hcl T' rfl X'
    exact ⟨t2, st.trans a1, b1⟩
theorem vx_callf {S SX : Type} {post : UInt32 → S → Prop} {px : SX → Prop} {B : S → State → Prop} {BX : String → SX → State → Prop} {AX : Nat → Prop} (hr : vx_Run p l e R s m args below meth c H locs cells slots mc ms (F0 m pc ls st0) rest (va_Qf post B A1 a) (vx_X px BX AX) free) (hS : va_S A0 H0 H locs) (hA : ∀ q, q < H.size → A1 q → A0 q) (hf : ∀ q, free q → A0 q) (hAX : ∀ q, q < H.size → AX q → A0 q)
    (kx : ∀ (E : String) (ce : Cell) (q9 : Addr) (u : SX) (t : State) (H1 : Heap) (locs1 : List Loc), t.heap = H1 → s.vm.Alike t.vm → px u → BX E u t → H.size ≤ H1.size → (∀ q : Nat, q < H.size → ¬ AX q → H1[q]? = H[q]?) → va_S A0 H0 H1 locs1 → H1[q9]? = some ce → ce.vm = .none → s.vm.findClass E = some ce.cls → vx_W p l e R s m args below meth c H1 locs1 (cells + mc) (slots + ms) Q (F0 m pc ls rest) q9)
    (kk : ∀ (r : UInt32) (u : S) (t : State) (H1 : Heap) (locs1 : List Loc), t.heap = H1 → s.vm.Alike t.vm → post r u → B u t → H.size ≤ H1.size → (∀ q : Nat, q < H.size → ¬ A1 q → H1[q]? = H[q]?) → va_S A0 H0 H1 locs1 → W p l e R s m args below meth c H1 locs1 (cells + mc) (slots + ms) Q (F0 m (pc + 3) ls (.float r :: rest))) : W p l e R s m args below meth c H locs cells slots Q (F0 m pc ls st0) := by
  intro T hT X
  rcases hr T hT X with ⟨v, st₀, t, T', L, h0, X', hL, e1, e2, ⟨⟨r, u, hv, hp, hb⟩, hF⟩, st⟩ | ⟨q, st₀, t, T', L, E, ce, h0, X', hL, e1, e2, ⟨u, hp, hb, hF⟩, hce, hcv, hcl, st⟩
  · cases hv
    obtain ⟨k1, k2, k3⟩ := vx_keep h0 e1 hS hA hf hL hF
    obtain ⟨t2, a1, b1⟩ := kk r u t T'.heap (locs ++ L) e1.symm (by rw [← e2]; exact X'.warmed.alike) hp hb k1 k2 k3 T' rfl X'
    exact ⟨t2, st t2 a1, b1⟩
  · obtain ⟨k1, k2, k3⟩ := vx_keep h0 e1 hS hAX hf hL hF
    obtain ⟨t2, a1, b1⟩ := kx E ce q u t T'.heap (locs ++ L) e1.symm (by rw [← e2]; exact X'.warmed.alike) hp hb k1 k2 k3 (by rw [e1]; exact hce) hcv hcl T' rfl X'
    exact ⟨t2, st.trans a1, b1⟩
theorem vx_calld {S SX : Type} {post : UInt64 → S → Prop} {px : SX → Prop} {B : S → State → Prop} {BX : String → SX → State → Prop} {AX : Nat → Prop} (hr : vx_Run p l e R s m args below meth c H locs cells slots mc ms (F0 m pc ls st0) rest (va_Qd post B A1 a) (vx_X px BX AX) free) (hS : va_S A0 H0 H locs) (hA : ∀ q, q < H.size → A1 q → A0 q) (hf : ∀ q, free q → A0 q) (hAX : ∀ q, q < H.size → AX q → A0 q)
    (kx : ∀ (E : String) (ce : Cell) (q9 : Addr) (u : SX) (t : State) (H1 : Heap) (locs1 : List Loc), t.heap = H1 → s.vm.Alike t.vm → px u → BX E u t → H.size ≤ H1.size → (∀ q : Nat, q < H.size → ¬ AX q → H1[q]? = H[q]?) → va_S A0 H0 H1 locs1 → H1[q9]? = some ce → ce.vm = .none → s.vm.findClass E = some ce.cls → vx_W p l e R s m args below meth c H1 locs1 (cells + mc) (slots + ms) Q (F0 m pc ls rest) q9)
    (kk : ∀ (r : UInt64) (u : S) (t : State) (H1 : Heap) (locs1 : List Loc), t.heap = H1 → s.vm.Alike t.vm → post r u → B u t → H.size ≤ H1.size → (∀ q : Nat, q < H.size → ¬ A1 q → H1[q]? = H[q]?) → va_S A0 H0 H1 locs1 → W p l e R s m args below meth c H1 locs1 (cells + mc) (slots + ms) Q (F0 m (pc + 3) ls (.double r :: rest))) : W p l e R s m args below meth c H locs cells slots Q (F0 m pc ls st0) := by
  intro T hT X
  rcases hr T hT X with ⟨v, st₀, t, T', L, h0, X', hL, e1, e2, ⟨⟨r, u, hv, hp, hb⟩, hF⟩, st⟩ | ⟨q, st₀, t, T', L, E, ce, h0, X', hL, e1, e2, ⟨u, hp, hb, hF⟩, hce, hcv, hcl, st⟩
  · cases hv
    obtain ⟨k1, k2, k3⟩ := vx_keep h0 e1 hS hA hf hL hF
    obtain ⟨t2, a1, b1⟩ := kk r u t T'.heap (locs ++ L) e1.symm (by rw [← e2]; exact X'.warmed.alike) hp hb k1 k2 k3 T' rfl X'
    exact ⟨t2, st t2 a1, b1⟩
  · obtain ⟨k1, k2, k3⟩ := vx_keep h0 e1 hS hAX hf hL hF
    obtain ⟨t2, a1, b1⟩ := kx E ce q u t T'.heap (locs ++ L) e1.symm (by rw [← e2]; exact X'.warmed.alike) hp hb k1 k2 k3 (by rw [e1]; exact hce) hcv hcl T' rfl X'
    exact ⟨t2, st.trans a1, b1⟩
theorem vx_callv {S SX : Type} {post : S → Prop} {px : SX → Prop} {B : S → State → Prop} {BX : String → SX → State → Prop} {AX : Nat → Prop} (hr : vx_Run p l e R s m args below meth c H locs cells slots mc ms (F0 m pc ls st0) rest (va_Qv post B A1 a) (vx_X px BX AX) free) (hS : va_S A0 H0 H locs) (hA : ∀ q, q < H.size → A1 q → A0 q) (hf : ∀ q, free q → A0 q) (hAX : ∀ q, q < H.size → AX q → A0 q)
    (kx : ∀ (E : String) (ce : Cell) (q9 : Addr) (u : SX) (t : State) (H1 : Heap) (locs1 : List Loc), t.heap = H1 → s.vm.Alike t.vm → px u → BX E u t → H.size ≤ H1.size → (∀ q : Nat, q < H.size → ¬ AX q → H1[q]? = H[q]?) → va_S A0 H0 H1 locs1 → H1[q9]? = some ce → ce.vm = .none → s.vm.findClass E = some ce.cls → vx_W p l e R s m args below meth c H1 locs1 (cells + mc) (slots + ms) Q (F0 m pc ls rest) q9)
    (kk : ∀ (u : S) (t : State) (H1 : Heap) (locs1 : List Loc), t.heap = H1 → s.vm.Alike t.vm → post u → B u t → H.size ≤ H1.size → (∀ q : Nat, q < H.size → ¬ A1 q → H1[q]? = H[q]?) → va_S A0 H0 H1 locs1 → W p l e R s m args below meth c H1 locs1 (cells + mc) (slots + ms) Q (F0 m (pc + 3) ls (rest))) : W p l e R s m args below meth c H locs cells slots Q (F0 m pc ls st0) := by
  intro T hT X
  rcases hr T hT X with ⟨v, st₀, t, T', L, h0, X', hL, e1, e2, ⟨⟨u, hv, hp, hb⟩, hF⟩, st⟩ | ⟨q, st₀, t, T', L, E, ce, h0, X', hL, e1, e2, ⟨u, hp, hb, hF⟩, hce, hcv, hcl, st⟩
  · cases hv
    obtain ⟨k1, k2, k3⟩ := vx_keep h0 e1 hS hA hf hL hF
    obtain ⟨t2, a1, b1⟩ := kk u t T'.heap (locs ++ L) e1.symm (by rw [← e2]; exact X'.warmed.alike) hp hb k1 k2 k3 T' rfl X'
    exact ⟨t2, st t2 a1, b1⟩
  · obtain ⟨k1, k2, k3⟩ := vx_keep h0 e1 hS hAX hf hL hF
    obtain ⟨t2, a1, b1⟩ := kx E ce q u t T'.heap (locs ++ L) e1.symm (by rw [← e2]; exact X'.warmed.alike) hp hb k1 k2 k3 (by rw [e1]; exact hce) hcv hcl T' rfl X'
    exact ⟨t2, st.trans a1, b1⟩
/-- caught by the row x of this method's table; the rows ahead don't take it -/
theorem vx_catch {own name : String} {E : String} {ce : Cell} {q : Addr} (hown : s.vm.findClass own = some m.cls) (pre : List ExceptionTableEntry) (x : ExceptionTableEntry) (suf : List ExceptionTableEntry) (hsplit : c.exceptionTable.toList = pre ++ x :: suf)
    (hpass : ∀ z ∈ pre, covers z pc = false ∨ (z.catchType ≠ 0 ∧ ∃ nm : String, (Cond.classLink own z.catchType nm).before args s = true ∧ va_Nc E nm s)) (hx : covers x pc = true) (h0 : x.catchType ≠ 0)
    (hlink : (Cond.classLink own x.catchType name).before args s = true) (hcast : (Cond.castable E name).before args s = true) (hcell : H[q]? = some ce) (hv : ce.vm = .none) (hcl : s.vm.findClass E = some ce.cls)
    (kk : W p l e R s m args below meth c H locs cells slots Q (F0 m x.handlerPc ls [.ref q])) : vx_W p l e R s m args below meth c H locs cells slots Q (F0 m pc ls rest) q := by
  intro T hT X
  have hpl : e.platform.magicAccessors = ({} : Platform).magicAccessors := by rw [X.admits.platform]
  obtain ⟨c3, c4, hc3, hc4, hasg⟩ := Cond.castable_spec hcast
  cases Option.some.inj (hc3.symm.trans hcl)
  obtain ⟨c5, hc5, hcl5⟩ := Cond.classLink_spec hown hlink e.platform hpl
  cases Option.some.inj (hc4.symm.trans hc5)
  obtain ⟨vm', X', st⟩ := X.thenCaughtThrough q (g := F0 m pc ls rest) rfl (Steps.refl _) (by rw [hT]; exact hcell) (by rw [hv]; rfl) (by obtain ⟨k9, h9, -⟩ := Vm.findClass_spec hcl; exact ⟨k9, h9⟩) pre x suf hsplit
    (fun z hz => by
      rcases hpass z hz with h | ⟨hz0, nm, hl1, hn1⟩
      · exact Or.inl h
      · obtain ⟨c6, hc6, hcl6⟩ := Cond.classLink_spec hown hl1 e.platform hpl
        obtain ⟨a8, b8, h1, h2, h3⟩ := hn1
        cases Option.some.inj (h1.symm.trans hcl)
        cases Option.some.inj (h2.symm.trans hc6)
        exact Or.inr ⟨hz0, _, hcl6, h3⟩) hx (Or.inr ⟨h0, c4, hcl5, hasg⟩)
  obtain ⟨t, a1, b1⟩ := kk (T.setVm vm') hT X'
  exact ⟨t, st.trans a1, b1⟩
end Rows
section Ends
variable {p : Program} {l : Launch} {e : Env} {R : Room} {s : State} {m : MethodId} {args : Array Value} {below : List Frame} {meth : Method} {c : Code} {H : Heap} {locs : List Loc} {cells slots : Nat} {Q : State → Prop}
variable {mc ms : Nat} {free : Addr → Prop} {A0 A1 : Nat → Prop} {H0 : Heap} {a : Array Value} {ls : Array Slot} {st0 rest : List Value}
variable {Qc : Array Value → State → Outcome → State → Prop} {XC : String → State → State → Prop}
/-- what a body that may throw owes at its end -/
def vx_MQ (below : List Frame) (Qc : Array Value → State → Outcome → State → Prop) (XC : String → State → State → Prop) (a : Array Value) (s : State) (mc ms : Nat) (free : Addr → Prop) : State → Prop := fun t =>
  ∃ o, t.status = .running ∧ Ended t below o ∧ vx_Q Qc XC mc ms free a s o t
theorem vx_ret {g : JFrame} {mc ms : Nat} (k : W p l e R s m args below meth c H locs cells slots (MQ below Qc args s mc ms free) g) : W p l e R s m args below meth c H locs cells slots (vx_MQ below Qc XC args s mc ms free) g := by
  intro T hT X
  obtain ⟨t, a1, o, b1, b2, b3, b4⟩ := k T hT X
  exact ⟨t, a1, o, b1, b2, Or.inl ⟨b3, b4⟩⟩
/-- not caught here: it goes on to the caller -/
theorem vx_widen {g : JFrame} {q : Addr} {k n : Nat} (h1 : cells ≤ k) (h2 : slots ≤ n) (kk : vx_W p l e R s m args below meth c H locs k n Q g q) : vx_W p l e R s m args below meth c H locs cells slots Q g q := fun T hT X => kk T hT (stand_widen X h1 h2)
theorem vx_out {pc : Nat} {E : String} {ce : Cell} {q : Addr} {mc ms : Nat} (hout : ∀ x ∈ c.exceptionTable.toList, covers x pc = false) (hlocks : meth.locks = false) (hcell : H[q]? = some ce) (hv : ce.vm = .none) (hcl : s.vm.findClass E = some ce.cls)
    (hx : ∀ t : State, t.heap = H → s.vm.Alike t.vm → XC E s t) (hf : ∀ z ∈ locs, free z.base) (hc : cells ≤ mc) (hs : slots ≤ ms) :
    vx_W p l e R s m args below meth c H locs cells slots (vx_MQ below Qc XC args s mc ms free) (F0 m pc ls rest) q := by
  intro T hT X
  obtain ⟨st1, hrun, hend, hW, hsm⟩ := X.leaveThrown q (g := F0 m pc ls rest) rfl rfl rfl hout hlocks
  have hcell9 : (T.setFrames (.throwing q :: below)).heap[q]? = some ce := by
    show T.heap[q]? = some ce
    rw [hT]; exact hcell
  exact ⟨_, st1, .threw q, hrun, hend, Or.inr ⟨q, rfl, E, ce, locs, hx _ hT hW.alike, hcell9, hv, hcl, hW, hsm.mono hc hs, hf⟩⟩
theorem vx_frame {U : State} {k n : Nat} (h : s.sameButNew ({ U with vm := s.vm } : State) locs k n) : s.heap.size ≤ U.heap.size ∧ ∀ q : Nat, q < s.heap.size → (∀ z ∈ locs, z.base ≠ q) → U.heap[q]? = s.heap[q]? := by
  obtain ⟨-, h2, -, -, -, h6⟩ := h
  refine ⟨h2, fun q hq hz => ?_⟩
  obtain ⟨c9, e1, e2, e3, e4⟩ := h6 q _ (Array.getElem?_eq_getElem hq)
  have hs : c9.slots = (s.heap[q]).slots := Array.ext_getElem? fun i => e4 i fun hm => hz _ hm rfl
  have h9 : c9 = s.heap[q] := by
    rw [hs] at e2
    exact e2
  have e5 : U.heap[q]? = some c9 := e1
  rw [e5, h9, Array.getElem?_eq_getElem hq]
/-- the words of a throw but the four that speak of the heap -/
def vx_no (w : Cond) : Bool := decide (w ≠ .isRef (.static Bundle.tN "UNASSIGNED_STACK" Bundle.steD)) && decide (w ≠ .isRef (.static Bundle.tN "SUPPRESSED_SENTINEL" Bundle.listD)) && decide (w ≠ .laysStatic Bundle.tN "UNASSIGNED_STACK" Bundle.steD) && decide (w ≠ .laysStatic Bundle.tN "SUPPRESSED_SENTINEL" Bundle.listD)
def vx_at0 (own : String) (ic : Nat) (X : String) (names : List String) : List Cond := (Bundle.ownAtoms0 own ic X names).filter vx_no
def vx_atS (own : String) (ic : Nat) (X : String) (names : List String) : List Cond := (Bundle.ownAtoms own ic X names).filter vx_no
/-- a word that the tables alone decide, or a good one -/
def vx_ot (w : Cond) : Bool := w.onTables || goodWord w
theorem vx_ot_at {args a' : Array Value} {s U : State} {w : Cond} (hW : s.WarmedH U.vm) (hvm : s.vm = U.vm) (hg : vx_ot w = true) (h : w.before args s = true) : w.before a' U = true := by
  simp only [vx_ot, Bool.or_eq_true] at hg
  rcases hg with hg | hg
  · exact va_tabs hg hvm h
  · exact word_at hW (good_of_word hg) h
/-- a list's words: the good ones out of the method's own list, the others by premises of their own -/
theorem vx_hat {args : Array Value} {s : State} {L B : List Cond} (h1 : ∀ w ∈ L.filter goodWord, w.before args s = true) (h2 : ∀ w ∈ L.filter (fun w => !goodWord w), w ∈ B) (h3 : ∀ w ∈ B, w.before args s = true) : ∀ w ∈ L, w.before args s = true := by
  intro w hw
  by_cases g : goodWord w = true
  · exact h1 w (List.mem_filter.mpr ⟨hw, g⟩)
  · refine h3 w (h2 w (List.mem_filter.mpr ⟨hw, ?_⟩))
    show (!goodWord w) = true
    cases hgw : goodWord w
    · rfl
    · exact absurd hgw g
theorem vx_c {args : Array Value} {s : State} {w : Cond} {B : List Cond} (h : w.before args s = true) (t : ∀ w ∈ B, w.before args s = true) : ∀ w' ∈ w :: B, w'.before args s = true := fun w' h' => (List.mem_cons.mp h').elim (fun e => by rw [e]; exact h) (t w')
theorem vx_n {args : Array Value} {s : State} : ∀ w ∈ ([] : List Cond), w.before args s = true := fun _ h => nomatch h
theorem vx_own {args : Array Value} {s : State} {L : List Cond} (h1 : ∀ w ∈ L.filter vx_no, w.before args s = true)
    (hU : (Cond.isRef (.static Bundle.tN "UNASSIGNED_STACK" Bundle.steD)).before args s = true) (hN : (Cond.isRef (.static Bundle.tN "SUPPRESSED_SENTINEL" Bundle.listD)).before args s = true)
    (lU : (Cond.laysStatic Bundle.tN "UNASSIGNED_STACK" Bundle.steD).before args s = true) (lN : (Cond.laysStatic Bundle.tN "SUPPRESSED_SENTINEL" Bundle.listD).before args s = true) : ∀ w ∈ L, w.before args s = true := by
  intro w hw
  by_cases e1 : w = .isRef (.static Bundle.tN "UNASSIGNED_STACK" Bundle.steD)
  · rw [e1]; exact hU
  · by_cases e2 : w = .isRef (.static Bundle.tN "SUPPRESSED_SENTINEL" Bundle.listD)
    · rw [e2]; exact hN
    · by_cases e3 : w = .laysStatic Bundle.tN "UNASSIGNED_STACK" Bundle.steD
      · rw [e3]; exact lU
      · by_cases e4 : w = .laysStatic Bundle.tN "SUPPRESSED_SENTINEL" Bundle.listD
        · rw [e4]; exact lN
        · exact h1 w (List.mem_filter.mpr ⟨hw, by unfold vx_no; rw [decide_eq_true e1, decide_eq_true e2, decide_eq_true e3, decide_eq_true e4]; rfl⟩)
/-- where a static field lies, its class's statics cell in H -/
def vx_L (C n d : String) (A : Nat → Prop) (U : State) (H : Heap) : Prop := ∃ (c : ClassId) (k : Class) (i : Nat) (f : Field) (a : Nat) (cell : Cell), U.vm.findClass C = some c ∧ U.fieldFound? C n d = some (c, k, i, f) ∧ f.isStatic = true ∧ k.statics = some a ∧ H[a]? = some cell ∧ cell.vm.isStatics = true ∧ cell.cls = c ∧ f.slot < cell.slots.size ∧ k.staticTypes[f.slot]? = some f.type ∧ ¬ A a
theorem vx_L.moved {C n d : String} {A : Nat → Prop} {u U : State} {H : Heap} (hvm : u.vm.Alike U.vm) (h : vx_L C n d A u H) : vx_L C n d A U H := by
  obtain ⟨c, k, i, f, a, cell, h1, h2, h3, h4, h5, h6, h7, h8, h9, h10⟩ := h
  obtain ⟨k', hi', he⟩ := State.fieldFound?_setVm hvm h2
  exact ⟨c, k', i, f, a, cell, by rw [hvm.findClass]; exact h1, hi', h3, by rw [he]; exact h4, h5, h6, h7, h8, by rw [he]; exact h9, h10⟩
theorem vx_L.kept {C n d : String} {A : Nat → Prop} {U : State} {H H1 : Heap} (h : vx_L C n d A U H) (hq : ∀ a : Nat, a < H.size → ¬ A a → H1[a]? = H[a]?) : vx_L C n d A U H1 := by
  obtain ⟨c, k, i, f, a, cell, h1, h2, h3, h4, h5, h6, h7, h8, h9, h10⟩ := h
  exact ⟨c, k, i, f, a, cell, h1, h2, h3, h4, by rw [hq a (Array.getElem?_eq_some_iff.mp h5).1 h10]; exact h5, h6, h7, h8, h9, h10⟩
theorem vx_L.narrow {C n d : String} {A B : Nat → Prop} {U : State} {H : Heap} (h : vx_L C n d A U H) (hAB : ∀ q, B q → A q) : vx_L C n d B U H := by
  obtain ⟨c, k, i, f, a, cell, h1, h2, h3, h4, h5, h6, h7, h8, h9, h10⟩ := h
  exact ⟨c, k, i, f, a, cell, h1, h2, h3, h4, h5, h6, h7, h8, h9, fun z => h10 (hAB _ z)⟩
theorem vx_L.word {C n d : String} {A : Nat → Prop} {s : State} {args : Array Value} (h : vx_L C n d A s s.heap) : (Cond.laysStatic C n d).before args s = true := by
  obtain ⟨c, k, i, f, a, cell, h1, h2, h3, h4, h5, h6, h7, h8, h9, -⟩ := h
  show (Cond.laysStatic C n d).holds args s none s [] = true
  exact Cond.laysStatic_of h1 h2 h3 h4 h5 h6 h7 h8 h9
/-- .. and what it holds: null or some reference -/
def vx_Zq (C n d : String) (A : Nat → Prop) (U : State) (H : Heap) : Prop := va_Zq C n d A U H ∧ vx_L C n d A U H
theorem vx_Zq.moved {C n d : String} {A : Nat → Prop} {u U : State} {H : Heap} (hvm : u.vm.Alike U.vm) (h : vx_Zq C n d A u H) : vx_Zq C n d A U H := ⟨va_Zq.moved hvm h.1, vx_L.moved hvm h.2⟩
theorem vx_Zq.kept {C n d : String} {A : Nat → Prop} {U : State} {H H1 : Heap} (h : vx_Zq C n d A U H) (hq : ∀ a : Nat, a < H.size → ¬ A a → H1[a]? = H[a]?) : vx_Zq C n d A U H1 := ⟨va_Zq.kept h.1 hq, vx_L.kept h.2 hq⟩
theorem vx_Zq.narrow {C n d : String} {A B : Nat → Prop} {U : State} {H : Heap} (h : vx_Zq C n d A U H) (hAB : ∀ q, B q → A q) : vx_Zq C n d B U H := ⟨va_Zq.narrow h.1 hAB, vx_L.narrow h.2 hAB⟩
theorem vx_Zqof {args : Array Value} {s : State} {C n d : String} {A : Nat → Prop} (hl : (Cond.laysStatic C n d).before args s = true) (hini : (Cond.initialized C).before args s = true) (h : (Cond.isRef (.static C n d)).before args s = true) (hA : ∀ a : Nat, a < s.heap.size → ¬ A a) : vx_Zq C n d A s s.heap := by
  refine ⟨va_Zqof hl hini h hA, ?_⟩
  obtain ⟨c, k, i, f, a, cell, h1, h2, h3, h4, h5, h6, h7, h8, h9⟩ := Cond.laysStatic_spec hl
  exact ⟨c, k, i, f, a, cell, h1, h2, h3, h4, h5, h6, h7, h8, h9, hA a (Array.getElem?_eq_some_iff.mp h5).1⟩
theorem vx_isRef {C n d : String} {v : Value} {A : Nat → Prop} {s : State} {args : Array Value} (h : va_Z C n d v A s s.heap) (hv : v.isRef = true) : (Cond.isRef (.static C n d)).before args s = true := by
  obtain ⟨cf, kf, fi, f, a, cell, h1, h2, h3, h4, h5, h6, h7, -⟩ := h
  have he : (Term.static C n d).eval args s none [] s = some v := by
    simp [Term.eval, State.fieldNamed?, h1, h2, h4, h5, h6, h7]
  simp only [Cond.before, Cond.holds, Cond.value, he]
  cases v <;> simp_all [Value.isRef]
theorem vx_isRefq {C n d : String} {A : Nat → Prop} {s : State} {args : Array Value} (h : va_Zq C n d A s s.heap) : (Cond.isRef (.static C n d)).before args s = true := by
  rcases h with h | ⟨t, h⟩
  · exact vx_isRef h rfl
  · exact vx_isRef h rfl
/-- the same frame, seen from here: as if the method were called anew in this heap -/
theorem vx_rebase {T : State} (X : Stand p l e R s m args below meth c T locs cells slots) {R' : Room} (hf : R'.frames ≤ R.frames) (hl : R'.locals ≤ R.locals) (hc : cells + R'.cells ≤ R.cells) (hs : slots + R'.slots ≤ R.slots) :
    Stand p l e R' ((T.setVm s.vm).setFrames (.invoking m args :: below)) m args below meth c T [] 0 0 := by
  have htop : (T.setVm s.vm).topJava?.isSome := X.here.top
  have hF : ((T.setVm s.vm).setFrames (.invoking m args :: below)).frames = .invoking m args :: below := State.frames_setFrames _ (State.cur_lt_of_top htop)
  obtain ⟨g₀, hg0⟩ := Option.isSome_iff_exists.mp htop
  obtain ⟨r, hr⟩ := State.topJava?_eq_some.mp hg0
  have hl9 : e.platform.stackLimits (T.setVm s.vm).me = e.platform.stackLimits s.me := X.limits
  have hb9 : (T.setVm s.vm).me.stackBytes = s.me.stackBytes := X.bytes
  refine ⟨X.admits, X.cas, X.clock, hF, ?_, X.hears, X.method, X.code, X.here, X.tail, X.warmed, ?_, ?_, ?_⟩
  · have h := X.room
    have hU : ((T.setVm s.vm).setFrames (.invoking m args :: below)).localsInUse = s.localsInUse := by
      rw [State.localsInUse_invoking hF (meth := meth) (c := c) X.method X.code, State.localsInUse_invoking X.frames X.method X.code]
    simp only [State.hasRoom, Bool.and_eq_true, decide_eq_true_eq] at h ⊢
    obtain ⟨⟨⟨⟨h1, h2, h3, h4, h5, h6⟩, h7⟩, h8⟩, h9⟩ := h
    rw [X.frames, List.length_cons] at h2 h3
    have q1 := X.heapSize
    have q2 := X.used
    simp only [hF, hU, List.length_cons, State.stackLimits_setFrames, State.stackBytes_setFrames, hl9, hb9]
    refine ⟨⟨⟨⟨by omega, by omega, by omega, by omega, by omega, h6⟩, ?_⟩, ?_⟩, X.book⟩
    · show T.heap.size + R'.cells ≤ e.platform.maxCells
      omega
    · show T.slotsUsed + R'.slots ≤ e.platform.maxSlots
      omega
  · rw [State.stackLimits_setFrames]; rfl
  · rw [State.stackBytes_setFrames]; rfl
  · refine ⟨?_, Nat.le_refl _, Nat.le_refl _, ?_, ?_, fun a c9 h9 => ⟨c9, h9, rfl, rfl, fun _ _ => rfl⟩⟩
    · obtain ⟨t, ht, -⟩ := State.frames_cons hr
      show T.setVm s.vm = { ((T.setVm s.vm).setFrames (.invoking m args :: below)).setFrames (T.setVm s.vm).frames with heap := T.heap, slotsUsed := T.slotsUsed }
      rw [State.setFrames_setFrames, State.setFrames_self ht]
      rfl
    · show T.slotsUsed = T.slotsUsed + ((T.heap.toList.drop T.heap.size).map (·.slots.size)).sum
      rw [List.drop_eq_nil_of_le (Nat.le_of_eq Array.length_toList)]
      rfl
    · show ((T.heap.toList.drop T.heap.size).map (·.slots.size)).sum ≤ 0
      rw [List.drop_eq_nil_of_le (Nat.le_of_eq Array.length_toList)]
      exact Nat.le_refl _
/-- 'throw new E()': new; dup; invokespecial; athrow -/
theorem vx_throw0 {cc : ByteArray} {pc : Nat} (hexec : p.tables.exec = Jvm.exec) (hb : c.code = cc) (hl : l.stackTraces = false) {own cls : String} {names : List String} {ik ic mc ms : Nat} {A : Nat → Prop}
    (hown : s.vm.findClass own = some m.cls) (hcls : Bundle.fit cls = true) (hnames : ∀ n ∈ names, Bundle.fit n = true)
    (hk : (Cond.classLink own ik cls).before args s = true) (hini : (Cond.initialized cls).before args s = true) (hat : ∀ w ∈ vx_at0 own ic cls names, w.before args s = true)
    (hgood : ∀ w ∈ Cond.classLink own ik cls :: Cond.initialized cls :: vx_at0 own ic cls names, vx_ot w = true)
    (hU : vx_Zq Bundle.tN "UNASSIGNED_STACK" Bundle.steD A s s.heap) (hN : vx_Zq Bundle.tN "SUPPRESSED_SENTINEL" Bundle.listD A s s.heap) (hS : va_S A s.heap H locs) (hsize : ls.size = c.maxLocals)
    (d0 : decode cc pc = .ok (.new ik, 3)) (d3 : decode cc (pc + 3) = .ok (.dup, 1)) (d4 : decode cc (pc + 4) = .ok (.invokespecial ic, 3)) (d7 : decode cc (pc + 7) = .ok (.athrow, 1))
    (hout : ∀ x ∈ c.exceptionTable.toList, covers x (pc + 7) = false)
    (hRframes : names.length + 3 < R.frames) (hRlocals : (rest.map fun v => v.category).sum + (13 * (names.length + 1) + 42) ≤ R.locals) (hRcells : cells + 1 ≤ R.cells) (hRslots : slots + 6 ≤ R.slots) (hlocks : meth.locks = false)
    (hx : ∀ t : State, s.vm.Alike t.vm → H.size ≤ t.heap.size → (∀ q : Nat, q < H.size → t.heap[q]? = H[q]?) → XC cls s t)
    (hf : ∀ z ∈ locs, free z.base) (hc : cells + 1 ≤ mc) (hs : slots + 6 ≤ ms) :
    W p l e R s m args below meth c H locs cells slots (vx_MQ below Qc XC args s mc ms free) (F0 m pc ls rest) := by
  intro T hT X
  have htr : e.platform.stackTraces = false := (show e.platform.stackTraces = l.stackTraces by rw [X.admits.platform]).trans hl
  have Y := vx_rebase X (R' := { frames := R.frames, locals := R.locals, cells := 1, slots := 6 }) (Nat.le_refl _) (Nat.le_refl _) hRcells hRslots
  obtain ⟨s', hA⟩ : ∃ z, z = (T.setVm s.vm).setFrames (.invoking m args :: below) := ⟨_, rfl⟩
  rw [← hA] at Y
  have hvm : s'.vm = s.vm := by rw [hA]; rfl
  have hhp : s'.heap = H := by rw [hA]; exact hT
  have hW0 : s.WarmedH s'.vm := by rw [hvm]; exact State.WarmedH.refl s
  have hat' : ∀ w ∈ vx_at0 own ic cls names, w.before args s' = true := fun w hw => vx_ot_at hW0 hvm.symm (hgood w (List.mem_cons_of_mem _ (List.mem_cons_of_mem _ hw))) (hat w hw)
  have hk' : (Cond.classLink own ik cls).before args s' = true := vx_ot_at hW0 hvm.symm (hgood _ List.mem_cons_self) hk
  have hini' : (Cond.initialized cls).before args s' = true := vx_ot_at hW0 hvm.symm (hgood _ (List.mem_cons_of_mem _ List.mem_cons_self)) hini
  have hU' : vx_Zq Bundle.tN "UNASSIGNED_STACK" Bundle.steD A s' s'.heap := by rw [hhp]; exact vx_Zq.moved hW0.alike (hU.kept hS.2.1)
  have hN' : vx_Zq Bundle.tN "SUPPRESSED_SENTINEL" Bundle.listD A s' s'.heap := by rw [hhp]; exact vx_Zq.moved hW0.alike (hN.kept hS.2.1)
  have h : ∀ w ∈ Bundle.ownAtoms0 own ic cls names, w.before args s' = true := vx_own hat' (vx_isRefq hU'.1) (vx_isRefq hN'.1) hU'.2.word hN'.2.word
  have hown' : s'.vm.findClass own = some m.cls := by rw [hvm]; exact hown
  have hins : (Cond.instantiable cls 6).before args s' = true := h _ (by simp [Bundle.ownAtoms0])
  obtain ⟨vm₁, cX, kX, hfX, hkX, -, -, X₁, st1⟩ := Y.newCold hexec (own := own) (C := cls) (index := ik) (n := 6) hown' hk' hins hini'
    (g := F0 m pc ls rest) rfl (by rw [hb]; exact d0) (Nat.le_refl _) (Nat.le_refl _)
  generalize hT1 : (T.setVm vm₁).pushCell { cls := cX, slots := kX.instanceTypes.map defaultValue, vm := .none } = T1 at X₁ st1
  have hcat : (Value.ref T.heap.size).category = 1 := rfl
  have hcellA : T1.heap[T.heap.size]? = some (freshCell cX kX) := by rw [← hT1]; exact State.heap_pushCell_size _ _
  have d3' : decode c.code (pc + 3) = .ok (.dup, 1) := by rw [hb]; exact d3
  obtain ⟨U, hsteps, hrun, hend, hW, hsame, ce, hce, hO⟩ := X₁.ctorThrow0 hexec htr (own := own) (cls := cls) (names := names) (ic := ic) hown' hcls hnames h (fun x hx => nomatch hx) hfX hkX hcellA (by rw [hhp, hT]; exact Nat.le_refl _)
    (g := { method := m, pc := pc + 4, locals := ls, stack := .ref T.heap.size :: .ref T.heap.size :: rest, locked := none }) rfl hsize rfl rfl (rest := rest) rfl
    (by rw [hb]; exact d4) (by rw [hb]; exact d7) hout hRframes (by simp only [List.map_cons, List.sum_cons, hcat]; omega) hlocks
  obtain ⟨f1, f2⟩ := vx_frame hsame
  rw [hhp] at f1 f2
  have hWs : s.WarmedH U.vm := State.WarmedH.trans hW0 hW
  have hcl : s.vm.findClass cls = some ce.cls := by
    have h9 := hO.cls
    rw [hvm] at h9
    exact h9
  have hall : s.sameButNew ({ U with vm := s.vm } : State) locs mc ms := by
    subst hA
    obtain ⟨e1, e2⟩ := hsame
    rw [State.setFrames_setFrames] at e1
    have h2 : (T.setVm s.vm).sameButNew ({ U with vm := s.vm } : State) [] (0 + 1) (0 + 6) := ⟨e1, e2⟩
    have h3 := X.same.trans h2
    rw [List.append_nil] at h3
    exact h3.mono hc hs
  refine ⟨U, ?_, .threw T.heap.size, hrun, hend, Or.inr ⟨T.heap.size, rfl, cls, ce, locs, hx U hWs.alike f1 (fun q hq => f2 q hq (fun z hz => nomatch hz)), hce, hO.vm, hcl, hWs, hall, hf⟩⟩
  refine st1 _ ?_
  show Steps p.tables e below (T1.setTop { method := m, pc := pc + 3, locals := ls, stack := .ref T.heap.size :: rest, locked := none }) _
  jvm_step X₁.here [X₁.here.top, hexec, d3', Value.category]
  exact hsteps
/-- 'throw new E("text")': new; dup; ldc; invokespecial; athrow -/
theorem vx_throwS {cc : ByteArray} {pc : Nat} (hexec : p.tables.exec = Jvm.exec) (hb : c.code = cc) (hl : l.stackTraces = false) {own cls text : String} {names : List String} {ik is ic mc ms sa : Nat} {A : Nat → Prop}
    (hown : s.vm.findClass own = some m.cls) (hcls : Bundle.fit cls = true) (hnames : ∀ n ∈ names, Bundle.fit n = true)
    (hk : (Cond.classLink own ik cls).before args s = true) (hini : (Cond.initialized cls).before args s = true) (hstr : vk_R own is text sa s) (hat : ∀ w ∈ vx_atS own ic cls names, w.before args s = true)
    (hgood : ∀ w ∈ Cond.classLink own ik cls :: Cond.initialized cls :: vx_atS own ic cls names, vx_ot w = true)
    (hU : vx_Zq Bundle.tN "UNASSIGNED_STACK" Bundle.steD A s s.heap) (hN : vx_Zq Bundle.tN "SUPPRESSED_SENTINEL" Bundle.listD A s s.heap) (hS : va_S A s.heap H locs) (hsize : ls.size = c.maxLocals)
    (d0 : decode cc pc = .ok (.new ik, 3)) (d3 : decode cc (pc + 3) = .ok (.dup, 1)) (d4 : decode cc (pc + 4) = .ok (.ldc is, 2)) (d6 : decode cc (pc + 6) = .ok (.invokespecial ic, 3)) (d9 : decode cc (pc + 9) = .ok (.athrow, 1))
    (hout : ∀ x ∈ c.exceptionTable.toList, covers x (pc + 9) = false)
    (hRframes : names.length + 3 < R.frames) (hRlocals : (rest.map fun v => v.category).sum + (13 * (names.length + 1) + 43) ≤ R.locals) (hRcells : cells + 1 ≤ R.cells) (hRslots : slots + 6 ≤ R.slots) (hlocks : meth.locks = false)
    (hx : ∀ t : State, s.vm.Alike t.vm → H.size ≤ t.heap.size → (∀ q : Nat, q < H.size → t.heap[q]? = H[q]?) → XC cls s t)
    (hf : ∀ z ∈ locs, free z.base) (hc : cells + 1 ≤ mc) (hs : slots + 6 ≤ ms) :
    W p l e R s m args below meth c H locs cells slots (vx_MQ below Qc XC args s mc ms free) (F0 m pc ls rest) := by
  intro T hT X
  have htr : e.platform.stackTraces = false := (show e.platform.stackTraces = l.stackTraces by rw [X.admits.platform]).trans hl
  have Y := vx_rebase X (R' := { frames := R.frames, locals := R.locals, cells := 1, slots := 6 }) (Nat.le_refl _) (Nat.le_refl _) hRcells hRslots
  obtain ⟨s', hA⟩ : ∃ z, z = (T.setVm s.vm).setFrames (.invoking m args :: below) := ⟨_, rfl⟩
  rw [← hA] at Y
  have hvm : s'.vm = s.vm := by rw [hA]; rfl
  have hhp : s'.heap = H := by rw [hA]; exact hT
  have hW0 : s.WarmedH s'.vm := by rw [hvm]; exact State.WarmedH.refl s
  have hat' : ∀ w ∈ vx_atS own ic cls names, w.before args s' = true := fun w hw => vx_ot_at hW0 hvm.symm (hgood w (List.mem_cons_of_mem _ (List.mem_cons_of_mem _ hw))) (hat w hw)
  have hk' : (Cond.classLink own ik cls).before args s' = true := vx_ot_at hW0 hvm.symm (hgood _ List.mem_cons_self) hk
  have hini' : (Cond.initialized cls).before args s' = true := vx_ot_at hW0 hvm.symm (hgood _ (List.mem_cons_of_mem _ List.mem_cons_self)) hini
  have hU' : vx_Zq Bundle.tN "UNASSIGNED_STACK" Bundle.steD A s' s'.heap := by rw [hhp]; exact vx_Zq.moved hW0.alike (hU.kept hS.2.1)
  have hN' : vx_Zq Bundle.tN "SUPPRESSED_SENTINEL" Bundle.listD A s' s'.heap := by rw [hhp]; exact vx_Zq.moved hW0.alike (hN.kept hS.2.1)
  have h : ∀ w ∈ Bundle.ownAtoms own ic cls names, w.before args s' = true := vx_own hat' (vx_isRefq hU'.1) (vx_isRefq hN'.1) hU'.2.word hN'.2.word
  have hown' : s'.vm.findClass own = some m.cls := by rw [hvm]; exact hown
  have hins : (Cond.instantiable cls 6).before args s' = true := h _ (by simp [Bundle.ownAtoms])
  obtain ⟨vm₁, cX, kX, hfX, hkX, -, -, X₁, st1⟩ := Y.newCold hexec (own := own) (C := cls) (index := ik) (n := 6) hown' hk' hins hini'
    (g := F0 m pc ls rest) rfl (by rw [hb]; exact d0) (Nat.le_refl _) (Nat.le_refl _)
  generalize hT1 : (T.setVm vm₁).pushCell { cls := cX, slots := kX.instanceTypes.map defaultValue, vm := .none } = T1 at X₁ st1
  have hcat : (Value.ref T.heap.size).category = 1 := rfl
  have hcellA : T1.heap[T.heap.size]? = some (freshCell cX kX) := by rw [← hT1]; exact State.heap_pushCell_size _ _
  have d3' : decode c.code (pc + 3) = .ok (.dup, 1) := by rw [hb]; exact d3
  have d4' : decode c.code (pc + 4) = .ok (.ldc is, 2) := by rw [hb]; exact d4
  have hstr' : vk_R own is text sa s' := vk_R.warm hW0 hstr
  obtain ⟨U, hsteps, hrun, hend, hW, hsame, ce, hce, hO⟩ := X₁.ctorThrowS hexec htr (own := own) (cls := cls) (names := names) (ic := ic) hown' hcls hnames h (fun x hx => nomatch hx) hfX hkX hcellA (by rw [hhp, hT]; exact Nat.le_refl _) (msg := .ref sa) rfl
    (g := { method := m, pc := pc + 6, locals := ls, stack := .ref sa :: .ref T.heap.size :: .ref T.heap.size :: rest, locked := none }) rfl hsize rfl rfl (rest := rest) rfl
    (by rw [hb]; exact d6) (by rw [hb]; exact d9) hout hRframes (by simp only [List.map_cons, List.sum_cons, hcat]; omega) hlocks
  obtain ⟨f1, f2⟩ := vx_frame hsame
  rw [hhp] at f1 f2
  have hWs : s.WarmedH U.vm := State.WarmedH.trans hW0 hW
  have hcl : s.vm.findClass cls = some ce.cls := by
    have h9 := hO.cls
    rw [hvm] at h9
    exact h9
  have hall : s.sameButNew ({ U with vm := s.vm } : State) locs mc ms := by
    subst hA
    obtain ⟨e1, e2⟩ := hsame
    rw [State.setFrames_setFrames] at e1
    have h2 : (T.setVm s.vm).sameButNew ({ U with vm := s.vm } : State) [] (0 + 1) (0 + 6) := ⟨e1, e2⟩
    have h3 := X.same.trans h2
    rw [List.append_nil] at h3
    exact h3.mono hc hs
  refine ⟨U, ?_, .threw T.heap.size, hrun, hend, Or.inr ⟨T.heap.size, rfl, cls, ce, locs, hx U hWs.alike f1 (fun q hq => f2 q hq (fun z hz => nomatch hz)), hce, hO.vm, hcl, hWs, hall, hf⟩⟩
  refine st1 _ ?_
  show Steps p.tables e below (T1.setTop { method := m, pc := pc + 3, locals := ls, stack := .ref T.heap.size :: rest, locked := none }) _
  jvm_step X₁.here [X₁.here.top, hexec, d3', Value.category]
  exact X₁.ldcString hexec (own := own) (text := text) (index := is) (a := sa) hown' hstr'.1 hstr'.2
    (g := { method := m, pc := pc + 4, locals := ls, stack := .ref T.heap.size :: .ref T.heap.size :: rest, locked := none }) rfl d4' _ hsteps
/-- 'throw new E("text")', the text by a wide index -/
theorem vx_throwSW {cc : ByteArray} {pc : Nat} (hexec : p.tables.exec = Jvm.exec) (hb : c.code = cc) (hl : l.stackTraces = false) {own cls text : String} {names : List String} {ik is ic mc ms sa : Nat} {A : Nat → Prop}
    (hown : s.vm.findClass own = some m.cls) (hcls : Bundle.fit cls = true) (hnames : ∀ n ∈ names, Bundle.fit n = true)
    (hk : (Cond.classLink own ik cls).before args s = true) (hini : (Cond.initialized cls).before args s = true) (hstr : vk_R own is text sa s) (hat : ∀ w ∈ vx_atS own ic cls names, w.before args s = true)
    (hgood : ∀ w ∈ Cond.classLink own ik cls :: Cond.initialized cls :: vx_atS own ic cls names, vx_ot w = true)
    (hU : vx_Zq Bundle.tN "UNASSIGNED_STACK" Bundle.steD A s s.heap) (hN : vx_Zq Bundle.tN "SUPPRESSED_SENTINEL" Bundle.listD A s s.heap) (hS : va_S A s.heap H locs) (hsize : ls.size = c.maxLocals)
    (d0 : decode cc pc = .ok (.new ik, 3)) (d3 : decode cc (pc + 3) = .ok (.dup, 1)) (d4 : decode cc (pc + 4) = .ok (.ldc_w is, 3)) (d7 : decode cc (pc + 7) = .ok (.invokespecial ic, 3)) (d10 : decode cc (pc + 10) = .ok (.athrow, 1))
    (hout : ∀ x ∈ c.exceptionTable.toList, covers x (pc + 10) = false)
    (hRframes : names.length + 3 < R.frames) (hRlocals : (rest.map fun v => v.category).sum + (13 * (names.length + 1) + 43) ≤ R.locals) (hRcells : cells + 1 ≤ R.cells) (hRslots : slots + 6 ≤ R.slots) (hlocks : meth.locks = false)
    (hx : ∀ t : State, s.vm.Alike t.vm → H.size ≤ t.heap.size → (∀ q : Nat, q < H.size → t.heap[q]? = H[q]?) → XC cls s t)
    (hf : ∀ z ∈ locs, free z.base) (hc : cells + 1 ≤ mc) (hs : slots + 6 ≤ ms) :
    W p l e R s m args below meth c H locs cells slots (vx_MQ below Qc XC args s mc ms free) (F0 m pc ls rest) := by
  intro T hT X
  have htr : e.platform.stackTraces = false := (show e.platform.stackTraces = l.stackTraces by rw [X.admits.platform]).trans hl
  have Y := vx_rebase X (R' := { frames := R.frames, locals := R.locals, cells := 1, slots := 6 }) (Nat.le_refl _) (Nat.le_refl _) hRcells hRslots
  obtain ⟨s', hA⟩ : ∃ z, z = (T.setVm s.vm).setFrames (.invoking m args :: below) := ⟨_, rfl⟩
  rw [← hA] at Y
  have hvm : s'.vm = s.vm := by rw [hA]; rfl
  have hhp : s'.heap = H := by rw [hA]; exact hT
  have hW0 : s.WarmedH s'.vm := by rw [hvm]; exact State.WarmedH.refl s
  have hat' : ∀ w ∈ vx_atS own ic cls names, w.before args s' = true := fun w hw => vx_ot_at hW0 hvm.symm (hgood w (List.mem_cons_of_mem _ (List.mem_cons_of_mem _ hw))) (hat w hw)
  have hk' : (Cond.classLink own ik cls).before args s' = true := vx_ot_at hW0 hvm.symm (hgood _ List.mem_cons_self) hk
  have hini' : (Cond.initialized cls).before args s' = true := vx_ot_at hW0 hvm.symm (hgood _ (List.mem_cons_of_mem _ List.mem_cons_self)) hini
  have hU' : vx_Zq Bundle.tN "UNASSIGNED_STACK" Bundle.steD A s' s'.heap := by rw [hhp]; exact vx_Zq.moved hW0.alike (hU.kept hS.2.1)
  have hN' : vx_Zq Bundle.tN "SUPPRESSED_SENTINEL" Bundle.listD A s' s'.heap := by rw [hhp]; exact vx_Zq.moved hW0.alike (hN.kept hS.2.1)
  have h : ∀ w ∈ Bundle.ownAtoms own ic cls names, w.before args s' = true := vx_own hat' (vx_isRefq hU'.1) (vx_isRefq hN'.1) hU'.2.word hN'.2.word
  have hown' : s'.vm.findClass own = some m.cls := by rw [hvm]; exact hown
  have hins : (Cond.instantiable cls 6).before args s' = true := h _ (by simp [Bundle.ownAtoms])
  obtain ⟨vm₁, cX, kX, hfX, hkX, -, -, X₁, st1⟩ := Y.newCold hexec (own := own) (C := cls) (index := ik) (n := 6) hown' hk' hins hini'
    (g := F0 m pc ls rest) rfl (by rw [hb]; exact d0) (Nat.le_refl _) (Nat.le_refl _)
  generalize hT1 : (T.setVm vm₁).pushCell { cls := cX, slots := kX.instanceTypes.map defaultValue, vm := .none } = T1 at X₁ st1
  have hcat : (Value.ref T.heap.size).category = 1 := rfl
  have hcellA : T1.heap[T.heap.size]? = some (freshCell cX kX) := by rw [← hT1]; exact State.heap_pushCell_size _ _
  have d3' : decode c.code (pc + 3) = .ok (.dup, 1) := by rw [hb]; exact d3
  have d4' : decode c.code (pc + 4) = .ok (.ldc_w is, 3) := by rw [hb]; exact d4
  have hstr' : vk_R own is text sa s' := vk_R.warm hW0 hstr
  obtain ⟨U, hsteps, hrun, hend, hW, hsame, ce, hce, hO⟩ := X₁.ctorThrowS hexec htr (own := own) (cls := cls) (names := names) (ic := ic) hown' hcls hnames h (fun x hx => nomatch hx) hfX hkX hcellA (by rw [hhp, hT]; exact Nat.le_refl _) (msg := .ref sa) rfl
    (g := { method := m, pc := pc + 7, locals := ls, stack := .ref sa :: .ref T.heap.size :: .ref T.heap.size :: rest, locked := none }) rfl hsize rfl rfl (rest := rest) rfl
    (by rw [hb]; exact d7) (by rw [hb]; exact d10) hout hRframes (by simp only [List.map_cons, List.sum_cons, hcat]; omega) hlocks
  obtain ⟨f1, f2⟩ := vx_frame hsame
  rw [hhp] at f1 f2
  have hWs : s.WarmedH U.vm := State.WarmedH.trans hW0 hW
  have hcl : s.vm.findClass cls = some ce.cls := by
    have h9 := hO.cls
    rw [hvm] at h9
    exact h9
  have hall : s.sameButNew ({ U with vm := s.vm } : State) locs mc ms := by
    subst hA
    obtain ⟨e1, e2⟩ := hsame
    rw [State.setFrames_setFrames] at e1
    have h2 : (T.setVm s.vm).sameButNew ({ U with vm := s.vm } : State) [] (0 + 1) (0 + 6) := ⟨e1, e2⟩
    have h3 := X.same.trans h2
    rw [List.append_nil] at h3
    exact h3.mono hc hs
  refine ⟨U, ?_, .threw T.heap.size, hrun, hend, Or.inr ⟨T.heap.size, rfl, cls, ce, locs, hx U hWs.alike f1 (fun q hq => f2 q hq (fun z hz => nomatch hz)), hce, hO.vm, hcl, hWs, hall, hf⟩⟩
  refine st1 _ ?_
  show Steps p.tables e below (T1.setTop { method := m, pc := pc + 3, locals := ls, stack := .ref T.heap.size :: rest, locked := none }) _
  jvm_step X₁.here [X₁.here.top, hexec, d3', Value.category]
  exact X₁.ldcStringW hexec (own := own) (text := text) (index := is) (a := sa) hown' hstr'.1 hstr'.2
    (g := { method := m, pc := pc + 4, locals := ls, stack := .ref T.heap.size :: .ref T.heap.size :: rest, locked := none }) rfl d4' _ hsteps
end Ends
section Bodies
variable {l : Launch}
theorem vx_ofW {y : MethodName} {ws ws' : List Cond} {rm : Room} {Pc : Array Value → State → Prop} {Qc : Array Value → State → Outcome → State → Prop} {XC : String → State → State → Prop} {mc ms : Nat} {free : Addr → Prop} {cc : ByteArray} {maxL : Nat} {ret : Option FieldType}
    (hy : plainName y.cls = true) (hw : ws = Cond.code y cc maxL ret :: ws')
    (body : ∀ p e s m args below meth c s₁, BodyLoose p l y (headSpec ws rm) cc maxL ret e s m args below meth c s₁ → c.maxLocals = maxL → (∀ x ∈ c.exceptionTable.toList, False) → Pc args s →
      W p l e (headSpec ws rm).room s m args below meth c s.heap [] 0 0 (vx_MQ below Qc XC args s mc ms free) (entryFrame m args maxL)) : vx_Met l y ws rm Pc Qc XC mc ms free := by
  refine MetFree.of_bodyS (code := cc) (maxLocals := maxL) (ret := ret) hy ?_ ?_
  · intro args s m h hn
    obtain ⟨meth, c, h1, h2, h3, h4, h5, h6, -, -⟩ := Cond.code_spec hn (atoms_spec (ws := ws) h _ (by rw [hw]; exact List.mem_cons_self))
    exact ⟨meth, c, h1, h2, h3, h4, h5, h6⟩
  · intro p e s m args below meth c s₁ B hml hP _
    have hh0 : s₁.heap = s.heap := by rw [B.state]; rfl
    have ht : ∀ x ∈ c.exceptionTable.toList, False := by
      obtain ⟨meth9, c9, h1, h2, -, -, -, -, h7, -⟩ := Cond.code_spec B.named (atoms_spec (ws := ws) B.pre _ (by rw [hw]; exact List.mem_cons_self))
      cases Option.some.inj (h1.symm.trans B.method)
      cases Option.some.inj (h2.symm.trans (Stand.of_body B).code)
      intro x hx
      rw [Array.isEmpty_iff.mp h7] at hx
      cases hx
    obtain ⟨t, a1, o, b1, b2, b3⟩ := body p e s m args below meth c s₁ B hml ht hP s₁ hh0 (Stand.of_body B)
    exact ⟨t, o, a1, b1, b2, b3⟩
/-- the table of a body with handlers -/
theorem vx_table {p : Program} {x y : MethodName} {S : Spec} {cc bytes : ByteArray} {maxL maxL' : Nat} {ret ret' : Option FieldType} {e : Env} {s s₁ : State} {m : MethodId} {args : Array Value} {below : List Frame} {meth : Method} {c : Code} {hh : List (Nat × Nat × Nat × Nat)}
    (B : BodyLoose p l y S cc maxL ret e s m args below meth c s₁) (h : (Cond.codeWith y bytes maxL' ret' hh).before args s = true) : c.exceptionTable.toList = tableOf hh := by
  obtain ⟨m9, meth9, c9, hn9, h1, h2, -, -, h6, -⟩ := Cond.codeWith_spec h
  cases Option.some.inj (hn9.symm.trans B.named)
  cases Option.some.inj (h1.symm.trans B.method)
  cases Option.some.inj (h2.symm.trans (Stand.of_body B).code)
  rw [← h6, table_eq]
end Bodies
end VXA
/-! ===== END ===== -/
/-! ===== BEGIN a static call of a method with an exception table ===== -/
section VXS
variable {p : Program} {l : Launch} {e : Env} {R : Room} {s : State} {m : MethodId} {args : Array Value} {below : List Frame} {meth : Method} {c : Code} {T : State} {H : Heap} {locs : List Loc} {cells slots : Nat}
abbrev vx_CSW (R : Room) (s : State) (args : Array Value) (own : String) (index : Nat) (y : MethodName) (bytes : ByteArray) (maxL : Nat) (ret : Option FieldType) (hh : List (Nat × Nat × Nat × Nat)) (ws : List Cond) (rm : Room) (mc ms n : Nat) : Prop :=
  (rm.cells = mc ∧ rm.slots = ms ∧ rm.frames + 1 ≤ R.frames ∧ 8 + (maxL + 11) + rm.locals ≤ R.locals ∧ (∀ w ∈ ws, ∀ (a' : Array Value) (U : State), s.WarmedH U.vm → w.before a' U = true) ∧ Cond.codeWith y bytes maxL ret hh ∈ ws) ∧
  (Cond.codeWith y bytes maxL ret hh).before args s = true ∧ (Cond.initialized y.cls).before args s = true ∧ (y.cls ≠ "java/lang/invoke/MethodHandle" ∧ y.cls ≠ "java/lang/invoke/VarHandle") ∧
  (∀ sig, parseMethodDescriptor y.desc = some sig → n = sig.parameters.length) ∧ (Cond.methodLink own index y).before args s = true ∧ (Cond.static y).before args s = true
theorem vx_cwSW {own : String} {index maxL mc ms : Nat} {y : MethodName} {bytes : ByteArray} {ret : Option FieldType} {hh : List (Nat × Nat × Nat × Nat)} {Ts ws ws' : List Cond} {rm : Room} (n : Nat) (ht : ∀ w ∈ Ts, w.before args s = true) (hT : GoodIn Ts (va_wsS own index y ws)) (hw : ws = Cond.codeWith y bytes maxL ret hh :: ws') (hrc : rm.cells = mc) (hrs : rm.slots = ms)
    (hd : y.cls ≠ "java/lang/invoke/MethodHandle" ∧ y.cls ≠ "java/lang/invoke/VarHandle" ∧ (parseMethodDescriptor y.desc).map (fun d => d.parameters.length) = some n) (hR : rm.frames + 1 ≤ R.frames ∧ 8 + (maxL + 11) + rm.locals ≤ R.locals) :
    vx_CSW R s args own index y bytes maxL ret hh ws rm mc ms n := by
  have ok : ∀ w ∈ va_wsS own index y ws, w.before args s = true := fun w h => ht w (hT w h).1
  have hG : GoodIn Ts ws := fun w h => hT w (by unfold va_wsS; exact List.mem_append_right _ h)
  have hc : Cond.codeWith y bytes maxL ret hh ∈ ws := by rw [hw]; exact List.mem_cons_self
  refine ⟨⟨hrc, hrs, hR.1, hR.2, pay_in ht hG, hc⟩, ht _ (hG _ hc).1, ok _ (by simp [va_wsS]), ⟨hd.1, hd.2.1⟩, fun sig h => ?_, ok _ (by simp [va_wsS]), ok _ (by simp [va_wsS])⟩
  have h2 := hd.2.2
  rw [h] at h2
  exact (Option.some.inj h2).symm
theorem vx_callSW (X : Stand p l e R s m args below meth c T locs cells slots) (hexec : p.tables.exec = Jvm.exec) {own : String} {index : Nat} {y : MethodName} {bytes : ByteArray} {maxL : Nat} {ret : Option FieldType} {hh : List (Nat × Nat × Nat × Nat)}
    (hown : s.vm.findClass own = some m.cls) (hlink : (Cond.methodLink own index y).before args s = true) (hstat : (Cond.static y).before args s = true) (hinit : (Cond.initialized y.cls).before args s = true)
    (hcode : (Cond.codeWith y bytes maxL ret hh).before args s = true) (hy : y.cls ≠ "java/lang/invoke/MethodHandle" ∧ y.cls ≠ "java/lang/invoke/VarHandle")
    {W9 : Nat} {Pre : Pt → Array Value → Prop} {Post : Pt → Array Value → Option Value → Pt → Prop} (hK : Back l R p e below s args y 3 W9 Pre Post)
    {g : JFrame} (hg : g.method = m) (hsize : g.locals.size = c.maxLocals) {argsL rest : List Value} (hlen : ∀ sig, parseMethodDescriptor y.desc = some sig → argsL.length = sig.parameters.length)
    (hstack : g.stack = argsL.reverse ++ rest) (hW : 2 * g.monitorRoom + (rest.map fun v => v.category).sum ≤ W9) (hdg : decode c.code g.pc = .ok (.invokestatic index, 3))
    (hpre : ∀ vm₁, s.WarmedH vm₁ → Pre ⟨T.setVm vm₁, locs, cells, slots⟩ argsL.toArray) :
    ∃ (v : Option Value) (vm₁ : Vm) (B : Pt), s.WarmedH vm₁ ∧ Stand p l e R s m args below meth c B.U B.locs B.cells B.slots ∧ Post ⟨T.setVm vm₁, locs, cells, slots⟩ argsL.toArray v B ∧
      ∀ target, Steps p.tables e below (B.U.setTop { g with pc := g.pc + 3, stack := v.toList ++ rest }) target → Steps p.tables e below (T.setTop g) target := by
  obtain ⟨mk, methM, cM, hnamed, hmethM, -, -, -, -, -, -, hsigM⟩ := Cond.codeWith_spec hcode
  have hstatic : methM.isStatic = true := Cond.static_spec hnamed hmethM hstat
  obtain ⟨kP, hkP, -⟩ := className_of_methodNamed hnamed
  have hinitP : kP.init = .initialized := Cond.initialized_spec (findClass_of_methodNamed hnamed) hkP hinit
  obtain ⟨vm₁, X₁, hstep₁⟩ := X.invokestatic hexec hown hlink hnamed hmethM hstatic hkP hinitP hy (g := g) hg (argsL := argsL) (rest := rest) (hlen _ hsigM) hstack hdg
  obtain ⟨v, B, X', hpost, hsteps⟩ := hK m meth c ⟨T.setVm vm₁, locs, cells, slots⟩ { g with stack := rest } (.invokestatic index) mk argsL.toArray X₁ hg hsize hdg hW (X₁.named hnamed) (hpre vm₁ X₁.warmed)
  exact ⟨v, vm₁, B, X₁.warmed, X', hpost, fun target h => hstep₁ _ fun acts => by rw [doInvoke_state]; exact hsteps.trans h⟩
theorem vx_runSW {y : MethodName} {bytes cc : ByteArray} {maxL nL mc ms n index : Nat} {ret : Option FieldType} {hh : List (Nat × Nat × Nat × Nat)} {ws : List Cond} {rm : Room} {Pc : Array Value → State → Prop} {Qc : Array Value → State → Outcome → State → Prop} {free : Addr → Prop} {Ts : List Cond} {own : String} {As rest : List Value} {g : JFrame}
    (S : CallFix p m c cc nL s args Ts own) (hM : Met l y ws rm Pc Qc mc ms free) (cw : vx_CSW R s args own index y bytes maxL ret hh ws rm mc ms n) (hp : PreS s H Pc As)
    (hg : g.method = m) (hn : As.length = n) (hsize : g.locals.size = nL) (hstack : g.stack = As.reverse ++ rest) (hW : 2 * g.monitorRoom + (rest.map fun v => v.category).sum ≤ 8) (hdg : decode cc g.pc = .ok (.invokestatic index, 3)) (hf : cells + mc ≤ R.cells ∧ slots + ms ≤ R.slots) :
    va_Run p l e R s m args below meth c H locs cells slots mc ms g rest (Qc As.toArray) (free) := by
  obtain ⟨⟨hrc, hrs, hfr, hlo, hws, hcw⟩, hcode, hini, hy, hlen, hl, hstt⟩ := cw
  have hK : Back l R p e below s args y 3 8 (PreOf R mc ms Pc) (PostOf Qc mc ms free) := va_backW (hh := hh) (bytes := bytes) (maxL := maxL) (ret := ret) hM hp.1 hrc hrs hfr hlo hws hcw (fun a' U hW => word_at hW (Or.inl (by first | rfl | simp [Cond.onTables, Cond.keeps, Cond.steady])) hini)
  obtain ⟨hx, hb, hml, ho, -⟩ := S
  intro T hT X
  obtain ⟨v, vm₁, ⟨U', l2, c2, s2⟩, hW₁, X', ⟨g', mk, t, L, e1, e2, hq, h1, hL, h2, h3⟩, st⟩ := vx_callSW X hx (hh := hh) (bytes := bytes) (maxL := maxL) (ret := ret) ho hl hstt hini hcode hy hK hg (hsize.trans hml.symm) (argsL := As) (rest := rest) (fun sig h => hn.trans (hlen sig h)) hstack hW (by rw [hb]; exact hdg)
    (fun vm₁ hW₁ => ⟨hf.1, hf.2, hp.2 (T.setVm vm₁) hT hW₁⟩)
  dsimp only [Pt.U, Pt.locs, Pt.cells, Pt.slots] at X' e1 e2 h1 h2 h3 st
  subst h1; subst h2; subst h3
  exact ⟨v, (T.setVm vm₁).calling g' mk As.toArray, t, U', L, hT, X', hL, e1, e2, hq, st⟩
/-- not caught here, past rows that name other classes: it goes on to the caller -/
theorem vx_outP {p : Program} {l : Launch} {e : Env} {R : Room} {s : State} {m : MethodId} {args : Array Value} {below : List Frame} {meth : Method} {c : Code} {H : Heap} {locs : List Loc} {cells slots : Nat} {free : Addr → Prop} {ls : Array Slot} {rest : List Value} {Qc : Array Value → State → Outcome → State → Prop} {XC : String → State → State → Prop}
    {pc : Nat} {own E : String} {ce : Cell} {q : Addr} {mc ms : Nat} (hown : s.vm.findClass own = some m.cls) (hlocks : meth.locks = false)
    (hpass : ∀ z ∈ c.exceptionTable.toList, covers z pc = false ∨ (z.catchType ≠ 0 ∧ ∃ nm : String, (Cond.classLink own z.catchType nm).before args s = true ∧ va_Nc E nm s)) (hcell : H[q]? = some ce) (hv : ce.vm = .none) (hcl : s.vm.findClass E = some ce.cls)
    (hx : ∀ t : State, t.heap = H → s.vm.Alike t.vm → XC E s t) (hf : ∀ z ∈ locs, free z.base) (hc : cells ≤ mc) (hs : slots ≤ ms) :
    vx_W p l e R s m args below meth c H locs cells slots (vx_MQ below Qc XC args s mc ms free) (F0 m pc ls rest) q := by
  intro T hT X
  have hpl : e.platform.magicAccessors = ({} : Platform).magicAccessors := by rw [X.admits.platform]
  obtain ⟨vm', hW', X', st⟩ := X.outThrough hlocks q (g := F0 m pc ls rest) rfl rfl rfl (cell := ce) (by rw [hT]; exact hcell) (by rw [hv]; rfl)
    (by obtain ⟨k9, h9, -⟩ := Vm.findClass_spec hcl; exact ⟨k9, h9⟩) (fun z hz => by
      rcases hpass z hz with h | ⟨hz0, nm, hl1, hn1⟩
      · exact Or.inl h
      · obtain ⟨c6, hc6, hcl6⟩ := Cond.classLink_spec hown hl1 e.platform hpl
        obtain ⟨a8, b8, h1, h2, h3⟩ := hn1
        cases Option.some.inj (h1.symm.trans hcl)
        cases Option.some.inj (h2.symm.trans hc6)
        exact Or.inr ⟨hz0, _, hcl6, h3⟩)
  obtain ⟨g₀, hfr⟩ := X'.frames_eq
  have hcell9 : ((T.setVm vm').setFrames (.throwing q :: below)).heap[q]? = some ce := by
    show T.heap[q]? = some ce
    rw [hT]; exact hcell
  have hend : Ended ((T.setVm vm').setFrames (.throwing q :: below)) below (.threw q) := State.frames_setFrames _ (State.cur_lt_of_frames hfr)
  refine ⟨(T.setVm vm').setFrames (.throwing q :: below), ?_, .threw q, X'.here.running, hend, Or.inr ⟨q, rfl, E, ce, locs, hx _ hT (X'.ends _).1.alike, hcell9, hv, hcl, (X'.ends _).1, (X'.ends _).2.mono hc hs, hf⟩⟩
  rw [X.pushThrowing_eq]
  exact st
/-- a thing of a world lies in the heap -/
theorem vx_lt {D : va_G} {cl : List vw_C} {ws : va_W} {H1 : Heap} (h : va_P D cl ws H1) {k : Nat} {q : Nat × va_E} (hk : ws[k]? = some q) : q.1 < H1.size := (h k q hk).lt
end VXS
/-! ===== END ===== -/
/-! ===== BEGIN methods with a table of their own: called by a name, returning or throwing ===== -/
section VXH
/-! vx_backW, vx_callVX, vx_callSX, vx_callVW, vx_runVW, vx_runVX, vx_runSX, vx_ofWH follow the same proofs as their sisters above (Free/Laws.lean, Shelf42/LK1.lean); vx_outP calls Shelf42/NT130.lean (outThrough). -/
section
variable {l : Launch} {R : Room} {p : Program} {e : Env} {below : List Frame} {s : State} {sargs : Array Value} {y : MethodName} {len W9 : Nat}
theorem vx_backW {ws : List Cond} {rm : Room} {Pc : Array Value → State → Prop} {Qc : Array Value → State → Outcome → State → Prop} {XC : String → State → State → Prop} {mc ms : Nat} {free : Addr → Prop} {bytes : ByteArray} {maxL : Nat} {ret : Option FieldType} {hh : List (Nat × Nat × Nat × Nat)}
    (hM : vx_Met l y ws rm Pc Qc XC mc ms free) (hblind : FrameBlind Pc) (hrc : rm.cells = mc) (hrs : rm.slots = ms)
    (hframes : rm.frames + 1 ≤ R.frames) (hlocals : W9 + (maxL + 11) + rm.locals ≤ R.locals)
    (hws : ∀ w ∈ ws, ∀ a' U, s.WarmedH U.vm → w.before a' U = true) (hcode : Cond.codeWith y bytes maxL ret hh ∈ ws) (hinit : ∀ a' U, s.WarmedH U.vm → (Cond.initialized y.cls).before a' U = true) :
    vx_Back l R p e below s sargs y len W9 (PreOf R mc ms Pc) (PostOf Qc mc ms free) (vx_Post XC mc ms free) := by
  intro m meth c A g ig mk a X hg hsize hdg hW hn hp
  have h1 : (headSpec ws rm).pre.before a A.U = true := atoms_intro fun w hw => hws w hw _ _ X.warmed
  have h2 : (Cond.codeWith y bytes maxL ret hh).before a A.U = true := hws _ hcode _ _ X.warmed
  have h3 : (Cond.initialized y.cls).before a A.U = true := hinit _ _ X.warmed
  have h4 : A.cells + (headSpec ws rm).room.cells ≤ R.cells := by rw [show (headSpec ws rm).room.cells = mc from hrc]; exact hp.1
  have h5 : A.slots + (headSpec ws rm).room.slots ≤ R.slots := by rw [show (headSpec ws rm).room.slots = ms from hrs]; exact hp.2.1
  have hPc : Pc a (A.U.calling g mk a) := hblind _ _ _ _ hp.2.2
  obtain ⟨U, Ls, c0, s0⟩ := A
  dsimp only [Pt.U, Pt.locs, Pt.cells, Pt.slots] at h1 h2 h3 h4 h5 X hn hPc ⊢
  obtain ⟨m9, methY, cY, hn9, hmY, hcY, -, hlY, -⟩ := Cond.codeWith_spec h2
  cases Option.some.inj (hn9.symm.trans hn)
  obtain ⟨kY, hkY, -⟩ := className_of_methodNamed hn
  have hinitY : kY.init = .initialized := Cond.initialized_spec (findClass_of_methodNamed hn) hkY h3
  have h : At U g.method c below := by rw [hg]; exact X.here
  have hlocals9 : W9 + (maxL + 11) + (headSpec ws rm).room.locals ≤ R.locals := hlocals
  have happ : (headSpec ws rm).appliesLoose y e.platform (U.calling g mk a) = true :=
    Spec.appliesLoose_calling (g := g) h hdg hn hkY hinitY
      (X.room_calling (g := g) (R' := (headSpec ws rm).room) hsize hmY hcY hframes (by rw [hlY]; omega) h4 h5) h1
  obtain ⟨mid, hmid⟩ := h.above
  have hfr : (U.setTop g).frames = (.java g :: mid) ++ below := by rw [State.frames_setTop' g h.top, hmid]; rfl
  obtain ⟨o, s₂, hsteps, -, hend, hq⟩ := Steps.callFree hM p X.admits X.cas X.clock (acts := []) hfr happ hPc trivial
  have hq' : vx_Q Qc XC mc ms free a (U.calling g mk a) o s₂ := hq
  rw [State.frames_setTop' g h.top] at hend
  obtain ⟨g₀, hg0⟩ := Option.isSome_iff_exists.mp h.top
  obtain ⟨r, hr⟩ := State.topJava?_eq_some.mp hg0
  have hr' : (({ U with heap := s₂.heap, slotsUsed := s₂.slotsUsed } : State).setVm s₂.vm).frames = .java g₀ :: r := hr
  rcases hq' with ⟨hqc, L, hfe, hL⟩ | ⟨q, rfl, E, ce, L, hx, hce, hcv, hcl, hW₂, hsm, hL⟩
  · obtain ⟨⟨v, rfl⟩, hW₂, e2, q2, q3, q4, q5, q6⟩ := id hfe
    have e3 : s₂ = ({ (U.calling g mk a).setFrames s₂.frames with heap := s₂.heap, slotsUsed := s₂.slotsUsed } : State).setVm s₂.vm := by
      have : s₂ = ({ s₂ with vm := (U.calling g mk a).vm } : State).setVm s₂.vm := rfl
      rw [e2] at this
      exact this
    obtain ⟨c₂, i₂, len₂, hc₂, hd₂, hf₂⟩ := hend
    have hW' : U.WarmedH s₂.vm := hW₂
    have hcc : c₂ = c := by
      have h1 : s₂.code? g.method = U.code? g.method := by
        rw [State.code?_eq, State.code?_eq, hW'.alike.method?]
      exact Option.some.inj (hc₂.symm.trans (h1.trans h.code))
    subst hcc
    have hlen : len₂ = len := by rw [hdg] at hd₂; cases hd₂; rfl
    subst hlen
    have hs₂ : s₂ = (({ U with heap := s₂.heap, slotsUsed := s₂.slotsUsed } : State).setVm s₂.vm).setTop { g with pc := g.pc + len₂, stack := v.toList ++ g.stack } := by
      refine e3.trans ?_
      rw [hf₂, State.calling_eq h.top, State.setFrames_setFrames, State.setTop_of_frames _ hr', hr]
      rfl
    have hsame : U.sameButNew ({ U with heap := s₂.heap, slotsUsed := s₂.slotsUsed } : State) L mc ms := by
      refine ⟨?_, q2, q3, q4, q5, q6⟩
      obtain ⟨t, ht, -⟩ := State.frames_cons hr
      show ({ U with heap := s₂.heap, slotsUsed := s₂.slotsUsed } : State) = { U.setFrames U.frames with heap := s₂.heap, slotsUsed := s₂.slotsUsed }
      rw [State.setFrames_self ht]
    subst hg
    refine Or.inl ⟨v, ⟨(({ U with heap := s₂.heap, slotsUsed := s₂.slotsUsed } : State).setVm s₂.vm), Ls ++ L, c0 + mc, s0 + ms⟩,
      ⟨X.admits, X.cas, X.clock, X.frames, X.room, X.hears, X.method, X.code, (X.here.setHeapUsed s₂.heap s₂.slotsUsed).setVm hW'.alike, X.tail, State.WarmedH.trans X.warmed hW', X.limits, X.bytes, X.same.trans (hsame.setVm s.vm)⟩,
      ⟨g, mk, s₂, L, rfl, rfl, hqc, rfl, hL, rfl, rfl⟩, ?_⟩
    show Steps p.tables e below _ ((({ U with heap := s₂.heap, slotsUsed := s₂.slotsUsed } : State).setVm s₂.vm).setTop { g with pc := g.pc + len₂, stack := v.toList ++ g.stack })
    rw [← hs₂]
    exact hsteps
  · obtain ⟨e2, q2, q3, q4, q5, q6⟩ := id hsm
    have e3 : s₂ = ({ (U.calling g mk a).setFrames s₂.frames with heap := s₂.heap, slotsUsed := s₂.slotsUsed } : State).setVm s₂.vm := by
      have : s₂ = ({ s₂ with vm := (U.calling g mk a).vm } : State).setVm s₂.vm := rfl
      rw [e2] at this
      exact this
    have hf₂ : s₂.frames = .throwing q :: .java g :: U.frames.tail := hend
    have hW' : U.WarmedH s₂.vm := hW₂
    have hs₂ : s₂ = ((({ U with heap := s₂.heap, slotsUsed := s₂.slotsUsed } : State).setVm s₂.vm).setTop g).pushFrame (.throwing q) := by
      refine e3.trans ?_
      rw [hf₂, State.calling_eq h.top, State.setFrames_setFrames, State.pushFrame, State.frames_setTop _ hr', State.setTop_of_frames _ hr', State.setFrames_setFrames, hr]
      rfl
    have hsame : U.sameButNew ({ U with heap := s₂.heap, slotsUsed := s₂.slotsUsed } : State) L mc ms := by
      refine ⟨?_, q2, q3, q4, q5, q6⟩
      obtain ⟨t, ht, -⟩ := State.frames_cons hr
      show ({ U with heap := s₂.heap, slotsUsed := s₂.slotsUsed } : State) = { U.setFrames U.frames with heap := s₂.heap, slotsUsed := s₂.slotsUsed }
      rw [State.setFrames_self ht]
    subst hg
    refine Or.inr ⟨q, ⟨(({ U with heap := s₂.heap, slotsUsed := s₂.slotsUsed } : State).setVm s₂.vm), Ls ++ L, c0 + mc, s0 + ms⟩,
      ⟨X.admits, X.cas, X.clock, X.frames, X.room, X.hears, X.method, X.code, (X.here.setHeapUsed s₂.heap s₂.slotsUsed).setVm hW'.alike, X.tail, State.WarmedH.trans X.warmed hW', X.limits, X.bytes, X.same.trans (hsame.setVm s.vm)⟩,
      ⟨g, mk, s₂, L, E, ce, rfl, rfl, hx, hce, hcv, hcl, rfl, hL, rfl, rfl⟩, ?_⟩
    show Steps p.tables e below _ (((({ U with heap := s₂.heap, slotsUsed := s₂.slotsUsed } : State).setVm s₂.vm).setTop g).pushFrame (.throwing q))
    rw [← hs₂]
    exact hsteps
end
variable {p : Program} {l : Launch} {e : Env} {R : Room} {s : State} {m : MethodId} {args : Array Value} {below : List Frame} {meth : Method} {c : Code} {T : State} {H : Heap} {locs : List Loc} {cells slots : Nat}
theorem vx_callVX (X : Stand p l e R s m args below meth c T locs cells slots) (hexec : p.tables.exec = Jvm.exec) {own C : String} {index : Nat} {y : MethodName} {bytes : ByteArray} {maxL : Nat} {ret : Option FieldType} {hh : List (Nat × Nat × Nat × Nat)}
    (hown : s.vm.findClass own = some m.cls) (hlink : (Cond.methodLink own index y).before args s = true) (hinst : (Cond.instanceMethod y).before args s = true) (hsel : (Cond.selects C y y).before args s = true)
    (hcode : (Cond.codeWith y bytes maxL ret hh).before args s = true) (hy : y.cls ≠ "java/lang/invoke/MethodHandle" ∧ y.cls ≠ "java/lang/invoke/VarHandle")
    {W9 : Nat} {Pre : Pt → Array Value → Prop} {Post : Pt → Array Value → Option Value → Pt → Prop} {PostX : Pt → Array Value → Addr → Pt → Prop} (hK : vx_Back l R p e below s args y 3 W9 Pre Post PostX)
    {b : Addr} {cellB : Cell} (hcell : T.heap[b]? = some cellB) (hobj : cellB.vm.isStatics = false) (hcls : s.vm.findClass C = some cellB.cls)
    {g : JFrame} (hg : g.method = m) (hsize : g.locals.size = c.maxLocals) {argsL rest : List Value} (hlen : ∀ sig, parseMethodDescriptor y.desc = some sig → argsL.length = sig.parameters.length)
    (hstack : g.stack = argsL.reverse ++ .ref b :: rest) (hW : 2 * g.monitorRoom + (rest.map fun v => v.category).sum ≤ W9) (hdg : decode c.code g.pc = .ok (.invokevirtual index, 3))
    (hpre : ∀ vm₁, s.WarmedH vm₁ → Pre ⟨T.setVm vm₁, locs, cells, slots⟩ (Value.ref b :: argsL).toArray) :
    (∃ (v : Option Value) (vm₁ : Vm) (B : Pt), s.WarmedH vm₁ ∧ Stand p l e R s m args below meth c B.U B.locs B.cells B.slots ∧ Post ⟨T.setVm vm₁, locs, cells, slots⟩ (Value.ref b :: argsL).toArray v B ∧
      ∀ target, Steps p.tables e below (B.U.setTop { g with pc := g.pc + 3, stack := v.toList ++ rest }) target → Steps p.tables e below (T.setTop g) target) ∨
    (∃ (q : Addr) (vm₁ : Vm) (B : Pt), s.WarmedH vm₁ ∧ Stand p l e R s m args below meth c B.U B.locs B.cells B.slots ∧ PostX ⟨T.setVm vm₁, locs, cells, slots⟩ (Value.ref b :: argsL).toArray q B ∧
      Steps p.tables e below (T.setTop g) ((B.U.setTop { g with stack := rest }).pushFrame (.throwing q))) := by
  obtain ⟨mk, methM, hnamed, hmethM, hstM, habM⟩ := Cond.instanceMethod_spec hinst
  obtain ⟨m8, methM', cM, hn8, hmethM', -, -, -, -, -, -, hsigM⟩ := Cond.codeWith_spec hcode
  cases Option.some.inj (hn8.symm.trans hnamed)
  cases hmethM.symm.trans hmethM'
  obtain ⟨c2, r2, m2, q1, q2, q3, q4, kP, hkP, hkPi⟩ := Cond.selects_spec hsel
  cases hcls.symm.trans q1
  cases (State.methodFound?_of_named hnamed hy).symm.trans q2
  cases hnamed.symm.trans q3
  have hselP : selectMethod e.platform s.vm cellB.cls mk = .method mk := by rw [Launch.admits_selectMethod X.admits]; exact q4
  obtain ⟨vm₁, X₁, hstep₁⟩ := X.invokevirtual hexec hown hlink hnamed hmethM hstM hkP hkPi hy (a := b) (cell := cellB) hcell
    (fun z h => by rw [h] at hobj; cases hobj) hselP hmethM habM hkP hkPi (g := g) hg (argsL := argsL) (rest := rest) (hlen _ hsigM) hstack hdg
  rcases hK m meth c ⟨T.setVm vm₁, locs, cells, slots⟩ { g with stack := rest } (.invokevirtual index) mk (Value.ref b :: argsL).toArray X₁ hg hsize hdg hW (X₁.named hnamed) (hpre vm₁ X₁.warmed) with ⟨v, B, X', hpost, hsteps⟩ | ⟨q, B, X', hpost, hsteps⟩
  · exact Or.inl ⟨v, vm₁, B, X₁.warmed, X', hpost, fun target h => hstep₁ _ fun acts => by rw [doInvoke_state]; exact hsteps.trans h⟩
  · exact Or.inr ⟨q, vm₁, B, X₁.warmed, X', hpost, hstep₁ _ fun acts => by rw [doInvoke_state]; exact hsteps⟩
theorem vx_callSX (X : Stand p l e R s m args below meth c T locs cells slots) (hexec : p.tables.exec = Jvm.exec) {own : String} {index : Nat} {y : MethodName} {bytes : ByteArray} {maxL : Nat} {ret : Option FieldType} {hh : List (Nat × Nat × Nat × Nat)}
    (hown : s.vm.findClass own = some m.cls) (hlink : (Cond.methodLink own index y).before args s = true) (hstat : (Cond.static y).before args s = true) (hinit : (Cond.initialized y.cls).before args s = true)
    (hcode : (Cond.codeWith y bytes maxL ret hh).before args s = true) (hy : y.cls ≠ "java/lang/invoke/MethodHandle" ∧ y.cls ≠ "java/lang/invoke/VarHandle")
    {W9 : Nat} {Pre : Pt → Array Value → Prop} {Post : Pt → Array Value → Option Value → Pt → Prop} {PostX : Pt → Array Value → Addr → Pt → Prop} (hK : vx_Back l R p e below s args y 3 W9 Pre Post PostX)
    {g : JFrame} (hg : g.method = m) (hsize : g.locals.size = c.maxLocals) {argsL rest : List Value} (hlen : ∀ sig, parseMethodDescriptor y.desc = some sig → argsL.length = sig.parameters.length)
    (hstack : g.stack = argsL.reverse ++ rest) (hW : 2 * g.monitorRoom + (rest.map fun v => v.category).sum ≤ W9) (hdg : decode c.code g.pc = .ok (.invokestatic index, 3))
    (hpre : ∀ vm₁, s.WarmedH vm₁ → Pre ⟨T.setVm vm₁, locs, cells, slots⟩ argsL.toArray) :
    (∃ (v : Option Value) (vm₁ : Vm) (B : Pt), s.WarmedH vm₁ ∧ Stand p l e R s m args below meth c B.U B.locs B.cells B.slots ∧ Post ⟨T.setVm vm₁, locs, cells, slots⟩ argsL.toArray v B ∧
      ∀ target, Steps p.tables e below (B.U.setTop { g with pc := g.pc + 3, stack := v.toList ++ rest }) target → Steps p.tables e below (T.setTop g) target) ∨
    (∃ (q : Addr) (vm₁ : Vm) (B : Pt), s.WarmedH vm₁ ∧ Stand p l e R s m args below meth c B.U B.locs B.cells B.slots ∧ PostX ⟨T.setVm vm₁, locs, cells, slots⟩ argsL.toArray q B ∧
      Steps p.tables e below (T.setTop g) ((B.U.setTop { g with stack := rest }).pushFrame (.throwing q))) := by
  obtain ⟨mk, methM, cM, hnamed, hmethM, -, -, -, -, -, -, hsigM⟩ := Cond.codeWith_spec hcode
  have hstatic : methM.isStatic = true := Cond.static_spec hnamed hmethM hstat
  obtain ⟨kP, hkP, -⟩ := className_of_methodNamed hnamed
  have hinitP : kP.init = .initialized := Cond.initialized_spec (findClass_of_methodNamed hnamed) hkP hinit
  obtain ⟨vm₁, X₁, hstep₁⟩ := X.invokestatic hexec hown hlink hnamed hmethM hstatic hkP hinitP hy (g := g) hg (argsL := argsL) (rest := rest) (hlen _ hsigM) hstack hdg
  rcases hK m meth c ⟨T.setVm vm₁, locs, cells, slots⟩ { g with stack := rest } (.invokestatic index) mk argsL.toArray X₁ hg hsize hdg hW (X₁.named hnamed) (hpre vm₁ X₁.warmed) with ⟨v, B, X', hpost, hsteps⟩ | ⟨q, B, X', hpost, hsteps⟩
  · exact Or.inl ⟨v, vm₁, B, X₁.warmed, X', hpost, fun target h => hstep₁ _ fun acts => by rw [doInvoke_state]; exact hsteps.trans h⟩
  · exact Or.inr ⟨q, vm₁, B, X₁.warmed, X', hpost, hstep₁ _ fun acts => by rw [doInvoke_state]; exact hsteps⟩
theorem vx_callVW (X : Stand p l e R s m args below meth c T locs cells slots) (hexec : p.tables.exec = Jvm.exec) {own C : String} {index : Nat} {y : MethodName} {bytes : ByteArray} {maxL : Nat} {ret : Option FieldType} {hh : List (Nat × Nat × Nat × Nat)}
    (hown : s.vm.findClass own = some m.cls) (hlink : (Cond.methodLink own index y).before args s = true) (hinst : (Cond.instanceMethod y).before args s = true) (hsel : (Cond.selects C y y).before args s = true)
    (hcode : (Cond.codeWith y bytes maxL ret hh).before args s = true) (hy : y.cls ≠ "java/lang/invoke/MethodHandle" ∧ y.cls ≠ "java/lang/invoke/VarHandle")
    {W9 : Nat} {Pre : Pt → Array Value → Prop} {Post : Pt → Array Value → Option Value → Pt → Prop} (hK : Back l R p e below s args y 3 W9 Pre Post)
    {b : Addr} {cellB : Cell} (hcell : T.heap[b]? = some cellB) (hobj : cellB.vm.isStatics = false) (hcls : s.vm.findClass C = some cellB.cls)
    {g : JFrame} (hg : g.method = m) (hsize : g.locals.size = c.maxLocals) {argsL rest : List Value} (hlen : ∀ sig, parseMethodDescriptor y.desc = some sig → argsL.length = sig.parameters.length)
    (hstack : g.stack = argsL.reverse ++ .ref b :: rest) (hW : 2 * g.monitorRoom + (rest.map fun v => v.category).sum ≤ W9) (hdg : decode c.code g.pc = .ok (.invokevirtual index, 3))
    (hpre : ∀ vm₁, s.WarmedH vm₁ → Pre ⟨T.setVm vm₁, locs, cells, slots⟩ (Value.ref b :: argsL).toArray) :
    ∃ (v : Option Value) (vm₁ : Vm) (B : Pt), s.WarmedH vm₁ ∧ Stand p l e R s m args below meth c B.U B.locs B.cells B.slots ∧ Post ⟨T.setVm vm₁, locs, cells, slots⟩ (Value.ref b :: argsL).toArray v B ∧
      ∀ target, Steps p.tables e below (B.U.setTop { g with pc := g.pc + 3, stack := v.toList ++ rest }) target → Steps p.tables e below (T.setTop g) target := by
  obtain ⟨mk, methM, hnamed, hmethM, hstM, habM⟩ := Cond.instanceMethod_spec hinst
  obtain ⟨m8, methM', cM, hn8, hmethM', -, -, -, -, -, -, hsigM⟩ := Cond.codeWith_spec hcode
  cases Option.some.inj (hn8.symm.trans hnamed)
  cases hmethM.symm.trans hmethM'
  obtain ⟨c2, r2, m2, q1, q2, q3, q4, kP, hkP, hkPi⟩ := Cond.selects_spec hsel
  cases hcls.symm.trans q1
  cases (State.methodFound?_of_named hnamed hy).symm.trans q2
  cases hnamed.symm.trans q3
  have hselP : selectMethod e.platform s.vm cellB.cls mk = .method mk := by rw [Launch.admits_selectMethod X.admits]; exact q4
  obtain ⟨vm₁, X₁, hstep₁⟩ := X.invokevirtual hexec hown hlink hnamed hmethM hstM hkP hkPi hy (a := b) (cell := cellB) hcell
    (fun z h => by rw [h] at hobj; cases hobj) hselP hmethM habM hkP hkPi (g := g) hg (argsL := argsL) (rest := rest) (hlen _ hsigM) hstack hdg
  obtain ⟨v, B, X', hpost, hsteps⟩ := hK m meth c ⟨T.setVm vm₁, locs, cells, slots⟩ { g with stack := rest } (.invokevirtual index) mk (Value.ref b :: argsL).toArray X₁ hg hsize hdg hW (X₁.named hnamed) (hpre vm₁ X₁.warmed)
  exact ⟨v, vm₁, B, X₁.warmed, X', hpost, fun target h => hstep₁ _ fun acts => by rw [doInvoke_state]; exact hsteps.trans h⟩
abbrev vx_CVW (R : Room) (s : State) (args : Array Value) (own C : String) (index : Nat) (y : MethodName) (bytes : ByteArray) (maxL : Nat) (ret : Option FieldType) (hh : List (Nat × Nat × Nat × Nat)) (ws : List Cond) (rm : Room) (mc ms n : Nat) : Prop :=
  (rm.cells = mc ∧ rm.slots = ms ∧ rm.frames + 1 ≤ R.frames ∧ 8 + (maxL + 11) + rm.locals ≤ R.locals ∧ (∀ w ∈ ws, ∀ (a' : Array Value) (U : State), s.WarmedH U.vm → w.before a' U = true) ∧ Cond.codeWith y bytes maxL ret hh ∈ ws) ∧
  (Cond.codeWith y bytes maxL ret hh).before args s = true ∧ (Cond.initialized y.cls).before args s = true ∧ (y.cls ≠ "java/lang/invoke/MethodHandle" ∧ y.cls ≠ "java/lang/invoke/VarHandle") ∧
  (∀ sig, parseMethodDescriptor y.desc = some sig → n = sig.parameters.length) ∧ (Cond.methodLink own index y).before args s = true ∧ (Cond.instanceMethod y).before args s = true ∧ (Cond.selects C y y).before args s = true
theorem vx_cwVW {own C : String} {index maxL mc ms : Nat} {y : MethodName} {bytes : ByteArray} {ret : Option FieldType} {hh : List (Nat × Nat × Nat × Nat)} {Ts ws ws' : List Cond} {rm : Room} (n : Nat) (ht : ∀ w ∈ Ts, w.before args s = true) (hT : GoodIn Ts (wsV own index C y ws)) (hw : ws = Cond.codeWith y bytes maxL ret hh :: ws') (hrc : rm.cells = mc) (hrs : rm.slots = ms)
    (hd : y.cls = C ∧ y.cls ≠ "java/lang/invoke/MethodHandle" ∧ y.cls ≠ "java/lang/invoke/VarHandle" ∧ (parseMethodDescriptor y.desc).map (fun d => d.parameters.length) = some n) (hR : rm.frames + 1 ≤ R.frames ∧ 8 + (maxL + 11) + rm.locals ≤ R.locals) :
    vx_CVW R s args own C index y bytes maxL ret hh ws rm mc ms n := by
  obtain ⟨hC, hd⟩ := hd
  subst hC
  have ok : ∀ w ∈ wsV own index y.cls y ws, w.before args s = true := fun w h => ht w (hT w h).1
  have hG : GoodIn Ts ws := fun w h => hT w (by unfold wsV; exact List.mem_append_right _ h)
  have hc : Cond.codeWith y bytes maxL ret hh ∈ ws := by rw [hw]; exact List.mem_cons_self
  refine ⟨⟨hrc, hrs, hR.1, hR.2, pay_in ht hG, hc⟩, ht _ (hG _ hc).1, ok _ (by simp [wsV]), ⟨hd.1, hd.2.1⟩, fun sig h => ?_, ok _ (by simp [wsV]), ok _ (by simp [wsV]), ok _ (by simp [wsV])⟩
  have h2 := hd.2.2
  rw [h] at h2
  exact (Option.some.inj h2).symm
theorem vx_runVW {y : MethodName} {bytes cc : ByteArray} {maxL nL mc ms n index : Nat} {ret : Option FieldType} {hh : List (Nat × Nat × Nat × Nat)} {ws : List Cond} {rm : Room} {Pc : Array Value → State → Prop} {Qc : Array Value → State → Outcome → State → Prop} {free : Addr → Prop} {Ts : List Cond} {own C : String} {b : Addr} {As rest : List Value} {g : JFrame}
    (S : CallFix p m c cc nL s args Ts own) (hM : Met l y ws rm Pc Qc mc ms free) (cw : vx_CVW R s args own C index y bytes maxL ret hh ws rm mc ms n) (hp : PreV s H C b Pc As)
    (hg : g.method = m) (hn : As.length = n) (hsize : g.locals.size = nL) (hstack : g.stack = As.reverse ++ .ref b :: rest) (hW : 2 * g.monitorRoom + (rest.map fun v => v.category).sum ≤ 8) (hdg : decode cc g.pc = .ok (.invokevirtual index, 3)) (hf : cells + mc ≤ R.cells ∧ slots + ms ≤ R.slots) :
    va_Run p l e R s m args below meth c H locs cells slots mc ms g rest (Qc (Value.ref b :: As).toArray) free := by
  obtain ⟨⟨hrc, hrs, hfr, hlo, hws, hcw⟩, hcode, hini, hy, hlen, hl, hin, hse⟩ := cw
  have hK : Back l R p e below s args y 3 8 (PreOf R mc ms Pc) (PostOf Qc mc ms free) := va_backW (hh := hh) (bytes := bytes) (maxL := maxL) (ret := ret) hM hp.1 hrc hrs hfr hlo hws hcw (fun a' U hW => word_at hW (Or.inl (by first | rfl | simp [Cond.onTables, Cond.keeps, Cond.steady])) hini)
  obtain ⟨hx, hb, hml, ho, -⟩ := S
  obtain ⟨-, ⟨cellB, hcB, hoB, hclB⟩, hPc⟩ := hp
  intro T hT X
  obtain ⟨v, vm₁, ⟨U', l2, c2, s2⟩, hW₁, X', ⟨g', mk, t, L, e1, e2, hq, h1, hL, h2, h3⟩, st⟩ := vx_callVW X hx (C := C) (hh := hh) (bytes := bytes) (maxL := maxL) (ret := ret) ho hl hin hse hcode hy hK (by rw [hT]; exact hcB) hoB hclB hg (hsize.trans hml.symm) (argsL := As) (rest := rest) (fun sig h => hn.trans (hlen sig h)) hstack hW (by rw [hb]; exact hdg)
    (fun vm₁ hW₁ => ⟨hf.1, hf.2, hPc (T.setVm vm₁) hT hW₁⟩)
  dsimp only [Pt.U, Pt.locs, Pt.cells, Pt.slots] at X' e1 e2 h1 h2 h3 st
  subst h1; subst h2; subst h3
  exact ⟨v, (T.setVm vm₁).calling g' mk (Value.ref b :: As).toArray, t, U', L, hT, X', hL, e1, e2, hq, st⟩
section
variable {y : MethodName} {bytes cc : ByteArray} {maxL nL mc ms n index : Nat} {ret : Option FieldType} {ws : List Cond} {rm : Room} {Pc : Array Value → State → Prop} {Qc : Array Value → State → Outcome → State → Prop} {XC : String → State → State → Prop} {free : Addr → Prop} {Ts : List Cond} {own C : String} {b : Addr} {As rest : List Value} {g : JFrame}
theorem vx_runVX {hh : List (Nat × Nat × Nat × Nat)} (S : CallFix p m c cc nL s args Ts own) (hM : vx_Met l y ws rm Pc Qc XC mc ms free) (cw : vx_CVW R s args own C index y bytes maxL ret hh ws rm mc ms n) (hp : PreV s H C b Pc As)
    (hg : g.method = m) (hn : As.length = n) (hsize : g.locals.size = nL) (hstack : g.stack = As.reverse ++ .ref b :: rest) (hW : 2 * g.monitorRoom + (rest.map fun v => v.category).sum ≤ 8) (hdg : decode cc g.pc = .ok (.invokevirtual index, 3)) (hf : cells + mc ≤ R.cells ∧ slots + ms ≤ R.slots) :
    vx_Run p l e R s m args below meth c H locs cells slots mc ms g rest (Qc (Value.ref b :: As).toArray) XC free := by
  obtain ⟨⟨hrc, hrs, hfr, hlo, hws, hcw⟩, hcode, hini, hy, hlen, hl, hin, hse⟩ := cw
  have hK : vx_Back l R p e below s args y 3 8 (PreOf R mc ms Pc) (PostOf Qc mc ms free) (vx_Post XC mc ms free) := vx_backW (hh := hh) (bytes := bytes) (maxL := maxL) (ret := ret) hM hp.1 hrc hrs hfr hlo hws hcw (fun a' U hW => word_at hW (Or.inl (by first | rfl | simp [Cond.onTables, Cond.keeps, Cond.steady])) hini)
  obtain ⟨hx, hb, hml, ho, -⟩ := S
  obtain ⟨-, ⟨cellB, hcB, hoB, hclB⟩, hPc⟩ := hp
  intro T hT X
  rcases vx_callVX X hx (C := C) (hh := hh) (bytes := bytes) (maxL := maxL) (ret := ret) ho hl hin hse hcode hy hK (by rw [hT]; exact hcB) hoB hclB hg (hsize.trans hml.symm) (argsL := As) (rest := rest) (fun sig h => hn.trans (hlen sig h)) hstack hW (by rw [hb]; exact hdg)
    (fun vm₁ hW₁ => ⟨hf.1, hf.2, hPc (T.setVm vm₁) hT hW₁⟩) with ⟨v, vm₁, ⟨U', l2, c2, s2⟩, hW₁, X', ⟨g', mk, t, L, e1, e2, hq, h1, hL, h2, h3⟩, st⟩ | ⟨q, vm₁, ⟨U', l2, c2, s2⟩, hW₁, X', ⟨g', mk, t, L, E, ce, e1, e2, hq, hce, hcv, hcl, h1, hL, h2, h3⟩, st⟩
  · dsimp only [Pt.U, Pt.locs, Pt.cells, Pt.slots] at X' e1 e2 h1 h2 h3 st
    subst h1; subst h2; subst h3
    exact Or.inl ⟨v, (T.setVm vm₁).calling g' mk (Value.ref b :: As).toArray, t, U', L, hT, X', hL, e1, e2, hq, st⟩
  · dsimp only [Pt.U, Pt.locs, Pt.cells, Pt.slots] at X' e1 e2 h1 h2 h3 st hcl
    subst h1; subst h2; subst h3
    exact Or.inr ⟨q, (T.setVm vm₁).calling g' mk (Value.ref b :: As).toArray, t, U', L, E, ce, hT, X', hL, e1, e2, hq, hce, hcv, vx_cls hW₁ hcl, st⟩
theorem vx_runSX {hh : List (Nat × Nat × Nat × Nat)} (S : CallFix p m c cc nL s args Ts own) (hM : vx_Met l y ws rm Pc Qc XC mc ms free) (cw : vx_CSW R s args own index y bytes maxL ret hh ws rm mc ms n) (hp : PreS s H Pc As)
    (hg : g.method = m) (hn : As.length = n) (hsize : g.locals.size = nL) (hstack : g.stack = As.reverse ++ rest) (hW : 2 * g.monitorRoom + (rest.map fun v => v.category).sum ≤ 8) (hdg : decode cc g.pc = .ok (.invokestatic index, 3)) (hf : cells + mc ≤ R.cells ∧ slots + ms ≤ R.slots) :
    vx_Run p l e R s m args below meth c H locs cells slots mc ms g rest (Qc As.toArray) XC free := by
  obtain ⟨⟨hrc, hrs, hfr, hlo, hws, hcw⟩, hcode, hini, hy, hlen, hl, hstt⟩ := cw
  have hK : vx_Back l R p e below s args y 3 8 (PreOf R mc ms Pc) (PostOf Qc mc ms free) (vx_Post XC mc ms free) := vx_backW (hh := hh) (bytes := bytes) (maxL := maxL) (ret := ret) hM hp.1 hrc hrs hfr hlo hws hcw (fun a' U hW => word_at hW (Or.inl (by first | rfl | simp [Cond.onTables, Cond.keeps, Cond.steady])) hini)
  obtain ⟨hx, hb, hml, ho, -⟩ := S
  intro T hT X
  rcases vx_callSX X hx (hh := hh) (bytes := bytes) (maxL := maxL) (ret := ret) ho hl hstt hini hcode hy hK hg (hsize.trans hml.symm) (argsL := As) (rest := rest) (fun sig h => hn.trans (hlen sig h)) hstack hW (by rw [hb]; exact hdg)
    (fun vm₁ hW₁ => ⟨hf.1, hf.2, hp.2 (T.setVm vm₁) hT hW₁⟩) with ⟨v, vm₁, ⟨U', l2, c2, s2⟩, hW₁, X', ⟨g', mk, t, L, e1, e2, hq, h1, hL, h2, h3⟩, st⟩ | ⟨q, vm₁, ⟨U', l2, c2, s2⟩, hW₁, X', ⟨g', mk, t, L, E, ce, e1, e2, hq, hce, hcv, hcl, h1, hL, h2, h3⟩, st⟩
  · dsimp only [Pt.U, Pt.locs, Pt.cells, Pt.slots] at X' e1 e2 h1 h2 h3 st
    subst h1; subst h2; subst h3
    exact Or.inl ⟨v, (T.setVm vm₁).calling g' mk As.toArray, t, U', L, hT, X', hL, e1, e2, hq, st⟩
  · dsimp only [Pt.U, Pt.locs, Pt.cells, Pt.slots] at X' e1 e2 h1 h2 h3 st hcl
    subst h1; subst h2; subst h3
    exact Or.inr ⟨q, (T.setVm vm₁).calling g' mk As.toArray, t, U', L, E, ce, hT, X', hL, e1, e2, hq, hce, hcv, vx_cls hW₁ hcl, st⟩
end
end VXH
theorem vx_ofWH {l : Launch} {y : MethodName} {ws ws' : List Cond} {rm : Room} {Pc : Array Value → State → Prop} {Qc : Array Value → State → Outcome → State → Prop} {XC : String → State → State → Prop} {mc ms : Nat} {free : Addr → Prop} {cc : ByteArray} {maxL : Nat} {ret : Option FieldType} {hh : List (Nat × Nat × Nat × Nat)}
    (hy : plainName y.cls = true) (hw : ws = Cond.codeWith y cc maxL ret hh :: ws')
    (body : ∀ p e s m args below meth c s₁, BodyLoose p l y (headSpec ws rm) cc maxL ret e s m args below meth c s₁ → c.maxLocals = maxL → Pc args s →
      W p l e (headSpec ws rm).room s m args below meth c s.heap [] 0 0 (vx_MQ below Qc XC args s mc ms free) (entryFrame m args maxL)) : vx_Met l y ws rm Pc Qc XC mc ms free := by
  refine MetFree.of_bodyS (code := cc) (maxLocals := maxL) (ret := ret) hy ?_ ?_
  · intro args s m h hn
    obtain ⟨m9, meth, c, hn9, h1, h2, h3, h4, -, h5, h6, -⟩ := Cond.codeWith_spec (atoms_spec (ws := ws) h _ (by rw [hw]; exact List.mem_cons_self))
    cases hn.symm.trans hn9
    exact ⟨meth, c, h1, h2, h3, h4, h5, h6⟩
  · intro p e s m args below meth c s₁ B hml hP _
    have hh0 : s₁.heap = s.heap := by rw [B.state]; rfl
    obtain ⟨t, a1, o, b1, b2, b3⟩ := body p e s m args below meth c s₁ B hml hP s₁ hh0 (Stand.of_body B)
    exact ⟨t, o, a1, b1, b2, b3⟩
/-! ===== END ===== -/
end
section
/-! ===== BEGIN printed: names, fields, word lists, decode rows ===== -/
def RX0 : String := "FacadeShow$Projector"
def TX0 : u_T := fun k => match k with
  | 0 => ("FacadeShow$Projector", "column", "I", true)
  | 1 => ("FacadeShow$Projector", "row", "I", true)
  | 2 => ("FacadeShow$Projector", "power", "I", true)
  | 3 => ("FacadeShow$Projector", "phase", "I", true)
  | 4 => ("FacadeShow$Projector", "focus", "I", true)
  | 5 => ("FacadeShow$Projector", "from", "I", false)
  | 6 => ("FacadeShow$Projector", "to", "I", false)
  | 7 => ("FacadeShow$Projector", "isOn", "Z", false)
  | 8 => ("FacadeShow$Projector", "hasFailed", "Z", false)
  | _ => ("FacadeShow$Projector", "readyUpTo", "I", false)
def tyX0 : Nat → FieldType := fun k => match k with
  | 0 => .int
  | 1 => .int
  | 2 => .int
  | 3 => .int
  | 4 => .int
  | 5 => .int
  | 6 => .int
  | 7 => .boolean
  | 8 => .boolean
  | _ => .int
abbrev wsX00 : List Cond := u_ws RX0 TX0 10
theorem nmX0 : ∀ a, a < 10 → ∀ b, b < 10 → a ≠ b → (TX0 a).2.1 ≠ (TX0 b).2.1 := by decide +kernel
theorem tyX0_ok : ∀ k, k < 10 → parseFieldDescriptor (TX0 k).2.2.1 = some (tyX0 k) := by decide +kernel
abbrev cX0_init : ByteArray := prog_2_method_1_code
def yX0_init : MethodName := ⟨RX0, "<init>", "(IIIII)V"⟩
abbrev cX0_shines : ByteArray := prog_2_method_2_code
def yX0_shines : MethodName := ⟨RX0, "shines", "()Z"⟩
def RX1 : String := "FacadeShow$Scene"
def TX1 : u_T := fun k => match k with
  | 0 => ("FacadeShow$Scene", "version", "I", false)
  | _ => ("FacadeShow$Scene", "proposed", "I", false)
def tyX1 : Nat → FieldType := fun k => match k with
  | 0 => .int
  | _ => .int
abbrev wsX10 : List Cond := u_ws RX1 TX1 2
theorem nmX1 : ∀ a, a < 2 → ∀ b, b < 2 → a ≠ b → (TX1 a).2.1 ≠ (TX1 b).2.1 := by decide +kernel
theorem tyX1_ok : ∀ k, k < 2 → parseFieldDescriptor (TX1 k).2.2.1 = some (tyX1 k) := by decide +kernel
abbrev cX1_init : ByteArray := prog_3_method_1_code
def yX1_init : MethodName := ⟨RX1, "<init>", "()V"⟩
def RX2 : String := "FacadeShow$Square"
def TX2 : u_T := fun k => match k with
  | 0 => ("FacadeShow$Square", "reliefs", "[I", true)
  | 1 => ("FacadeShow$Square", "surfaces", "[I", true)
  | _ => ("FacadeShow$Square", "contents", "[I", true)
def tyX2 : Nat → FieldType := fun k => match k with
  | 0 => .array .int
  | 1 => .array .int
  | _ => .array .int
abbrev wsX20 : List Cond := u_ws RX2 TX2 3
theorem nmX2 : ∀ a, a < 3 → ∀ b, b < 3 → a ≠ b → (TX2 a).2.1 ≠ (TX2 b).2.1 := by decide +kernel
theorem tyX2_ok : ∀ k, k < 3 → parseFieldDescriptor (TX2 k).2.2.1 = some (tyX2 k) := by decide +kernel
abbrev cX2_init : ByteArray := prog_4_method_1_code
def yX2_init : MethodName := ⟨RX2, "<init>", "()V"⟩
abbrev cX2_build : ByteArray := prog_4_method_2_code
def yX2_build : MethodName := ⟨RX2, "build", "(III)V"⟩
abbrev cX2_reliefOf : ByteArray := prog_4_method_3_code
def yX2_reliefOf : MethodName := ⟨RX2, "reliefOf", "(I)I"⟩
abbrev cX2_hundredthsOf : ByteArray := prog_4_method_4_code
def yX2_hundredthsOf : MethodName := ⟨RX2, "hundredthsOf", "(I)I"⟩
abbrev cX2_isCell : ByteArray := prog_4_method_5_code
def yX2_isCell : MethodName := ⟨RX2, "isCell", "(II)Z"⟩
abbrev cX2_put : ByteArray := prog_4_method_6_code
def yX2_put : MethodName := ⟨RX2, "put", "(III)V"⟩
abbrev cX2_contentOf : ByteArray := prog_4_method_7_code
def yX2_contentOf : MethodName := ⟨RX2, "contentOf", "(II)I"⟩
abbrev cX2_stopsRays : ByteArray := prog_4_method_8_code
def yX2_stopsRays : MethodName := ⟨RX2, "stopsRays", "(II)Z"⟩
abbrev cX2_hasTheLiving : ByteArray := prog_4_method_9_code
def yX2_hasTheLiving : MethodName := ⟨RX2, "hasTheLiving", "(II)Z"⟩
def RX3 : String := "FacadeShow$Survey"
def TX3 : u_T := fun k => match k with
  | 0 => ("FacadeShow$Survey", "lights", "[I", true)
  | _ => ("FacadeShow$Survey", "blurring", "[I", true)
def tyX3 : Nat → FieldType := fun k => match k with
  | 0 => .array .int
  | _ => .array .int
abbrev wsX30 : List Cond := u_ws RX3 TX3 2
theorem nmX3 : ∀ a, a < 2 → ∀ b, b < 2 → a ≠ b → (TX3 a).2.1 ≠ (TX3 b).2.1 := by decide +kernel
theorem tyX3_ok : ∀ k, k < 2 → parseFieldDescriptor (TX3 k).2.2.1 = some (tyX3 k) := by decide +kernel
abbrev cX3_init : ByteArray := prog_5_method_1_code
def yX3_init : MethodName := ⟨RX3, "<init>", "()V"⟩
abbrev cX3_isPlace : ByteArray := prog_5_method_2_code
def yX3_isPlace : MethodName := ⟨RX3, "isPlace", "(II)Z"⟩
abbrev cX3_note : ByteArray := prog_5_method_3_code
def yX3_note : MethodName := ⟨RX3, "note", "(IIIZ)V"⟩
abbrev cX3_isWellCovered : ByteArray := prog_5_method_4_code
def yX3_isWellCovered : MethodName := ⟨RX3, "isWellCovered", "(III)Z"⟩
abbrev cX3_coversAll : ByteArray := prog_5_method_5_code
def yX3_coversAll : MethodName := ⟨RX3, "coversAll", "(III)Z"⟩
def RX4 : String := "FacadeShow"
def TX4 : u_T := fun k => match k with
  | 0 => ("FacadeShow", "square", "LFacadeShow$Square;", true)
  | 1 => ("FacadeShow", "placed", "[LFacadeShow$Projector;", true)
  | 2 => ("FacadeShow", "projectorCount", "I", false)
  | 3 => ("FacadeShow", "borne", "[I", true)
  | 4 => ("FacadeShow", "windNow", "I", false)
  | 5 => ("FacadeShow", "needed", "I", false)
  | 6 => ("FacadeShow", "levelNow", "I", false)
  | 7 => ("FacadeShow", "survey", "LFacadeShow$Survey;", true)
  | 8 => ("FacadeShow", "curfewFrom", "I", false)
  | 9 => ("FacadeShow", "curfewTo", "I", false)
  | 10 => ("FacadeShow", "scenes", "[LFacadeShow$Scene;", true)
  | 11 => ("FacadeShow", "frameNow", "I", false)
  | 12 => ("FacadeShow", "heldCount", "I", false)
  | 13 => ("FacadeShow", "breachCount", "J", false)
  | 14 => ("FacadeShow", "energy", "J", false)
  | _ => ("FacadeShow", "minuteNow", "I", false)
def tyX4 : Nat → FieldType := fun k => match k with
  | 0 => .object "FacadeShow$Square"
  | 1 => .array (.object "FacadeShow$Projector")
  | 2 => .int
  | 3 => .array .int
  | 4 => .int
  | 5 => .int
  | 6 => .int
  | 7 => .object "FacadeShow$Survey"
  | 8 => .int
  | 9 => .int
  | 10 => .array (.object "FacadeShow$Scene")
  | 11 => .int
  | 12 => .int
  | 13 => .long
  | 14 => .long
  | _ => .int
abbrev wsX40 : List Cond := u_ws RX4 TX4 16
theorem nmX4 : ∀ a, a < 16 → ∀ b, b < 16 → a ≠ b → (TX4 a).2.1 ≠ (TX4 b).2.1 := by decide +kernel
theorem tyX4_ok : ∀ k, k < 16 → parseFieldDescriptor (TX4 k).2.2.1 = some (tyX4 k) := by decide +kernel
abbrev cX4_init : ByteArray := prog_1_method_1_code
def yX4_init : MethodName := ⟨RX4, "<init>", "()V"⟩
abbrev cX4_column : ByteArray := prog_1_method_2_code
def yX4_column : MethodName := ⟨RX4, "column", "(III)V"⟩
abbrev cX4_cell : ByteArray := prog_1_method_3_code
def yX4_cell : MethodName := ⟨RX4, "cell", "(III)I"⟩
abbrev cX4_need : ByteArray := prog_1_method_4_code
def yX4_need : MethodName := ⟨RX4, "need", "(II)V"⟩
abbrev cX4_projector : ByteArray := prog_1_method_5_code
def yX4_projector : MethodName := ⟨RX4, "projector", "(IIIII)I"⟩
abbrev cX4_aim : ByteArray := prog_1_method_6_code
def yX4_aim : MethodName := ⟨RX4, "aim", "(III)V"⟩
abbrev cX4_turn : ByteArray := prog_1_method_7_code
def yX4_turn : MethodName := ⟨RX4, "turn", "(IZ)Z"⟩
abbrev cX4_fail : ByteArray := prog_1_method_8_code
def yX4_fail : MethodName := ⟨RX4, "fail", "(IZ)Z"⟩
abbrev cX4_phase : ByteArray := prog_1_method_9_code
def yX4_phase : MethodName := ⟨RX4, "phase", "(II)I"⟩
abbrev cX4_wind : ByteArray := prog_1_method_10_code
def yX4_wind : MethodName := ⟨RX4, "wind", "(I)I"⟩
abbrev cX4_through : ByteArray := prog_1_method_11_code
def yX4_through : MethodName := ⟨RX4, "through", "(III)I"⟩
abbrev cX4_gives : ByteArray := prog_1_method_12_code
def yX4_gives : MethodName := ⟨RX4, "gives", "(II)I"⟩
abbrev cX4_isSharp : ByteArray := prog_1_method_13_code
def yX4_isSharp : MethodName := ⟨RX4, "isSharp", "(II)Z"⟩
abbrev cX4_light : ByteArray := prog_1_method_14_code
def yX4_light : MethodName := ⟨RX4, "light", "(I)I"⟩
abbrev cX4_blended : ByteArray := prog_1_method_15_code
def yX4_blended : MethodName := ⟨RX4, "blended", "(II)I"⟩
abbrev cX4_covered : ByteArray := prog_1_method_16_code
def yX4_covered : MethodName := ⟨RX4, "covered", "(I)I"⟩
abbrev cX4_least : ByteArray := prog_1_method_17_code
def yX4_least : MethodName := ⟨RX4, "least", "()I"⟩
abbrev cX4_leastAnew : ByteArray := prog_1_method_18_code
def yX4_leastAnew : MethodName := ⟨RX4, "leastAnew", "()I"⟩
abbrev cX4_bears : ByteArray := prog_1_method_19_code
def yX4_bears : MethodName := ⟨RX4, "bears", "(I)Z"⟩
abbrev cX4_breaches : ByteArray := prog_1_method_20_code
def yX4_breaches : MethodName := ⟨RX4, "breaches", "()I"⟩
abbrev cX4_curfew : ByteArray := prog_1_method_21_code
def yX4_curfew : MethodName := ⟨RX4, "curfew", "(II)V"⟩
abbrev cX4_ready : ByteArray := prog_1_method_22_code
def yX4_ready : MethodName := ⟨RX4, "ready", "(II)I"⟩
abbrev cX4_propose : ByteArray := prog_1_method_23_code
def yX4_propose : MethodName := ⟨RX4, "propose", "(II)I"⟩
abbrev cX4_answer : ByteArray := prog_1_method_24_code
def yX4_answer : MethodName := ⟨RX4, "answer", "(IZ)I"⟩
abbrev cX4_scene : ByteArray := prog_1_method_25_code
def yX4_scene : MethodName := ⟨RX4, "scene", "(IZ)I"⟩
abbrev cX4_show : ByteArray := prog_1_method_26_code
def yX4_show : MethodName := ⟨RX4, "show", "(I)J"⟩
abbrev cX4_pass : ByteArray := prog_1_method_27_code
def yX4_pass : MethodName := ⟨RX4, "pass", "(I)I"⟩
abbrev cX4_isColumn : ByteArray := prog_1_method_28_code
def yX4_isColumn : MethodName := ⟨RX4, "isColumn", "(I)Z"⟩
abbrev cX4_isOpenRow : ByteArray := prog_1_method_29_code
def yX4_isOpenRow : MethodName := ⟨RX4, "isOpenRow", "(I)Z"⟩
abbrev cX4_isPhase : ByteArray := prog_1_method_30_code
def yX4_isPhase : MethodName := ⟨RX4, "isPhase", "(I)Z"⟩
abbrev cX4_isSetOfProjectors : ByteArray := prog_1_method_31_code
def yX4_isSetOfProjectors : MethodName := ⟨RX4, "isSetOfProjectors", "(I)Z"⟩
abbrev cX4_find : ByteArray := prog_1_method_32_code
def yX4_find : MethodName := ⟨RX4, "find", "(I)LFacadeShow$Projector;"⟩
abbrev cX4_findScene : ByteArray := prog_1_method_33_code
def yX4_findScene : MethodName := ⟨RX4, "findScene", "(I)LFacadeShow$Scene;"⟩
abbrev cX4_loadOf : ByteArray := prog_1_method_34_code
def yX4_loadOf : MethodName := ⟨RX4, "loadOf", "(I)I"⟩
abbrev cX4_borneBy : ByteArray := prog_1_method_35_code
def yX4_borneBy : MethodName := ⟨RX4, "borneBy", "(I)I"⟩
abbrev cX4_powerOfOn : ByteArray := prog_1_method_36_code
def yX4_powerOfOn : MethodName := ⟨RX4, "powerOfOn", "()I"⟩
abbrev cX4_countOfOn : ByteArray := prog_1_method_37_code
def yX4_countOfOn : MethodName := ⟨RX4, "countOfOn", "()I"⟩
abbrev cX4_crossing : ByteArray := prog_1_method_38_code
def yX4_crossing : MethodName := ⟨RX4, "crossing", "(LFacadeShow$Projector;II)I"⟩
abbrev cX4_isBlocked : ByteArray := prog_1_method_39_code
def yX4_isBlocked : MethodName := ⟨RX4, "isBlocked", "(LFacadeShow$Projector;I)Z"⟩
abbrev cX4_meetsTheLiving : ByteArray := prog_1_method_40_code
def yX4_meetsTheLiving : MethodName := ⟨RX4, "meetsTheLiving", "(LFacadeShow$Projector;I)Z"⟩
abbrev cX4_isAimedAt : ByteArray := prog_1_method_41_code
def yX4_isAimedAt : MethodName := ⟨RX4, "isAimedAt", "(LFacadeShow$Projector;I)Z"⟩
abbrev cX4_breachesBy : ByteArray := prog_1_method_42_code
def yX4_breachesBy : MethodName := ⟨RX4, "breachesBy", "(LFacadeShow$Projector;)I"⟩
abbrev cX4_lightFrom : ByteArray := prog_1_method_43_code
def yX4_lightFrom : MethodName := ⟨RX4, "lightFrom", "(LFacadeShow$Projector;I)I"⟩
abbrev cX4_isInFocus : ByteArray := prog_1_method_44_code
def yX4_isInFocus : MethodName := ⟨RX4, "isInFocus", "(LFacadeShow$Projector;I)Z"⟩
abbrev cX4_lightOf : ByteArray := prog_1_method_45_code
def yX4_lightOf : MethodName := ⟨RX4, "lightOf", "(I)I"⟩
abbrev cX4_unfailedProjectors : ByteArray := prog_1_method_46_code
def yX4_unfailedProjectors : MethodName := ⟨RX4, "unfailedProjectors", "()I"⟩
abbrev cX4_surveyLights : ByteArray := prog_1_method_47_code
def yX4_surveyLights : MethodName := ⟨RX4, "surveyLights", "()V"⟩
abbrev cX4_isCurfewNow : ByteArray := prog_1_method_48_code
def yX4_isCurfewNow : MethodName := ⟨RX4, "isCurfewNow", "()Z"⟩
abbrev cX4_lastFrameOfAll : ByteArray := prog_1_method_49_code
def yX4_lastFrameOfAll : MethodName := ⟨RX4, "lastFrameOfAll", "()I"⟩
def RX5 : String := "FacadeShowModel"
def TX5 : u_T := fun k => match k with
  | 0 => ("FacadeShowModel", "thrown", "I", false)
  | 1 => ("FacadeShowModel", "relief", "[I", true)
  | 2 => ("FacadeShowModel", "surface", "[I", true)
  | 3 => ("FacadeShowModel", "back", "[I", true)
  | 4 => ("FacadeShowModel", "cells", "[I", true)
  | 5 => ("FacadeShowModel", "hasMast", "[Z", true)
  | 6 => ("FacadeShowModel", "needed", "I", false)
  | 7 => ("FacadeShowModel", "level", "I", false)
  | 8 => ("FacadeShowModel", "projectors", "I", false)
  | 9 => ("FacadeShowModel", "column", "[I", true)
  | 10 => ("FacadeShowModel", "row", "[I", true)
  | 11 => ("FacadeShowModel", "power", "[I", true)
  | 12 => ("FacadeShowModel", "phase", "[I", true)
  | 13 => ("FacadeShowModel", "focus", "[I", true)
  | 14 => ("FacadeShowModel", "first", "[I", true)
  | 15 => ("FacadeShowModel", "last", "[I", true)
  | 16 => ("FacadeShowModel", "isOn", "[Z", true)
  | 17 => ("FacadeShowModel", "hasFailed", "[Z", true)
  | 18 => ("FacadeShowModel", "ready", "[I", true)
  | 19 => ("FacadeShowModel", "bears", "[I", true)
  | 20 => ("FacadeShowModel", "wind", "I", false)
  | 21 => ("FacadeShowModel", "curfewFrom", "I", false)
  | 22 => ("FacadeShowModel", "curfewTo", "I", false)
  | 23 => ("FacadeShowModel", "version", "[I", true)
  | 24 => ("FacadeShowModel", "proposed", "[I", true)
  | 25 => ("FacadeShowModel", "frame", "I", false)
  | 26 => ("FacadeShowModel", "held", "I", false)
  | 27 => ("FacadeShowModel", "counted", "J", false)
  | 28 => ("FacadeShowModel", "energy", "J", false)
  | _ => ("FacadeShowModel", "minute", "I", false)
def tyX5 : Nat → FieldType := fun k => match k with
  | 0 => .int
  | 1 => .array .int
  | 2 => .array .int
  | 3 => .array .int
  | 4 => .array .int
  | 5 => .array .boolean
  | 6 => .int
  | 7 => .int
  | 8 => .int
  | 9 => .array .int
  | 10 => .array .int
  | 11 => .array .int
  | 12 => .array .int
  | 13 => .array .int
  | 14 => .array .int
  | 15 => .array .int
  | 16 => .array .boolean
  | 17 => .array .boolean
  | 18 => .array .int
  | 19 => .array .int
  | 20 => .int
  | 21 => .int
  | 22 => .int
  | 23 => .array .int
  | 24 => .array .int
  | 25 => .int
  | 26 => .int
  | 27 => .long
  | 28 => .long
  | _ => .int
abbrev wsX50 : List Cond := u_ws RX5 TX5 30
theorem nmX5 : ∀ a, a < 30 → ∀ b, b < 30 → a ≠ b → (TX5 a).2.1 ≠ (TX5 b).2.1 := by decide +kernel
theorem tyX5_ok : ∀ k, k < 30 → parseFieldDescriptor (TX5 k).2.2.1 = some (tyX5 k) := by decide +kernel
abbrev cX5_init : ByteArray := prog_7_method_1_code
def yX5_init : MethodName := ⟨RX5, "<init>", "()V"⟩
abbrev cX5_thrown : ByteArray := prog_7_method_2_code
def yX5_thrown : MethodName := ⟨RX5, "thrown", "()I"⟩
abbrev cX5_goesWell : ByteArray := prog_7_method_3_code
def yX5_goesWell : MethodName := ⟨RX5, "goesWell", "(I)Z"⟩
abbrev cX5_in : ByteArray := prog_7_method_4_code
def yX5_in : MethodName := ⟨RX5, "in", "(III)Z"⟩
abbrev cX5_isColumn : ByteArray := prog_7_method_5_code
def yX5_isColumn : MethodName := ⟨RX5, "isColumn", "(I)Z"⟩
abbrev cX5_isCell : ByteArray := prog_7_method_6_code
def yX5_isCell : MethodName := ⟨RX5, "isCell", "(II)Z"⟩
abbrev cX5_isProjector : ByteArray := prog_7_method_7_code
def yX5_isProjector : MethodName := ⟨RX5, "isProjector", "(I)Z"⟩
abbrev cX5_at : ByteArray := prog_7_method_8_code
def yX5_at : MethodName := ⟨RX5, "at", "(II)I"⟩
abbrev cX5_column : ByteArray := prog_7_method_9_code
def yX5_column : MethodName := ⟨RX5, "column", "(III)V"⟩
abbrev cX5_cell : ByteArray := prog_7_method_10_code
def yX5_cell : MethodName := ⟨RX5, "cell", "(III)I"⟩
abbrev cX5_need : ByteArray := prog_7_method_11_code
def yX5_need : MethodName := ⟨RX5, "need", "(II)V"⟩
abbrev cX5_projector : ByteArray := prog_7_method_12_code
def yX5_projector : MethodName := ⟨RX5, "projector", "(IIIII)I"⟩
abbrev cX5_aim : ByteArray := prog_7_method_13_code
def yX5_aim : MethodName := ⟨RX5, "aim", "(III)V"⟩
abbrev cX5_borne : ByteArray := prog_7_method_14_code
def yX5_borne : MethodName := ⟨RX5, "borne", "(I)I"⟩
abbrev cX5_turn : ByteArray := prog_7_method_15_code
def yX5_turn : MethodName := ⟨RX5, "turn", "(IZ)Z"⟩
abbrev cX5_fail : ByteArray := prog_7_method_16_code
def yX5_fail : MethodName := ⟨RX5, "fail", "(IZ)Z"⟩
abbrev cX5_phase : ByteArray := prog_7_method_17_code
def yX5_phase : MethodName := ⟨RX5, "phase", "(II)I"⟩
abbrev cX5_wind : ByteArray := prog_7_method_18_code
def yX5_wind : MethodName := ⟨RX5, "wind", "(I)I"⟩
abbrev cX5_cross : ByteArray := prog_7_method_19_code
def yX5_cross : MethodName := ⟨RX5, "cross", "(III)I"⟩
abbrev cX5_through : ByteArray := prog_7_method_20_code
def yX5_through : MethodName := ⟨RX5, "through", "(III)I"⟩
abbrev cX5_isBlocked : ByteArray := prog_7_method_21_code
def yX5_isBlocked : MethodName := ⟨RX5, "isBlocked", "(II)Z"⟩
abbrev cX5_covers : ByteArray := prog_7_method_22_code
def yX5_covers : MethodName := ⟨RX5, "covers", "(II)Z"⟩
abbrev cX5_lightOf : ByteArray := prog_7_method_23_code
def yX5_lightOf : MethodName := ⟨RX5, "lightOf", "(II)I"⟩
abbrev cX5_gives : ByteArray := prog_7_method_24_code
def yX5_gives : MethodName := ⟨RX5, "gives", "(II)I"⟩
abbrev cX5_isSharpAt : ByteArray := prog_7_method_25_code
def yX5_isSharpAt : MethodName := ⟨RX5, "isSharpAt", "(II)Z"⟩
abbrev cX5_isSharp : ByteArray := prog_7_method_26_code
def yX5_isSharp : MethodName := ⟨RX5, "isSharp", "(II)Z"⟩
abbrev cX5_shines : ByteArray := prog_7_method_27_code
def yX5_shines : MethodName := ⟨RX5, "shines", "(I)Z"⟩
abbrev cX5_lightAt : ByteArray := prog_7_method_28_code
def yX5_lightAt : MethodName := ⟨RX5, "lightAt", "(I)I"⟩
abbrev cX5_light : ByteArray := prog_7_method_29_code
def yX5_light : MethodName := ⟨RX5, "light", "(I)I"⟩
abbrev cX5_blended : ByteArray := prog_7_method_30_code
def yX5_blended : MethodName := ⟨RX5, "blended", "(II)I"⟩
abbrev cX5_isWell : ByteArray := prog_7_method_31_code
def yX5_isWell : MethodName := ⟨RX5, "isWell", "(II)Z"⟩
abbrev cX5_coveredBy : ByteArray := prog_7_method_32_code
def yX5_coveredBy : MethodName := ⟨RX5, "coveredBy", "(I)I"⟩
abbrev cX5_isSet : ByteArray := prog_7_method_33_code
def yX5_isSet : MethodName := ⟨RX5, "isSet", "(I)Z"⟩
abbrev cX5_covered : ByteArray := prog_7_method_34_code
def yX5_covered : MethodName := ⟨RX5, "covered", "(I)I"⟩
abbrev cX5_bits : ByteArray := prog_7_method_35_code
def yX5_bits : MethodName := ⟨RX5, "bits", "(I)I"⟩
abbrev cX5_isEnough : ByteArray := prog_7_method_36_code
def yX5_isEnough : MethodName := ⟨RX5, "isEnough", "(I)Z"⟩
abbrev cX5_leastSet : ByteArray := prog_7_method_37_code
def yX5_leastSet : MethodName := ⟨RX5, "leastSet", "()I"⟩
abbrev cX5_least : ByteArray := prog_7_method_38_code
def yX5_least : MethodName := ⟨RX5, "least", "()I"⟩
abbrev cX5_leastAnew : ByteArray := prog_7_method_39_code
def yX5_leastAnew : MethodName := ⟨RX5, "leastAnew", "()I"⟩
abbrev cX5_bears : ByteArray := prog_7_method_40_code
def yX5_bears : MethodName := ⟨RX5, "bears", "(I)Z"⟩
abbrev cX5_meets : ByteArray := prog_7_method_41_code
def yX5_meets : MethodName := ⟨RX5, "meets", "(II)Z"⟩
abbrev cX5_breachesNow : ByteArray := prog_7_method_42_code
def yX5_breachesNow : MethodName := ⟨RX5, "breachesNow", "()I"⟩
abbrev cX5_breaches : ByteArray := prog_7_method_43_code
def yX5_breaches : MethodName := ⟨RX5, "breaches", "()I"⟩
abbrev cX5_curfew : ByteArray := prog_7_method_44_code
def yX5_curfew : MethodName := ⟨RX5, "curfew", "(II)V"⟩
abbrev cX5_ready : ByteArray := prog_7_method_45_code
def yX5_ready : MethodName := ⟨RX5, "ready", "(II)I"⟩
abbrev cX5_propose : ByteArray := prog_7_method_46_code
def yX5_propose : MethodName := ⟨RX5, "propose", "(II)I"⟩
abbrev cX5_answer : ByteArray := prog_7_method_47_code
def yX5_answer : MethodName := ⟨RX5, "answer", "(IZ)I"⟩
abbrev cX5_scene : ByteArray := prog_7_method_48_code
def yX5_scene : MethodName := ⟨RX5, "scene", "(IZ)I"⟩
abbrev cX5_on : ByteArray := prog_7_method_49_code
def yX5_on : MethodName := ⟨RX5, "on", "()I"⟩
abbrev cX5_show : ByteArray := prog_7_method_50_code
def yX5_show : MethodName := ⟨RX5, "show", "(I)J"⟩
abbrev cX5_passOne : ByteArray := prog_7_method_51_code
def yX5_passOne : MethodName := ⟨RX5, "passOne", "(I)V"⟩
abbrev cX5_pass : ByteArray := prog_7_method_52_code
def yX5_pass : MethodName := ⟨RX5, "pass", "(I)I"⟩
def RJ6 : String := "java/lang/Integer"
def TJ6 : u_T := fun k => match k with
  | _ => ("", "", "", false)
def tyJ6 : Nat → FieldType := fun k => match k with
  | _ => .int
abbrev wsJ60 : List Cond := u_ws RJ6 TJ6 0
theorem nmJ6 : ∀ a, a < 0 → ∀ b, b < 0 → a ≠ b → (TJ6 a).2.1 ≠ (TJ6 b).2.1 := by decide +kernel
theorem tyJ6_ok : ∀ k, k < 0 → parseFieldDescriptor (TJ6 k).2.2.1 = some (tyJ6 k) := by decide +kernel
abbrev cJ6_bitCount_0f7a4 : ByteArray := prog_12_method_49_code
def yJ6_bitCount_0f7a4 : MethodName := ⟨RJ6, "bitCount", "(I)I"⟩
def RJ0 : String := "java/lang/String"
def TJ0 : u_T := fun k => match k with
  | _ => ("", "", "", false)
def tyJ0 : Nat → FieldType := fun k => match k with
  | _ => .int
abbrev wsJ00 : List Cond := u_ws RJ0 TJ0 0
theorem nmJ0 : ∀ a, a < 0 → ∀ b, b < 0 → a ≠ b → (TJ0 a).2.1 ≠ (TJ0 b).2.1 := by decide +kernel
theorem tyJ0_ok : ∀ k, k < 0 → parseFieldDescriptor (TJ0 k).2.2.1 = some (tyJ0 k) := by decide +kernel
def RL : String := "FacadeShowLaw"
abbrev cL_column : ByteArray := method_3_code
def yL_column : MethodName := ⟨RL, "column", "(LFacadeShow;III)I"⟩
abbrev cL_cell : ByteArray := method_4_code
def yL_cell : MethodName := ⟨RL, "cell", "(LFacadeShow;III[J)I"⟩
abbrev cL_need : ByteArray := method_5_code
def yL_need : MethodName := ⟨RL, "need", "(LFacadeShow;II)I"⟩
abbrev cL_projector : ByteArray := method_6_code
def yL_projector : MethodName := ⟨RL, "projector", "(LFacadeShow;IIIII[J)I"⟩
abbrev cL_aim : ByteArray := method_7_code
def yL_aim : MethodName := ⟨RL, "aim", "(LFacadeShow;III)I"⟩
abbrev cL_turn : ByteArray := method_8_code
def yL_turn : MethodName := ⟨RL, "turn", "(LFacadeShow;IZ[J)I"⟩
abbrev cL_fail : ByteArray := method_9_code
def yL_fail : MethodName := ⟨RL, "fail", "(LFacadeShow;IZ[J)I"⟩
abbrev cL_phase : ByteArray := method_10_code
def yL_phase : MethodName := ⟨RL, "phase", "(LFacadeShow;II[J)I"⟩
abbrev cL_wind : ByteArray := method_11_code
def yL_wind : MethodName := ⟨RL, "wind", "(LFacadeShow;I[J)I"⟩
abbrev cL_through : ByteArray := method_12_code
def yL_through : MethodName := ⟨RL, "through", "(LFacadeShow;III[J)I"⟩
abbrev cL_gives : ByteArray := method_13_code
def yL_gives : MethodName := ⟨RL, "gives", "(LFacadeShow;II[J)I"⟩
abbrev cL_isSharp : ByteArray := method_14_code
def yL_isSharp : MethodName := ⟨RL, "isSharp", "(LFacadeShow;II[J)I"⟩
abbrev cL_light : ByteArray := method_15_code
def yL_light : MethodName := ⟨RL, "light", "(LFacadeShow;I[J)I"⟩
abbrev cL_blended : ByteArray := method_16_code
def yL_blended : MethodName := ⟨RL, "blended", "(LFacadeShow;II[J)I"⟩
abbrev cL_covered : ByteArray := method_17_code
def yL_covered : MethodName := ⟨RL, "covered", "(LFacadeShow;I[J)I"⟩
abbrev cL_bears : ByteArray := method_18_code
def yL_bears : MethodName := ⟨RL, "bears", "(LFacadeShow;I[J)I"⟩
abbrev cL_curfew : ByteArray := method_19_code
def yL_curfew : MethodName := ⟨RL, "curfew", "(LFacadeShow;II)I"⟩
abbrev cL_ready : ByteArray := method_20_code
def yL_ready : MethodName := ⟨RL, "ready", "(LFacadeShow;II[J)I"⟩
abbrev cL_propose : ByteArray := method_21_code
def yL_propose : MethodName := ⟨RL, "propose", "(LFacadeShow;II[J)I"⟩
abbrev cL_answer : ByteArray := method_22_code
def yL_answer : MethodName := ⟨RL, "answer", "(LFacadeShow;IZ[J)I"⟩
abbrev cL_scene : ByteArray := method_23_code
def yL_scene : MethodName := ⟨RL, "scene", "(LFacadeShow;IZ[J)I"⟩
abbrev cL_show : ByteArray := method_24_code
def yL_show : MethodName := ⟨RL, "show", "(LFacadeShow;I[J)I"⟩
abbrev cL_pass : ByteArray := method_25_code
def yL_pass : MethodName := ⟨RL, "pass", "(LFacadeShow;I[J)I"⟩
abbrev cL_law : ByteArray := code
def yL_law : MethodName := ⟨RL, "law", "([I)Z"⟩
def wsX0_init : List Cond := .code yX0_init cX0_init 6 none :: ([.methodLink RX0 3 objectInit, .instanceMethod objectInit, .code objectInit ⟨#[0xb1]⟩ 1 none, .fieldLink RX0 9 "FacadeShow$Projector" "column" "I", .fieldLink RX0 15 "FacadeShow$Projector" "row" "I", .fieldLink RX0 18 "FacadeShow$Projector" "power" "I", .fieldLink RX0 21 "FacadeShow$Projector" "phase" "I", .fieldLink RX0 24 "FacadeShow$Projector" "focus" "I", .fieldLink RX0 27 "FacadeShow$Projector" "from" "I", .fieldLink RX0 30 "FacadeShow$Projector" "to" "I"] ++ wsX00)
def wsX0_shines : List Cond := .code yX0_shines cX0_shines 1 (some .boolean) :: ([.fieldLink RX0 33 "FacadeShow$Projector" "isOn" "Z", .fieldLink RX0 37 "FacadeShow$Projector" "hasFailed" "Z"] ++ wsX00)
def wsX1_init : List Cond := .code yX1_init cX1_init 1 none :: ([.methodLink RX1 3 objectInit, .instanceMethod objectInit, .code objectInit ⟨#[0xb1]⟩ 1 none, .fieldLink RX1 9 "FacadeShow$Scene" "version" "I", .fieldLink RX1 15 "FacadeShow$Scene" "proposed" "I"] ++ wsX10)
def wsX2_init : List Cond := .code yX2_init cX2_init 1 none :: ([.methodLink RX2 3 objectInit, .instanceMethod objectInit, .code objectInit ⟨#[0xb1]⟩ 1 none, .arrayClass .int, .fieldLink RX2 9 "FacadeShow$Square" "reliefs" "[I", .fieldLink RX2 15 "FacadeShow$Square" "surfaces" "[I", .fieldLink RX2 18 "FacadeShow$Square" "contents" "[I"] ++ wsX20)
def wsX4_isColumn : List Cond := .code yX4_isColumn cX4_isColumn 1 (some .boolean) :: ([])
def wsX2_build : List Cond := .code yX2_build cX2_build 4 none :: ([.fieldLink RX2 9 "FacadeShow$Square" "reliefs" "[I", .fieldLink RX2 15 "FacadeShow$Square" "surfaces" "[I", .static yX4_isColumn, .initialized RX4, .code yX4_isColumn cX4_isColumn 1 (some .boolean)] ++ wsX20)
def wsX2_reliefOf : List Cond := .code yX2_reliefOf cX2_reliefOf 2 (some .int) :: ([.fieldLink RX2 9 "FacadeShow$Square" "reliefs" "[I", .static yX4_isColumn, .initialized RX4, .code yX4_isColumn cX4_isColumn 1 (some .boolean)] ++ wsX20)
def wsX2_hundredthsOf : List Cond := .code yX2_hundredthsOf cX2_hundredthsOf 3 (some .int) :: ([.fieldLink RX2 15 "FacadeShow$Square" "surfaces" "[I", .static yX4_isColumn, .initialized RX4, .code yX4_isColumn cX4_isColumn 1 (some .boolean)] ++ wsX20)
def wsX2_isCell : List Cond := .code yX2_isCell cX2_isCell 2 (some .boolean) :: ([])
def wsX2_put : List Cond := .code yX2_put cX2_put 4 none :: ([.fieldLink RX2 18 "FacadeShow$Square" "contents" "[I", .methodLink RX2 25 yX2_isCell, .static yX2_isCell, .initialized RX2, .code yX2_isCell cX2_isCell 2 (some .boolean)] ++ wsX20)
def wsX2_contentOf : List Cond := .code yX2_contentOf cX2_contentOf 3 (some .int) :: ([.fieldLink RX2 18 "FacadeShow$Square" "contents" "[I", .methodLink RX2 25 yX2_isCell, .static yX2_isCell, .initialized RX2, .code yX2_isCell cX2_isCell 2 (some .boolean)] ++ wsX20)
def wsX2_stopsRays : List Cond := .code yX2_stopsRays cX2_stopsRays 4 (some .boolean) :: ([.methodLink RX2 29 yX2_contentOf, .instanceMethod yX2_contentOf, .selects RX2 yX2_contentOf yX2_contentOf, .initialized RX2, .code yX2_contentOf cX2_contentOf 3 (some .int), .fieldLink RX2 18 "FacadeShow$Square" "contents" "[I", .methodLink RX2 25 yX2_isCell, .static yX2_isCell, .code yX2_isCell cX2_isCell 2 (some .boolean), .methodLink RX2 33 yX2_reliefOf, .instanceMethod yX2_reliefOf, .selects RX2 yX2_reliefOf yX2_reliefOf, .code yX2_reliefOf cX2_reliefOf 2 (some .int), .fieldLink RX2 9 "FacadeShow$Square" "reliefs" "[I", .static yX4_isColumn, .initialized RX4, .code yX4_isColumn cX4_isColumn 1 (some .boolean)] ++ wsX20)
def wsX2_hasTheLiving : List Cond := .code yX2_hasTheLiving cX2_hasTheLiving 4 (some .boolean) :: ([.methodLink RX2 29 yX2_contentOf, .instanceMethod yX2_contentOf, .selects RX2 yX2_contentOf yX2_contentOf, .initialized RX2, .code yX2_contentOf cX2_contentOf 3 (some .int), .fieldLink RX2 18 "FacadeShow$Square" "contents" "[I", .methodLink RX2 25 yX2_isCell, .static yX2_isCell, .code yX2_isCell cX2_isCell 2 (some .boolean)] ++ wsX20)
def wsX3_init : List Cond := .code yX3_init cX3_init 1 none :: ([.methodLink RX3 3 objectInit, .instanceMethod objectInit, .code objectInit ⟨#[0xb1]⟩ 1 none, .arrayClass .int, .fieldLink RX3 9 "FacadeShow$Survey" "lights" "[I", .fieldLink RX3 15 "FacadeShow$Survey" "blurring" "[I"] ++ wsX30)
def wsX3_isPlace : List Cond := .code yX3_isPlace cX3_isPlace 2 (some .boolean) :: ([.static yX4_isColumn, .initialized RX4, .code yX4_isColumn cX4_isColumn 1 (some .boolean)])
def wsX3_note : List Cond := .code yX3_note cX3_note 7 none :: ([.fieldLink RX3 9 "FacadeShow$Survey" "lights" "[I", .fieldLink RX3 15 "FacadeShow$Survey" "blurring" "[I", .methodLink RX3 22 yX3_isPlace, .static yX3_isPlace, .initialized RX3, .code yX3_isPlace cX3_isPlace 2 (some .boolean), .static yX4_isColumn, .initialized RX4, .code yX4_isColumn cX4_isColumn 1 (some .boolean)] ++ wsX30)
def wsX3_isWellCovered : List Cond := .code yX3_isWellCovered cX3_isWellCovered 6 (some .boolean) :: ([.fieldLink RX3 15 "FacadeShow$Survey" "blurring" "[I", .fieldLink RX3 9 "FacadeShow$Survey" "lights" "[I", .static yX4_isColumn, .initialized RX4, .code yX4_isColumn cX4_isColumn 1 (some .boolean)] ++ wsX30)
def wsX3_coversAll : List Cond := .code yX3_coversAll cX3_coversAll 5 (some .boolean) :: ([.methodLink RX3 26 yX3_isWellCovered, .instanceMethod yX3_isWellCovered, .selects RX3 yX3_isWellCovered yX3_isWellCovered, .initialized RX3, .code yX3_isWellCovered cX3_isWellCovered 6 (some .boolean), .fieldLink RX3 15 "FacadeShow$Survey" "blurring" "[I", .fieldLink RX3 9 "FacadeShow$Survey" "lights" "[I", .static yX4_isColumn, .initialized RX4, .code yX4_isColumn cX4_isColumn 1 (some .boolean)] ++ wsX30)
def wsX4_init_r1 : List Cond := [Cond.methodLink RX4 1 objectInit, Cond.instanceMethod objectInit, Cond.code objectInit ⟨#[0xb1]⟩ 1 none, Cond.classLink RX4 7 RX2, Cond.instantiable RX2 3, Cond.initialized RX2, Cond.fieldLink RX4 10 "FacadeShow" "square" "LFacadeShow$Square;", Cond.classLink RX4 16 RX0, Cond.fieldLink RX4 18 "FacadeShow" "placed" "[LFacadeShow$Projector;", Cond.fieldLink RX4 22 "FacadeShow" "projectorCount" "I", Cond.arrayClass .int, Cond.fieldLink RX4 26 "FacadeShow" "borne" "[I", Cond.fieldLink RX4 30 "FacadeShow" "windNow" "I", Cond.fieldLink RX4 33 "FacadeShow" "needed" "I", Cond.fieldLink RX4 36 "FacadeShow" "levelNow" "I", Cond.classLink RX4 39 RX3, Cond.instantiable RX3 2, Cond.initialized RX3, Cond.fieldLink RX4 42 "FacadeShow" "survey" "LFacadeShow$Survey;", Cond.fieldLink RX4 46 "FacadeShow" "curfewFrom" "I", Cond.fieldLink RX4 49 "FacadeShow" "curfewTo" "I", Cond.classLink RX4 52 RX1, Cond.instantiable RX1 2, Cond.initialized RX1]
def wsX4_init_r2 : List Cond := [Cond.fieldLink RX4 55 "FacadeShow" "scenes" "[LFacadeShow$Scene;", Cond.fieldLink RX4 59 "FacadeShow" "frameNow" "I", Cond.fieldLink RX4 62 "FacadeShow" "heldCount" "I", Cond.fieldLink RX4 65 "FacadeShow" "breachCount" "J", Cond.fieldLink RX4 69 "FacadeShow" "energy" "J", Cond.fieldLink RX4 72 "FacadeShow" "minuteNow" "I", Cond.instanceMethod yX2_init, Cond.code yX2_init cX2_init 1 none, Cond.methodLink RX2 3 objectInit, Cond.fieldLink RX2 9 "FacadeShow$Square" "reliefs" "[I", Cond.fieldLink RX2 15 "FacadeShow$Square" "surfaces" "[I", Cond.fieldLink RX2 18 "FacadeShow$Square" "contents" "[I", Cond.instanceMethod yX3_init, Cond.code yX3_init cX3_init 1 none, Cond.methodLink RX3 3 objectInit, Cond.fieldLink RX3 9 "FacadeShow$Survey" "lights" "[I", Cond.fieldLink RX3 15 "FacadeShow$Survey" "blurring" "[I", Cond.instanceMethod yX1_init, Cond.code yX1_init cX1_init 1 none, Cond.methodLink RX1 3 objectInit, Cond.fieldLink RX1 9 "FacadeShow$Scene" "version" "I", Cond.fieldLink RX1 15 "FacadeShow$Scene" "proposed" "I"]
def wsX4_init : List Cond := .code yX4_init cX4_init 1 none :: ((wsX4_init_r1 ++ wsX4_init_r2) ++ wsX20 ++ wsX40 ++ wsX30 ++ wsX10)
def wsX4_column : List Cond := .code yX4_column cX4_column 4 none :: ([.classLink RX4 79 "java/lang/IndexOutOfBoundsException", .initialized "java/lang/IndexOutOfBoundsException", .classLink RX4 86 "java/lang/IllegalArgumentException", .initialized "java/lang/IllegalArgumentException", .fieldLink RX4 10 "FacadeShow" "square" "LFacadeShow$Square;", .methodLink RX4 75 yX4_isColumn, .static yX4_isColumn, .initialized RX4, .code yX4_isColumn cX4_isColumn 1 (some .boolean), .instanceMethod yX2_build, .initialized RX2, .selects RX2 yX2_build yX2_build, .code yX2_build cX2_build 4 none, .fieldLink RX2 9 "FacadeShow$Square" "reliefs" "[I", .fieldLink RX2 15 "FacadeShow$Square" "surfaces" "[I"] ++ wsX40 ++ wsX20 ++ (vx_atS RX4 83 "java/lang/IndexOutOfBoundsException" ["java/lang/RuntimeException", "java/lang/Exception"]).filter goodWord ++ (vx_atS RX4 90 "java/lang/IllegalArgumentException" ["java/lang/RuntimeException", "java/lang/Exception"]).filter goodWord)
def wsX4_isOpenRow : List Cond := .code yX4_isOpenRow cX4_isOpenRow 1 (some .boolean) :: ([])
def wsX4_cell_r1 : List Cond := [Cond.classLink RX4 79 "java/lang/IndexOutOfBoundsException", Cond.initialized "java/lang/IndexOutOfBoundsException", Cond.classLink RX4 86 "java/lang/IllegalArgumentException", Cond.initialized "java/lang/IllegalArgumentException", Cond.classLink RX4 108 "java/lang/IllegalStateException", Cond.initialized "java/lang/IllegalStateException", Cond.fieldLink RX4 10 "FacadeShow" "square" "LFacadeShow$Square;", Cond.methodLink RX4 75 yX4_isColumn, Cond.static yX4_isColumn, Cond.initialized RX4, Cond.code yX4_isColumn cX4_isColumn 1 (some .boolean), Cond.methodLink RX4 97 yX4_isOpenRow, Cond.static yX4_isOpenRow, Cond.code yX4_isOpenRow cX4_isOpenRow 1 (some .boolean), Cond.instanceMethod yX2_contentOf, Cond.initialized RX2, Cond.selects RX2 yX2_contentOf yX2_contentOf, Cond.code yX2_contentOf cX2_contentOf 3 (some .int), Cond.fieldLink RX2 18 "FacadeShow$Square" "contents" "[I", Cond.methodLink RX2 25 yX2_isCell, Cond.static yX2_isCell, Cond.code yX2_isCell cX2_isCell 2 (some .boolean), Cond.instanceMethod yX2_put, Cond.selects RX2 yX2_put yX2_put]
def wsX4_cell_r2 : List Cond := [Cond.code yX2_put cX2_put 4 none]
def wsX4_cell : List Cond := .code yX4_cell cX4_cell 5 (some .int) :: ((wsX4_cell_r1 ++ wsX4_cell_r2) ++ wsX40 ++ wsX20 ++ (vx_atS RX4 83 "java/lang/IndexOutOfBoundsException" ["java/lang/RuntimeException", "java/lang/Exception"]).filter goodWord ++ (vx_atS RX4 90 "java/lang/IllegalArgumentException" ["java/lang/RuntimeException", "java/lang/Exception"]).filter goodWord ++ (vx_atS RX4 112 "java/lang/IllegalStateException" ["java/lang/RuntimeException", "java/lang/Exception"]).filter goodWord)
def wsX4_need : List Cond := .code yX4_need cX4_need 3 none :: ([.classLink RX4 86 "java/lang/IllegalArgumentException", .initialized "java/lang/IllegalArgumentException", .constant RX4 116 (65535), .fieldLink RX4 33 "FacadeShow" "needed" "I", .fieldLink RX4 36 "FacadeShow" "levelNow" "I"] ++ wsX40 ++ (vx_atS RX4 90 "java/lang/IllegalArgumentException" ["java/lang/RuntimeException", "java/lang/Exception"]).filter goodWord)
def wsX4_isPhase : List Cond := .code yX4_isPhase cX4_isPhase 1 (some .boolean) :: ([])
def wsX4_projector_r1 : List Cond := [Cond.classLink RX4 79 "java/lang/IndexOutOfBoundsException", Cond.initialized "java/lang/IndexOutOfBoundsException", Cond.classLink RX4 86 "java/lang/IllegalArgumentException", Cond.initialized "java/lang/IllegalArgumentException", Cond.classLink RX4 108 "java/lang/IllegalStateException", Cond.initialized "java/lang/IllegalStateException", Cond.fieldLink RX4 10 "FacadeShow" "square" "LFacadeShow$Square;", Cond.fieldLink RX4 22 "FacadeShow" "projectorCount" "I", Cond.fieldLink RX4 18 "FacadeShow" "placed" "[LFacadeShow$Projector;", Cond.classLink RX4 16 RX0, Cond.instantiable RX0 10, Cond.initialized RX0, Cond.methodLink RX4 75 yX4_isColumn, Cond.static yX4_isColumn, Cond.initialized RX4, Cond.code yX4_isColumn cX4_isColumn 1 (some .boolean), Cond.methodLink RX4 97 yX4_isOpenRow, Cond.static yX4_isOpenRow, Cond.code yX4_isOpenRow cX4_isOpenRow 1 (some .boolean), Cond.methodLink RX4 123 yX4_isPhase, Cond.static yX4_isPhase, Cond.code yX4_isPhase cX4_isPhase 1 (some .boolean), Cond.instanceMethod yX2_contentOf, Cond.initialized RX2]
def wsX4_projector_r2 : List Cond := [Cond.selects RX2 yX2_contentOf yX2_contentOf, Cond.code yX2_contentOf cX2_contentOf 3 (some .int), Cond.fieldLink RX2 18 "FacadeShow$Square" "contents" "[I", Cond.methodLink RX2 25 yX2_isCell, Cond.static yX2_isCell, Cond.code yX2_isCell cX2_isCell 2 (some .boolean), Cond.instanceMethod yX2_put, Cond.selects RX2 yX2_put yX2_put, Cond.code yX2_put cX2_put 4 none, Cond.instanceMethod yX0_init, Cond.code yX0_init cX0_init 6 none, Cond.methodLink RX0 3 objectInit, Cond.instanceMethod objectInit, Cond.code objectInit ⟨#[0xb1]⟩ 1 none, Cond.fieldLink RX0 9 "FacadeShow$Projector" "column" "I", Cond.fieldLink RX0 15 "FacadeShow$Projector" "row" "I", Cond.fieldLink RX0 18 "FacadeShow$Projector" "power" "I", Cond.fieldLink RX0 21 "FacadeShow$Projector" "phase" "I", Cond.fieldLink RX0 24 "FacadeShow$Projector" "focus" "I", Cond.fieldLink RX0 27 "FacadeShow$Projector" "from" "I", Cond.fieldLink RX0 30 "FacadeShow$Projector" "to" "I"]
def wsX4_projector : List Cond := .code yX4_projector cX4_projector 7 (some .int) :: ((wsX4_projector_r1 ++ wsX4_projector_r2) ++ wsX40 ++ wsX00 ++ wsX20 ++ (vx_atS RX4 83 "java/lang/IndexOutOfBoundsException" ["java/lang/RuntimeException", "java/lang/Exception"]).filter goodWord ++ (vx_atS RX4 90 "java/lang/IllegalArgumentException" ["java/lang/RuntimeException", "java/lang/Exception"]).filter goodWord ++ (vx_atS RX4 112 "java/lang/IllegalStateException" ["java/lang/RuntimeException", "java/lang/Exception"]).filter goodWord)
def wsX4_find : List Cond := .code yX4_find cX4_find 2 (some (.object "FacadeShow$Projector")) :: ([.fieldLink RX4 22 "FacadeShow" "projectorCount" "I", .fieldLink RX4 18 "FacadeShow" "placed" "[LFacadeShow$Projector;"] ++ wsX40)
def wsX4_aim : List Cond := .code yX4_aim cX4_aim 5 none :: ([.classLink RX4 79 "java/lang/IndexOutOfBoundsException", .initialized "java/lang/IndexOutOfBoundsException", .classLink RX4 86 "java/lang/IllegalArgumentException", .initialized "java/lang/IllegalArgumentException", .methodLink RX4 137 yX4_find, .instanceMethod yX4_find, .selects RX4 yX4_find yX4_find, .initialized RX4, .code yX4_find cX4_find 2 (some (.object "FacadeShow$Projector")), .fieldLink RX4 22 "FacadeShow" "projectorCount" "I", .fieldLink RX4 18 "FacadeShow" "placed" "[LFacadeShow$Projector;", .methodLink RX4 75 yX4_isColumn, .static yX4_isColumn, .code yX4_isColumn cX4_isColumn 1 (some .boolean)] ++ wsX00 ++ wsX40 ++ (vx_atS RX4 83 "java/lang/IndexOutOfBoundsException" ["java/lang/RuntimeException", "java/lang/Exception"]).filter goodWord ++ (vx_atS RX4 90 "java/lang/IllegalArgumentException" ["java/lang/RuntimeException", "java/lang/Exception"]).filter goodWord)
def wsX4_loadOf : List Cond := .code yX4_loadOf cX4_loadOf 5 (some .int) :: ([.methodLink RX4 137 yX4_find, .instanceMethod yX4_find, .selects RX4 yX4_find yX4_find, .initialized RX4, .code yX4_find cX4_find 2 (some (.object "FacadeShow$Projector")), .fieldLink RX4 22 "FacadeShow" "projectorCount" "I", .fieldLink RX4 18 "FacadeShow" "placed" "[LFacadeShow$Projector;"] ++ wsX00 ++ wsX40)
def wsX4_borneBy : List Cond := .code yX4_borneBy cX4_borneBy 2 (some .int) :: ([.fieldLink RX4 26 "FacadeShow" "borne" "[I", .methodLink RX4 123 yX4_isPhase, .static yX4_isPhase, .initialized RX4, .code yX4_isPhase cX4_isPhase 1 (some .boolean)] ++ wsX40)
def wsX4_turn : List Cond := .code yX4_turn cX4_turn 5 (some .boolean) :: ([.classLink RX4 79 "java/lang/IndexOutOfBoundsException", .initialized "java/lang/IndexOutOfBoundsException", .classLink RX4 108 "java/lang/IllegalStateException", .initialized "java/lang/IllegalStateException", .methodLink RX4 137 yX4_find, .instanceMethod yX4_find, .selects RX4 yX4_find yX4_find, .initialized RX4, .code yX4_find cX4_find 2 (some (.object "FacadeShow$Projector")), .fieldLink RX4 22 "FacadeShow" "projectorCount" "I", .fieldLink RX4 18 "FacadeShow" "placed" "[LFacadeShow$Projector;", .methodLink RX4 158 yX4_loadOf, .instanceMethod yX4_loadOf, .selects RX4 yX4_loadOf yX4_loadOf, .code yX4_loadOf cX4_loadOf 5 (some .int), .methodLink RX4 165 yX4_borneBy, .instanceMethod yX4_borneBy, .selects RX4 yX4_borneBy yX4_borneBy, .code yX4_borneBy cX4_borneBy 2 (some .int), .fieldLink RX4 26 "FacadeShow" "borne" "[I", .methodLink RX4 123 yX4_isPhase, .static yX4_isPhase, .code yX4_isPhase cX4_isPhase 1 (some .boolean)] ++ wsX00 ++ wsX40 ++ (vx_atS RX4 83 "java/lang/IndexOutOfBoundsException" ["java/lang/RuntimeException", "java/lang/Exception"]).filter goodWord ++ (vx_atS RX4 112 "java/lang/IllegalStateException" ["java/lang/RuntimeException", "java/lang/Exception"]).filter goodWord)
def wsX4_fail : List Cond := .code yX4_fail cX4_fail 5 (some .boolean) :: ([.classLink RX4 79 "java/lang/IndexOutOfBoundsException", .initialized "java/lang/IndexOutOfBoundsException", .methodLink RX4 137 yX4_find, .instanceMethod yX4_find, .selects RX4 yX4_find yX4_find, .initialized RX4, .code yX4_find cX4_find 2 (some (.object "FacadeShow$Projector")), .fieldLink RX4 22 "FacadeShow" "projectorCount" "I", .fieldLink RX4 18 "FacadeShow" "placed" "[LFacadeShow$Projector;"] ++ wsX00 ++ wsX40 ++ (vx_atS RX4 83 "java/lang/IndexOutOfBoundsException" ["java/lang/RuntimeException", "java/lang/Exception"]).filter goodWord)
def wsX4_phase : List Cond := .code yX4_phase cX4_phase 4 (some .int) :: ([.classLink RX4 86 "java/lang/IllegalArgumentException", .initialized "java/lang/IllegalArgumentException", .constant RX4 173 (99999), .fieldLink RX4 26 "FacadeShow" "borne" "[I", .methodLink RX4 123 yX4_isPhase, .static yX4_isPhase, .initialized RX4, .code yX4_isPhase cX4_isPhase 1 (some .boolean)] ++ wsX40 ++ (vx_atS RX4 90 "java/lang/IllegalArgumentException" ["java/lang/RuntimeException", "java/lang/Exception"]).filter goodWord)
def wsX4_wind : List Cond := .code yX4_wind cX4_wind 3 (some .int) :: ([.classLink RX4 86 "java/lang/IllegalArgumentException", .initialized "java/lang/IllegalArgumentException", .fieldLink RX4 30 "FacadeShow" "windNow" "I"] ++ wsX40 ++ (vx_atS RX4 90 "java/lang/IllegalArgumentException" ["java/lang/RuntimeException", "java/lang/Exception"]).filter goodWord)
def wsX4_crossing : List Cond := .code yX4_crossing cX4_crossing 8 (some .int) :: ([.fieldLink RX4 10 "FacadeShow" "square" "LFacadeShow$Square;", .instanceMethod yX2_reliefOf, .initialized RX2, .selects RX2 yX2_reliefOf yX2_reliefOf, .code yX2_reliefOf cX2_reliefOf 2 (some .int), .fieldLink RX2 9 "FacadeShow$Square" "reliefs" "[I", .static yX4_isColumn, .initialized RX4, .code yX4_isColumn cX4_isColumn 1 (some .boolean)] ++ wsX40 ++ wsX00 ++ wsX20)
def wsX4_through : List Cond := .code yX4_through cX4_through 5 (some .int) :: ([.classLink RX4 79 "java/lang/IndexOutOfBoundsException", .initialized "java/lang/IndexOutOfBoundsException", .methodLink RX4 137 yX4_find, .instanceMethod yX4_find, .selects RX4 yX4_find yX4_find, .initialized RX4, .code yX4_find cX4_find 2 (some (.object "FacadeShow$Projector")), .fieldLink RX4 22 "FacadeShow" "projectorCount" "I", .fieldLink RX4 18 "FacadeShow" "placed" "[LFacadeShow$Projector;", .methodLink RX4 75 yX4_isColumn, .static yX4_isColumn, .code yX4_isColumn cX4_isColumn 1 (some .boolean), .methodLink RX4 178 yX4_crossing, .instanceMethod yX4_crossing, .selects RX4 yX4_crossing yX4_crossing, .code yX4_crossing cX4_crossing 8 (some .int), .fieldLink RX4 10 "FacadeShow" "square" "LFacadeShow$Square;", .instanceMethod yX2_reliefOf, .initialized RX2, .selects RX2 yX2_reliefOf yX2_reliefOf, .code yX2_reliefOf cX2_reliefOf 2 (some .int), .fieldLink RX2 9 "FacadeShow$Square" "reliefs" "[I"] ++ wsX40 ++ wsX00 ++ wsX20 ++ (vx_atS RX4 83 "java/lang/IndexOutOfBoundsException" ["java/lang/RuntimeException", "java/lang/Exception"]).filter goodWord)
def wsX4_isAimedAt : List Cond := .code yX4_isAimedAt cX4_isAimedAt 4 (some .boolean) :: ([.fieldLink RX4 30 "FacadeShow" "windNow" "I"] ++ wsX00 ++ wsX40)
def wsX4_isBlocked_r1 : List Cond := [Cond.fieldLink RX4 10 "FacadeShow" "square" "LFacadeShow$Square;", Cond.instanceMethod yX2_reliefOf, Cond.initialized RX2, Cond.selects RX2 yX2_reliefOf yX2_reliefOf, Cond.code yX2_reliefOf cX2_reliefOf 2 (some .int), Cond.fieldLink RX2 9 "FacadeShow$Square" "reliefs" "[I", Cond.static yX4_isColumn, Cond.initialized RX4, Cond.code yX4_isColumn cX4_isColumn 1 (some .boolean), Cond.methodLink RX4 178 yX4_crossing, Cond.instanceMethod yX4_crossing, Cond.selects RX4 yX4_crossing yX4_crossing, Cond.code yX4_crossing cX4_crossing 8 (some .int), Cond.instanceMethod yX2_stopsRays, Cond.selects RX2 yX2_stopsRays yX2_stopsRays, Cond.code yX2_stopsRays cX2_stopsRays 4 (some .boolean), Cond.methodLink RX2 29 yX2_contentOf, Cond.instanceMethod yX2_contentOf, Cond.selects RX2 yX2_contentOf yX2_contentOf, Cond.code yX2_contentOf cX2_contentOf 3 (some .int), Cond.fieldLink RX2 18 "FacadeShow$Square" "contents" "[I", Cond.methodLink RX2 25 yX2_isCell, Cond.static yX2_isCell, Cond.code yX2_isCell cX2_isCell 2 (some .boolean)]
def wsX4_isBlocked_r2 : List Cond := [Cond.methodLink RX2 33 yX2_reliefOf]
def wsX4_isBlocked : List Cond := .code yX4_isBlocked cX4_isBlocked 4 (some .boolean) :: ((wsX4_isBlocked_r1 ++ wsX4_isBlocked_r2) ++ wsX40 ++ wsX00 ++ wsX20)
def wsX4_lightFrom_r1 : List Cond := [Cond.fieldLink RX4 10 "FacadeShow" "square" "LFacadeShow$Square;", Cond.methodLink RX4 285 yX4_isAimedAt, Cond.instanceMethod yX4_isAimedAt, Cond.selects RX4 yX4_isAimedAt yX4_isAimedAt, Cond.initialized RX4, Cond.code yX4_isAimedAt cX4_isAimedAt 4 (some .boolean), Cond.fieldLink RX4 30 "FacadeShow" "windNow" "I", Cond.methodLink RX4 291 yX4_isBlocked, Cond.instanceMethod yX4_isBlocked, Cond.selects RX4 yX4_isBlocked yX4_isBlocked, Cond.code yX4_isBlocked cX4_isBlocked 4 (some .boolean), Cond.instanceMethod yX2_reliefOf, Cond.initialized RX2, Cond.selects RX2 yX2_reliefOf yX2_reliefOf, Cond.code yX2_reliefOf cX2_reliefOf 2 (some .int), Cond.fieldLink RX2 9 "FacadeShow$Square" "reliefs" "[I", Cond.static yX4_isColumn, Cond.code yX4_isColumn cX4_isColumn 1 (some .boolean), Cond.methodLink RX4 178 yX4_crossing, Cond.instanceMethod yX4_crossing, Cond.selects RX4 yX4_crossing yX4_crossing, Cond.code yX4_crossing cX4_crossing 8 (some .int), Cond.instanceMethod yX2_stopsRays, Cond.selects RX2 yX2_stopsRays yX2_stopsRays]
def wsX4_lightFrom_r2 : List Cond := [Cond.code yX2_stopsRays cX2_stopsRays 4 (some .boolean), Cond.methodLink RX2 29 yX2_contentOf, Cond.instanceMethod yX2_contentOf, Cond.selects RX2 yX2_contentOf yX2_contentOf, Cond.code yX2_contentOf cX2_contentOf 3 (some .int), Cond.fieldLink RX2 18 "FacadeShow$Square" "contents" "[I", Cond.methodLink RX2 25 yX2_isCell, Cond.static yX2_isCell, Cond.code yX2_isCell cX2_isCell 2 (some .boolean), Cond.methodLink RX2 33 yX2_reliefOf, Cond.instanceMethod yX2_hundredthsOf, Cond.selects RX2 yX2_hundredthsOf yX2_hundredthsOf, Cond.code yX2_hundredthsOf cX2_hundredthsOf 3 (some .int), Cond.fieldLink RX2 15 "FacadeShow$Square" "surfaces" "[I"]
def wsX4_lightFrom : List Cond := .code yX4_lightFrom cX4_lightFrom 6 (some .int) :: ((wsX4_lightFrom_r1 ++ wsX4_lightFrom_r2) ++ wsX00 ++ wsX40 ++ wsX20)
def wsX4_gives_r1 : List Cond := [Cond.classLink RX4 79 "java/lang/IndexOutOfBoundsException", Cond.initialized "java/lang/IndexOutOfBoundsException", Cond.methodLink RX4 137 yX4_find, Cond.instanceMethod yX4_find, Cond.selects RX4 yX4_find yX4_find, Cond.initialized RX4, Cond.code yX4_find cX4_find 2 (some (.object "FacadeShow$Projector")), Cond.fieldLink RX4 22 "FacadeShow" "projectorCount" "I", Cond.fieldLink RX4 18 "FacadeShow" "placed" "[LFacadeShow$Projector;", Cond.methodLink RX4 75 yX4_isColumn, Cond.static yX4_isColumn, Cond.code yX4_isColumn cX4_isColumn 1 (some .boolean), Cond.methodLink RX4 182 yX4_lightFrom, Cond.instanceMethod yX4_lightFrom, Cond.selects RX4 yX4_lightFrom yX4_lightFrom, Cond.code yX4_lightFrom cX4_lightFrom 6 (some .int), Cond.fieldLink RX4 10 "FacadeShow" "square" "LFacadeShow$Square;", Cond.methodLink RX4 285 yX4_isAimedAt, Cond.instanceMethod yX4_isAimedAt, Cond.selects RX4 yX4_isAimedAt yX4_isAimedAt, Cond.code yX4_isAimedAt cX4_isAimedAt 4 (some .boolean), Cond.fieldLink RX4 30 "FacadeShow" "windNow" "I", Cond.methodLink RX4 291 yX4_isBlocked, Cond.instanceMethod yX4_isBlocked]
def wsX4_gives_r2 : List Cond := [Cond.selects RX4 yX4_isBlocked yX4_isBlocked, Cond.code yX4_isBlocked cX4_isBlocked 4 (some .boolean), Cond.instanceMethod yX2_reliefOf, Cond.initialized RX2, Cond.selects RX2 yX2_reliefOf yX2_reliefOf, Cond.code yX2_reliefOf cX2_reliefOf 2 (some .int), Cond.fieldLink RX2 9 "FacadeShow$Square" "reliefs" "[I", Cond.methodLink RX4 178 yX4_crossing, Cond.instanceMethod yX4_crossing, Cond.selects RX4 yX4_crossing yX4_crossing, Cond.code yX4_crossing cX4_crossing 8 (some .int), Cond.instanceMethod yX2_stopsRays, Cond.selects RX2 yX2_stopsRays yX2_stopsRays, Cond.code yX2_stopsRays cX2_stopsRays 4 (some .boolean), Cond.methodLink RX2 29 yX2_contentOf, Cond.instanceMethod yX2_contentOf, Cond.selects RX2 yX2_contentOf yX2_contentOf, Cond.code yX2_contentOf cX2_contentOf 3 (some .int), Cond.fieldLink RX2 18 "FacadeShow$Square" "contents" "[I", Cond.methodLink RX2 25 yX2_isCell, Cond.static yX2_isCell, Cond.code yX2_isCell cX2_isCell 2 (some .boolean), Cond.methodLink RX2 33 yX2_reliefOf, Cond.instanceMethod yX2_hundredthsOf]
def wsX4_gives_r3 : List Cond := [Cond.selects RX2 yX2_hundredthsOf yX2_hundredthsOf, Cond.code yX2_hundredthsOf cX2_hundredthsOf 3 (some .int), Cond.fieldLink RX2 15 "FacadeShow$Square" "surfaces" "[I"]
def wsX4_gives : List Cond := .code yX4_gives cX4_gives 4 (some .int) :: ((wsX4_gives_r1 ++ (wsX4_gives_r2 ++ wsX4_gives_r3)) ++ wsX40 ++ wsX00 ++ wsX20 ++ (vx_atS RX4 83 "java/lang/IndexOutOfBoundsException" ["java/lang/RuntimeException", "java/lang/Exception"]).filter goodWord)
def wsX4_isInFocus : List Cond := .code yX4_isInFocus cX4_isInFocus 4 (some .boolean) :: ([.fieldLink RX4 10 "FacadeShow" "square" "LFacadeShow$Square;", .instanceMethod yX2_reliefOf, .initialized RX2, .selects RX2 yX2_reliefOf yX2_reliefOf, .code yX2_reliefOf cX2_reliefOf 2 (some .int), .fieldLink RX2 9 "FacadeShow$Square" "reliefs" "[I", .static yX4_isColumn, .initialized RX4, .code yX4_isColumn cX4_isColumn 1 (some .boolean)] ++ wsX00 ++ wsX40 ++ wsX20)
def wsX4_isSharp : List Cond := .code yX4_isSharp cX4_isSharp 4 (some .boolean) :: ([.classLink RX4 79 "java/lang/IndexOutOfBoundsException", .initialized "java/lang/IndexOutOfBoundsException", .methodLink RX4 137 yX4_find, .instanceMethod yX4_find, .selects RX4 yX4_find yX4_find, .initialized RX4, .code yX4_find cX4_find 2 (some (.object "FacadeShow$Projector")), .fieldLink RX4 22 "FacadeShow" "projectorCount" "I", .fieldLink RX4 18 "FacadeShow" "placed" "[LFacadeShow$Projector;", .methodLink RX4 75 yX4_isColumn, .static yX4_isColumn, .code yX4_isColumn cX4_isColumn 1 (some .boolean), .methodLink RX4 186 yX4_isInFocus, .instanceMethod yX4_isInFocus, .selects RX4 yX4_isInFocus yX4_isInFocus, .code yX4_isInFocus cX4_isInFocus 4 (some .boolean), .fieldLink RX4 10 "FacadeShow" "square" "LFacadeShow$Square;", .instanceMethod yX2_reliefOf, .initialized RX2, .selects RX2 yX2_reliefOf yX2_reliefOf, .code yX2_reliefOf cX2_reliefOf 2 (some .int), .fieldLink RX2 9 "FacadeShow$Square" "reliefs" "[I"] ++ wsX40 ++ wsX00 ++ wsX20 ++ (vx_atS RX4 83 "java/lang/IndexOutOfBoundsException" ["java/lang/RuntimeException", "java/lang/Exception"]).filter goodWord)
def wsX4_lightOf_r1 : List Cond := [Cond.methodLink RX4 137 yX4_find, Cond.instanceMethod yX4_find, Cond.selects RX4 yX4_find yX4_find, Cond.initialized RX4, Cond.code yX4_find cX4_find 2 (some (.object "FacadeShow$Projector")), Cond.fieldLink RX4 22 "FacadeShow" "projectorCount" "I", Cond.fieldLink RX4 18 "FacadeShow" "placed" "[LFacadeShow$Projector;", Cond.instanceMethod yX0_shines, Cond.initialized RX0, Cond.selects RX0 yX0_shines yX0_shines, Cond.code yX0_shines cX0_shines 1 (some .boolean), Cond.fieldLink RX0 33 "FacadeShow$Projector" "isOn" "Z", Cond.fieldLink RX0 37 "FacadeShow$Projector" "hasFailed" "Z", Cond.methodLink RX4 182 yX4_lightFrom, Cond.instanceMethod yX4_lightFrom, Cond.selects RX4 yX4_lightFrom yX4_lightFrom, Cond.code yX4_lightFrom cX4_lightFrom 6 (some .int), Cond.fieldLink RX4 10 "FacadeShow" "square" "LFacadeShow$Square;", Cond.methodLink RX4 285 yX4_isAimedAt, Cond.instanceMethod yX4_isAimedAt, Cond.selects RX4 yX4_isAimedAt yX4_isAimedAt, Cond.code yX4_isAimedAt cX4_isAimedAt 4 (some .boolean), Cond.fieldLink RX4 30 "FacadeShow" "windNow" "I", Cond.methodLink RX4 291 yX4_isBlocked]
def wsX4_lightOf_r2 : List Cond := [Cond.instanceMethod yX4_isBlocked, Cond.selects RX4 yX4_isBlocked yX4_isBlocked, Cond.code yX4_isBlocked cX4_isBlocked 4 (some .boolean), Cond.instanceMethod yX2_reliefOf, Cond.initialized RX2, Cond.selects RX2 yX2_reliefOf yX2_reliefOf, Cond.code yX2_reliefOf cX2_reliefOf 2 (some .int), Cond.fieldLink RX2 9 "FacadeShow$Square" "reliefs" "[I", Cond.static yX4_isColumn, Cond.code yX4_isColumn cX4_isColumn 1 (some .boolean), Cond.methodLink RX4 178 yX4_crossing, Cond.instanceMethod yX4_crossing, Cond.selects RX4 yX4_crossing yX4_crossing, Cond.code yX4_crossing cX4_crossing 8 (some .int), Cond.instanceMethod yX2_stopsRays, Cond.selects RX2 yX2_stopsRays yX2_stopsRays, Cond.code yX2_stopsRays cX2_stopsRays 4 (some .boolean), Cond.methodLink RX2 29 yX2_contentOf, Cond.instanceMethod yX2_contentOf, Cond.selects RX2 yX2_contentOf yX2_contentOf, Cond.code yX2_contentOf cX2_contentOf 3 (some .int), Cond.fieldLink RX2 18 "FacadeShow$Square" "contents" "[I", Cond.methodLink RX2 25 yX2_isCell, Cond.static yX2_isCell]
def wsX4_lightOf_r3 : List Cond := [Cond.code yX2_isCell cX2_isCell 2 (some .boolean), Cond.methodLink RX2 33 yX2_reliefOf, Cond.instanceMethod yX2_hundredthsOf, Cond.selects RX2 yX2_hundredthsOf yX2_hundredthsOf, Cond.code yX2_hundredthsOf cX2_hundredthsOf 3 (some .int), Cond.fieldLink RX2 15 "FacadeShow$Square" "surfaces" "[I"]
def wsX4_lightOf : List Cond := .code yX4_lightOf cX4_lightOf 5 (some .int) :: ((wsX4_lightOf_r1 ++ (wsX4_lightOf_r2 ++ wsX4_lightOf_r3)) ++ wsX40 ++ wsX00 ++ wsX20)
def wsX4_light_r1 : List Cond := [Cond.classLink RX4 79 "java/lang/IndexOutOfBoundsException", Cond.initialized "java/lang/IndexOutOfBoundsException", Cond.methodLink RX4 75 yX4_isColumn, Cond.static yX4_isColumn, Cond.initialized RX4, Cond.code yX4_isColumn cX4_isColumn 1 (some .boolean), Cond.methodLink RX4 190 yX4_lightOf, Cond.instanceMethod yX4_lightOf, Cond.selects RX4 yX4_lightOf yX4_lightOf, Cond.code yX4_lightOf cX4_lightOf 5 (some .int), Cond.methodLink RX4 137 yX4_find, Cond.instanceMethod yX4_find, Cond.selects RX4 yX4_find yX4_find, Cond.code yX4_find cX4_find 2 (some (.object "FacadeShow$Projector")), Cond.fieldLink RX4 22 "FacadeShow" "projectorCount" "I", Cond.fieldLink RX4 18 "FacadeShow" "placed" "[LFacadeShow$Projector;", Cond.instanceMethod yX0_shines, Cond.initialized RX0, Cond.selects RX0 yX0_shines yX0_shines, Cond.code yX0_shines cX0_shines 1 (some .boolean), Cond.fieldLink RX0 33 "FacadeShow$Projector" "isOn" "Z", Cond.fieldLink RX0 37 "FacadeShow$Projector" "hasFailed" "Z", Cond.methodLink RX4 182 yX4_lightFrom, Cond.instanceMethod yX4_lightFrom]
def wsX4_light_r2 : List Cond := [Cond.selects RX4 yX4_lightFrom yX4_lightFrom, Cond.code yX4_lightFrom cX4_lightFrom 6 (some .int), Cond.fieldLink RX4 10 "FacadeShow" "square" "LFacadeShow$Square;", Cond.methodLink RX4 285 yX4_isAimedAt, Cond.instanceMethod yX4_isAimedAt, Cond.selects RX4 yX4_isAimedAt yX4_isAimedAt, Cond.code yX4_isAimedAt cX4_isAimedAt 4 (some .boolean), Cond.fieldLink RX4 30 "FacadeShow" "windNow" "I", Cond.methodLink RX4 291 yX4_isBlocked, Cond.instanceMethod yX4_isBlocked, Cond.selects RX4 yX4_isBlocked yX4_isBlocked, Cond.code yX4_isBlocked cX4_isBlocked 4 (some .boolean), Cond.instanceMethod yX2_reliefOf, Cond.initialized RX2, Cond.selects RX2 yX2_reliefOf yX2_reliefOf, Cond.code yX2_reliefOf cX2_reliefOf 2 (some .int), Cond.fieldLink RX2 9 "FacadeShow$Square" "reliefs" "[I", Cond.methodLink RX4 178 yX4_crossing, Cond.instanceMethod yX4_crossing, Cond.selects RX4 yX4_crossing yX4_crossing, Cond.code yX4_crossing cX4_crossing 8 (some .int), Cond.instanceMethod yX2_stopsRays, Cond.selects RX2 yX2_stopsRays yX2_stopsRays, Cond.code yX2_stopsRays cX2_stopsRays 4 (some .boolean)]
def wsX4_light_r3 : List Cond := [Cond.methodLink RX2 29 yX2_contentOf, Cond.instanceMethod yX2_contentOf, Cond.selects RX2 yX2_contentOf yX2_contentOf, Cond.code yX2_contentOf cX2_contentOf 3 (some .int), Cond.fieldLink RX2 18 "FacadeShow$Square" "contents" "[I", Cond.methodLink RX2 25 yX2_isCell, Cond.static yX2_isCell, Cond.code yX2_isCell cX2_isCell 2 (some .boolean), Cond.methodLink RX2 33 yX2_reliefOf, Cond.instanceMethod yX2_hundredthsOf, Cond.selects RX2 yX2_hundredthsOf yX2_hundredthsOf, Cond.code yX2_hundredthsOf cX2_hundredthsOf 3 (some .int), Cond.fieldLink RX2 15 "FacadeShow$Square" "surfaces" "[I"]
def wsX4_light : List Cond := .code yX4_light cX4_light 2 (some .int) :: ((wsX4_light_r1 ++ (wsX4_light_r2 ++ wsX4_light_r3)) ++ wsX40 ++ wsX00 ++ wsX20 ++ (vx_atS RX4 83 "java/lang/IndexOutOfBoundsException" ["java/lang/RuntimeException", "java/lang/Exception"]).filter goodWord)
def wsX4_blended_r1 : List Cond := [Cond.classLink RX4 79 "java/lang/IndexOutOfBoundsException", Cond.initialized "java/lang/IndexOutOfBoundsException", Cond.fieldLink RX4 36 "FacadeShow" "levelNow" "I", Cond.methodLink RX4 137 yX4_find, Cond.instanceMethod yX4_find, Cond.selects RX4 yX4_find yX4_find, Cond.initialized RX4, Cond.code yX4_find cX4_find 2 (some (.object "FacadeShow$Projector")), Cond.fieldLink RX4 22 "FacadeShow" "projectorCount" "I", Cond.fieldLink RX4 18 "FacadeShow" "placed" "[LFacadeShow$Projector;", Cond.methodLink RX4 75 yX4_isColumn, Cond.static yX4_isColumn, Cond.code yX4_isColumn cX4_isColumn 1 (some .boolean), Cond.instanceMethod yX0_shines, Cond.initialized RX0, Cond.selects RX0 yX0_shines yX0_shines, Cond.code yX0_shines cX0_shines 1 (some .boolean), Cond.fieldLink RX0 33 "FacadeShow$Projector" "isOn" "Z", Cond.fieldLink RX0 37 "FacadeShow$Projector" "hasFailed" "Z", Cond.methodLink RX4 182 yX4_lightFrom, Cond.instanceMethod yX4_lightFrom, Cond.selects RX4 yX4_lightFrom yX4_lightFrom, Cond.code yX4_lightFrom cX4_lightFrom 6 (some .int), Cond.fieldLink RX4 10 "FacadeShow" "square" "LFacadeShow$Square;"]
def wsX4_blended_r2 : List Cond := [Cond.methodLink RX4 285 yX4_isAimedAt, Cond.instanceMethod yX4_isAimedAt, Cond.selects RX4 yX4_isAimedAt yX4_isAimedAt, Cond.code yX4_isAimedAt cX4_isAimedAt 4 (some .boolean), Cond.fieldLink RX4 30 "FacadeShow" "windNow" "I", Cond.methodLink RX4 291 yX4_isBlocked, Cond.instanceMethod yX4_isBlocked, Cond.selects RX4 yX4_isBlocked yX4_isBlocked, Cond.code yX4_isBlocked cX4_isBlocked 4 (some .boolean), Cond.instanceMethod yX2_reliefOf, Cond.initialized RX2, Cond.selects RX2 yX2_reliefOf yX2_reliefOf, Cond.code yX2_reliefOf cX2_reliefOf 2 (some .int), Cond.fieldLink RX2 9 "FacadeShow$Square" "reliefs" "[I", Cond.methodLink RX4 178 yX4_crossing, Cond.instanceMethod yX4_crossing, Cond.selects RX4 yX4_crossing yX4_crossing, Cond.code yX4_crossing cX4_crossing 8 (some .int), Cond.instanceMethod yX2_stopsRays, Cond.selects RX2 yX2_stopsRays yX2_stopsRays, Cond.code yX2_stopsRays cX2_stopsRays 4 (some .boolean), Cond.methodLink RX2 29 yX2_contentOf, Cond.instanceMethod yX2_contentOf, Cond.selects RX2 yX2_contentOf yX2_contentOf]
def wsX4_blended_r3 : List Cond := [Cond.code yX2_contentOf cX2_contentOf 3 (some .int), Cond.fieldLink RX2 18 "FacadeShow$Square" "contents" "[I", Cond.methodLink RX2 25 yX2_isCell, Cond.static yX2_isCell, Cond.code yX2_isCell cX2_isCell 2 (some .boolean), Cond.methodLink RX2 33 yX2_reliefOf, Cond.instanceMethod yX2_hundredthsOf, Cond.selects RX2 yX2_hundredthsOf yX2_hundredthsOf, Cond.code yX2_hundredthsOf cX2_hundredthsOf 3 (some .int), Cond.fieldLink RX2 15 "FacadeShow$Square" "surfaces" "[I", Cond.methodLink RX4 190 yX4_lightOf, Cond.instanceMethod yX4_lightOf, Cond.selects RX4 yX4_lightOf yX4_lightOf, Cond.code yX4_lightOf cX4_lightOf 5 (some .int)]
def wsX4_blended : List Cond := .code yX4_blended cX4_blended 6 (some .int) :: ((wsX4_blended_r1 ++ (wsX4_blended_r2 ++ wsX4_blended_r3)) ++ wsX40 ++ wsX00 ++ wsX20 ++ (vx_atS RX4 83 "java/lang/IndexOutOfBoundsException" ["java/lang/RuntimeException", "java/lang/Exception"]).filter goodWord)
def wsX4_isSetOfProjectors : List Cond := .code yX4_isSetOfProjectors cX4_isSetOfProjectors 2 (some .boolean) :: ([.fieldLink RX4 22 "FacadeShow" "projectorCount" "I"] ++ wsX40)
def wsX4_surveyLights_r1 : List Cond := [Cond.fieldLink RX4 42 "FacadeShow" "survey" "LFacadeShow$Survey;", Cond.methodLink RX4 137 yX4_find, Cond.instanceMethod yX4_find, Cond.selects RX4 yX4_find yX4_find, Cond.initialized RX4, Cond.code yX4_find cX4_find 2 (some (.object "FacadeShow$Projector")), Cond.fieldLink RX4 22 "FacadeShow" "projectorCount" "I", Cond.fieldLink RX4 18 "FacadeShow" "placed" "[LFacadeShow$Projector;", Cond.instanceMethod yX3_note, Cond.initialized RX3, Cond.selects RX3 yX3_note yX3_note, Cond.code yX3_note cX3_note 7 none, Cond.fieldLink RX3 9 "FacadeShow$Survey" "lights" "[I", Cond.fieldLink RX3 15 "FacadeShow$Survey" "blurring" "[I", Cond.methodLink RX3 22 yX3_isPlace, Cond.static yX3_isPlace, Cond.code yX3_isPlace cX3_isPlace 2 (some .boolean), Cond.static yX4_isColumn, Cond.code yX4_isColumn cX4_isColumn 1 (some .boolean), Cond.methodLink RX4 182 yX4_lightFrom, Cond.instanceMethod yX4_lightFrom, Cond.selects RX4 yX4_lightFrom yX4_lightFrom, Cond.code yX4_lightFrom cX4_lightFrom 6 (some .int), Cond.fieldLink RX4 10 "FacadeShow" "square" "LFacadeShow$Square;"]
def wsX4_surveyLights_r2 : List Cond := [Cond.methodLink RX4 285 yX4_isAimedAt, Cond.instanceMethod yX4_isAimedAt, Cond.selects RX4 yX4_isAimedAt yX4_isAimedAt, Cond.code yX4_isAimedAt cX4_isAimedAt 4 (some .boolean), Cond.fieldLink RX4 30 "FacadeShow" "windNow" "I", Cond.methodLink RX4 291 yX4_isBlocked, Cond.instanceMethod yX4_isBlocked, Cond.selects RX4 yX4_isBlocked yX4_isBlocked, Cond.code yX4_isBlocked cX4_isBlocked 4 (some .boolean), Cond.instanceMethod yX2_reliefOf, Cond.initialized RX2, Cond.selects RX2 yX2_reliefOf yX2_reliefOf, Cond.code yX2_reliefOf cX2_reliefOf 2 (some .int), Cond.fieldLink RX2 9 "FacadeShow$Square" "reliefs" "[I", Cond.methodLink RX4 178 yX4_crossing, Cond.instanceMethod yX4_crossing, Cond.selects RX4 yX4_crossing yX4_crossing, Cond.code yX4_crossing cX4_crossing 8 (some .int), Cond.instanceMethod yX2_stopsRays, Cond.selects RX2 yX2_stopsRays yX2_stopsRays, Cond.code yX2_stopsRays cX2_stopsRays 4 (some .boolean), Cond.methodLink RX2 29 yX2_contentOf, Cond.instanceMethod yX2_contentOf, Cond.selects RX2 yX2_contentOf yX2_contentOf]
def wsX4_surveyLights_r3 : List Cond := [Cond.code yX2_contentOf cX2_contentOf 3 (some .int), Cond.fieldLink RX2 18 "FacadeShow$Square" "contents" "[I", Cond.methodLink RX2 25 yX2_isCell, Cond.static yX2_isCell, Cond.code yX2_isCell cX2_isCell 2 (some .boolean), Cond.methodLink RX2 33 yX2_reliefOf, Cond.instanceMethod yX2_hundredthsOf, Cond.selects RX2 yX2_hundredthsOf yX2_hundredthsOf, Cond.code yX2_hundredthsOf cX2_hundredthsOf 3 (some .int), Cond.fieldLink RX2 15 "FacadeShow$Square" "surfaces" "[I", Cond.methodLink RX4 186 yX4_isInFocus, Cond.instanceMethod yX4_isInFocus, Cond.selects RX4 yX4_isInFocus yX4_isInFocus, Cond.code yX4_isInFocus cX4_isInFocus 4 (some .boolean)]
def wsX4_surveyLights : List Cond := .code yX4_surveyLights cX4_surveyLights 4 none :: ((wsX4_surveyLights_r1 ++ (wsX4_surveyLights_r2 ++ wsX4_surveyLights_r3)) ++ wsX00 ++ wsX40 ++ wsX30 ++ wsX20)
def wsX4_covered_r1 : List Cond := [Cond.classLink RX4 86 "java/lang/IllegalArgumentException", Cond.initialized "java/lang/IllegalArgumentException", Cond.fieldLink RX4 42 "FacadeShow" "survey" "LFacadeShow$Survey;", Cond.fieldLink RX4 36 "FacadeShow" "levelNow" "I", Cond.methodLink RX4 197 yX4_isSetOfProjectors, Cond.instanceMethod yX4_isSetOfProjectors, Cond.selects RX4 yX4_isSetOfProjectors yX4_isSetOfProjectors, Cond.initialized RX4, Cond.code yX4_isSetOfProjectors cX4_isSetOfProjectors 2 (some .boolean), Cond.fieldLink RX4 22 "FacadeShow" "projectorCount" "I", Cond.methodLink RX4 202 yX4_surveyLights, Cond.instanceMethod yX4_surveyLights, Cond.selects RX4 yX4_surveyLights yX4_surveyLights, Cond.code yX4_surveyLights cX4_surveyLights 4 none, Cond.methodLink RX4 137 yX4_find, Cond.instanceMethod yX4_find, Cond.selects RX4 yX4_find yX4_find, Cond.code yX4_find cX4_find 2 (some (.object "FacadeShow$Projector")), Cond.fieldLink RX4 18 "FacadeShow" "placed" "[LFacadeShow$Projector;", Cond.instanceMethod yX3_note, Cond.initialized RX3, Cond.selects RX3 yX3_note yX3_note, Cond.code yX3_note cX3_note 7 none, Cond.fieldLink RX3 9 "FacadeShow$Survey" "lights" "[I"]
def wsX4_covered_r2 : List Cond := [Cond.fieldLink RX3 15 "FacadeShow$Survey" "blurring" "[I", Cond.methodLink RX3 22 yX3_isPlace, Cond.static yX3_isPlace, Cond.code yX3_isPlace cX3_isPlace 2 (some .boolean), Cond.static yX4_isColumn, Cond.code yX4_isColumn cX4_isColumn 1 (some .boolean), Cond.methodLink RX4 182 yX4_lightFrom, Cond.instanceMethod yX4_lightFrom, Cond.selects RX4 yX4_lightFrom yX4_lightFrom, Cond.code yX4_lightFrom cX4_lightFrom 6 (some .int), Cond.fieldLink RX4 10 "FacadeShow" "square" "LFacadeShow$Square;", Cond.methodLink RX4 285 yX4_isAimedAt, Cond.instanceMethod yX4_isAimedAt, Cond.selects RX4 yX4_isAimedAt yX4_isAimedAt, Cond.code yX4_isAimedAt cX4_isAimedAt 4 (some .boolean), Cond.fieldLink RX4 30 "FacadeShow" "windNow" "I", Cond.methodLink RX4 291 yX4_isBlocked, Cond.instanceMethod yX4_isBlocked, Cond.selects RX4 yX4_isBlocked yX4_isBlocked, Cond.code yX4_isBlocked cX4_isBlocked 4 (some .boolean), Cond.instanceMethod yX2_reliefOf, Cond.initialized RX2, Cond.selects RX2 yX2_reliefOf yX2_reliefOf, Cond.code yX2_reliefOf cX2_reliefOf 2 (some .int)]
def wsX4_covered_r3 : List Cond := [Cond.fieldLink RX2 9 "FacadeShow$Square" "reliefs" "[I", Cond.methodLink RX4 178 yX4_crossing, Cond.instanceMethod yX4_crossing, Cond.selects RX4 yX4_crossing yX4_crossing, Cond.code yX4_crossing cX4_crossing 8 (some .int), Cond.instanceMethod yX2_stopsRays, Cond.selects RX2 yX2_stopsRays yX2_stopsRays, Cond.code yX2_stopsRays cX2_stopsRays 4 (some .boolean), Cond.methodLink RX2 29 yX2_contentOf, Cond.instanceMethod yX2_contentOf, Cond.selects RX2 yX2_contentOf yX2_contentOf, Cond.code yX2_contentOf cX2_contentOf 3 (some .int), Cond.fieldLink RX2 18 "FacadeShow$Square" "contents" "[I", Cond.methodLink RX2 25 yX2_isCell, Cond.static yX2_isCell, Cond.code yX2_isCell cX2_isCell 2 (some .boolean), Cond.methodLink RX2 33 yX2_reliefOf, Cond.instanceMethod yX2_hundredthsOf, Cond.selects RX2 yX2_hundredthsOf yX2_hundredthsOf, Cond.code yX2_hundredthsOf cX2_hundredthsOf 3 (some .int), Cond.fieldLink RX2 15 "FacadeShow$Square" "surfaces" "[I", Cond.methodLink RX4 186 yX4_isInFocus, Cond.instanceMethod yX4_isInFocus, Cond.selects RX4 yX4_isInFocus yX4_isInFocus]
def wsX4_covered_r4 : List Cond := [Cond.code yX4_isInFocus cX4_isInFocus 4 (some .boolean), Cond.instanceMethod yX3_isWellCovered, Cond.selects RX3 yX3_isWellCovered yX3_isWellCovered, Cond.code yX3_isWellCovered cX3_isWellCovered 6 (some .boolean)]
def wsX4_covered : List Cond := .code yX4_covered cX4_covered 4 (some .int) :: ((wsX4_covered_r1 ++ (wsX4_covered_r2 ++ (wsX4_covered_r3 ++ wsX4_covered_r4))) ++ wsX40 ++ wsX00 ++ wsX30 ++ wsX20 ++ (vx_atS RX4 90 "java/lang/IllegalArgumentException" ["java/lang/RuntimeException", "java/lang/Exception"]).filter goodWord)
def wsX4_unfailedProjectors : List Cond := .code yX4_unfailedProjectors cX4_unfailedProjectors 4 (some .int) :: ([.methodLink RX4 137 yX4_find, .instanceMethod yX4_find, .selects RX4 yX4_find yX4_find, .initialized RX4, .code yX4_find cX4_find 2 (some (.object "FacadeShow$Projector")), .fieldLink RX4 22 "FacadeShow" "projectorCount" "I", .fieldLink RX4 18 "FacadeShow" "placed" "[LFacadeShow$Projector;"] ++ wsX00 ++ wsX40)
def wsJ6_bitCount_0f7a4 : List Cond := .code yJ6_bitCount_0f7a4 cJ6_bitCount_0f7a4 1 (some .int) :: ([.constant RJ6 265 (1431655765), .constant RJ6 266 (858993459), .constant RJ6 267 (252645135)])
def wsX4_least_r1 : List Cond := [Cond.fieldLink RX4 22 "FacadeShow" "projectorCount" "I", Cond.fieldLink RX4 42 "FacadeShow" "survey" "LFacadeShow$Survey;", Cond.fieldLink RX4 33 "FacadeShow" "needed" "I", Cond.fieldLink RX4 36 "FacadeShow" "levelNow" "I", Cond.methodLink RX4 202 yX4_surveyLights, Cond.instanceMethod yX4_surveyLights, Cond.selects RX4 yX4_surveyLights yX4_surveyLights, Cond.initialized RX4, Cond.code yX4_surveyLights cX4_surveyLights 4 none, Cond.methodLink RX4 137 yX4_find, Cond.instanceMethod yX4_find, Cond.selects RX4 yX4_find yX4_find, Cond.code yX4_find cX4_find 2 (some (.object "FacadeShow$Projector")), Cond.fieldLink RX4 18 "FacadeShow" "placed" "[LFacadeShow$Projector;", Cond.instanceMethod yX3_note, Cond.initialized RX3, Cond.selects RX3 yX3_note yX3_note, Cond.code yX3_note cX3_note 7 none, Cond.fieldLink RX3 9 "FacadeShow$Survey" "lights" "[I", Cond.fieldLink RX3 15 "FacadeShow$Survey" "blurring" "[I", Cond.methodLink RX3 22 yX3_isPlace, Cond.static yX3_isPlace, Cond.code yX3_isPlace cX3_isPlace 2 (some .boolean), Cond.static yX4_isColumn]
def wsX4_least_r2 : List Cond := [Cond.code yX4_isColumn cX4_isColumn 1 (some .boolean), Cond.methodLink RX4 182 yX4_lightFrom, Cond.instanceMethod yX4_lightFrom, Cond.selects RX4 yX4_lightFrom yX4_lightFrom, Cond.code yX4_lightFrom cX4_lightFrom 6 (some .int), Cond.fieldLink RX4 10 "FacadeShow" "square" "LFacadeShow$Square;", Cond.methodLink RX4 285 yX4_isAimedAt, Cond.instanceMethod yX4_isAimedAt, Cond.selects RX4 yX4_isAimedAt yX4_isAimedAt, Cond.code yX4_isAimedAt cX4_isAimedAt 4 (some .boolean), Cond.fieldLink RX4 30 "FacadeShow" "windNow" "I", Cond.methodLink RX4 291 yX4_isBlocked, Cond.instanceMethod yX4_isBlocked, Cond.selects RX4 yX4_isBlocked yX4_isBlocked, Cond.code yX4_isBlocked cX4_isBlocked 4 (some .boolean), Cond.instanceMethod yX2_reliefOf, Cond.initialized RX2, Cond.selects RX2 yX2_reliefOf yX2_reliefOf, Cond.code yX2_reliefOf cX2_reliefOf 2 (some .int), Cond.fieldLink RX2 9 "FacadeShow$Square" "reliefs" "[I", Cond.methodLink RX4 178 yX4_crossing, Cond.instanceMethod yX4_crossing, Cond.selects RX4 yX4_crossing yX4_crossing, Cond.code yX4_crossing cX4_crossing 8 (some .int)]
def wsX4_least_r3 : List Cond := [Cond.instanceMethod yX2_stopsRays, Cond.selects RX2 yX2_stopsRays yX2_stopsRays, Cond.code yX2_stopsRays cX2_stopsRays 4 (some .boolean), Cond.methodLink RX2 29 yX2_contentOf, Cond.instanceMethod yX2_contentOf, Cond.selects RX2 yX2_contentOf yX2_contentOf, Cond.code yX2_contentOf cX2_contentOf 3 (some .int), Cond.fieldLink RX2 18 "FacadeShow$Square" "contents" "[I", Cond.methodLink RX2 25 yX2_isCell, Cond.static yX2_isCell, Cond.code yX2_isCell cX2_isCell 2 (some .boolean), Cond.methodLink RX2 33 yX2_reliefOf, Cond.instanceMethod yX2_hundredthsOf, Cond.selects RX2 yX2_hundredthsOf yX2_hundredthsOf, Cond.code yX2_hundredthsOf cX2_hundredthsOf 3 (some .int), Cond.fieldLink RX2 15 "FacadeShow$Square" "surfaces" "[I", Cond.methodLink RX4 186 yX4_isInFocus, Cond.instanceMethod yX4_isInFocus, Cond.selects RX4 yX4_isInFocus yX4_isInFocus, Cond.code yX4_isInFocus cX4_isInFocus 4 (some .boolean), Cond.methodLink RX4 209 yX4_unfailedProjectors, Cond.instanceMethod yX4_unfailedProjectors, Cond.selects RX4 yX4_unfailedProjectors yX4_unfailedProjectors, Cond.code yX4_unfailedProjectors cX4_unfailedProjectors 4 (some .int)]
def wsX4_least_r4 : List Cond := [Cond.methodLink RX4 213 yJ6_bitCount_0f7a4, Cond.static yJ6_bitCount_0f7a4, Cond.initialized RJ6, Cond.code yJ6_bitCount_0f7a4 cJ6_bitCount_0f7a4 1 (some .int), Cond.constant RJ6 265 (1431655765), Cond.constant RJ6 266 (858993459), Cond.constant RJ6 267 (252645135), Cond.instanceMethod yX3_coversAll, Cond.selects RX3 yX3_coversAll yX3_coversAll, Cond.code yX3_coversAll cX3_coversAll 5 (some .boolean), Cond.methodLink RX3 26 yX3_isWellCovered, Cond.instanceMethod yX3_isWellCovered, Cond.selects RX3 yX3_isWellCovered yX3_isWellCovered, Cond.code yX3_isWellCovered cX3_isWellCovered 6 (some .boolean)]
def wsX4_least : List Cond := .code yX4_least cX4_least 6 (some .int) :: ((wsX4_least_r1 ++ (wsX4_least_r2 ++ (wsX4_least_r3 ++ wsX4_least_r4))) ++ wsX40 ++ wsX00 ++ wsX30 ++ wsX20)
def wsX4_leastAnew_r1 : List Cond := [Cond.fieldLink RX4 22 "FacadeShow" "projectorCount" "I", Cond.fieldLink RX4 42 "FacadeShow" "survey" "LFacadeShow$Survey;", Cond.fieldLink RX4 33 "FacadeShow" "needed" "I", Cond.fieldLink RX4 36 "FacadeShow" "levelNow" "I", Cond.methodLink RX4 202 yX4_surveyLights, Cond.instanceMethod yX4_surveyLights, Cond.selects RX4 yX4_surveyLights yX4_surveyLights, Cond.initialized RX4, Cond.code yX4_surveyLights cX4_surveyLights 4 none, Cond.methodLink RX4 137 yX4_find, Cond.instanceMethod yX4_find, Cond.selects RX4 yX4_find yX4_find, Cond.code yX4_find cX4_find 2 (some (.object "FacadeShow$Projector")), Cond.fieldLink RX4 18 "FacadeShow" "placed" "[LFacadeShow$Projector;", Cond.instanceMethod yX3_note, Cond.initialized RX3, Cond.selects RX3 yX3_note yX3_note, Cond.code yX3_note cX3_note 7 none, Cond.fieldLink RX3 9 "FacadeShow$Survey" "lights" "[I", Cond.fieldLink RX3 15 "FacadeShow$Survey" "blurring" "[I", Cond.methodLink RX3 22 yX3_isPlace, Cond.static yX3_isPlace, Cond.code yX3_isPlace cX3_isPlace 2 (some .boolean), Cond.static yX4_isColumn]
def wsX4_leastAnew_r2 : List Cond := [Cond.code yX4_isColumn cX4_isColumn 1 (some .boolean), Cond.methodLink RX4 182 yX4_lightFrom, Cond.instanceMethod yX4_lightFrom, Cond.selects RX4 yX4_lightFrom yX4_lightFrom, Cond.code yX4_lightFrom cX4_lightFrom 6 (some .int), Cond.fieldLink RX4 10 "FacadeShow" "square" "LFacadeShow$Square;", Cond.methodLink RX4 285 yX4_isAimedAt, Cond.instanceMethod yX4_isAimedAt, Cond.selects RX4 yX4_isAimedAt yX4_isAimedAt, Cond.code yX4_isAimedAt cX4_isAimedAt 4 (some .boolean), Cond.fieldLink RX4 30 "FacadeShow" "windNow" "I", Cond.methodLink RX4 291 yX4_isBlocked, Cond.instanceMethod yX4_isBlocked, Cond.selects RX4 yX4_isBlocked yX4_isBlocked, Cond.code yX4_isBlocked cX4_isBlocked 4 (some .boolean), Cond.instanceMethod yX2_reliefOf, Cond.initialized RX2, Cond.selects RX2 yX2_reliefOf yX2_reliefOf, Cond.code yX2_reliefOf cX2_reliefOf 2 (some .int), Cond.fieldLink RX2 9 "FacadeShow$Square" "reliefs" "[I", Cond.methodLink RX4 178 yX4_crossing, Cond.instanceMethod yX4_crossing, Cond.selects RX4 yX4_crossing yX4_crossing, Cond.code yX4_crossing cX4_crossing 8 (some .int)]
def wsX4_leastAnew_r3 : List Cond := [Cond.instanceMethod yX2_stopsRays, Cond.selects RX2 yX2_stopsRays yX2_stopsRays, Cond.code yX2_stopsRays cX2_stopsRays 4 (some .boolean), Cond.methodLink RX2 29 yX2_contentOf, Cond.instanceMethod yX2_contentOf, Cond.selects RX2 yX2_contentOf yX2_contentOf, Cond.code yX2_contentOf cX2_contentOf 3 (some .int), Cond.fieldLink RX2 18 "FacadeShow$Square" "contents" "[I", Cond.methodLink RX2 25 yX2_isCell, Cond.static yX2_isCell, Cond.code yX2_isCell cX2_isCell 2 (some .boolean), Cond.methodLink RX2 33 yX2_reliefOf, Cond.instanceMethod yX2_hundredthsOf, Cond.selects RX2 yX2_hundredthsOf yX2_hundredthsOf, Cond.code yX2_hundredthsOf cX2_hundredthsOf 3 (some .int), Cond.fieldLink RX2 15 "FacadeShow$Square" "surfaces" "[I", Cond.methodLink RX4 186 yX4_isInFocus, Cond.instanceMethod yX4_isInFocus, Cond.selects RX4 yX4_isInFocus yX4_isInFocus, Cond.code yX4_isInFocus cX4_isInFocus 4 (some .boolean), Cond.methodLink RX4 209 yX4_unfailedProjectors, Cond.instanceMethod yX4_unfailedProjectors, Cond.selects RX4 yX4_unfailedProjectors yX4_unfailedProjectors, Cond.code yX4_unfailedProjectors cX4_unfailedProjectors 4 (some .int)]
def wsX4_leastAnew_r4 : List Cond := [Cond.methodLink RX4 213 yJ6_bitCount_0f7a4, Cond.static yJ6_bitCount_0f7a4, Cond.initialized RJ6, Cond.code yJ6_bitCount_0f7a4 cJ6_bitCount_0f7a4 1 (some .int), Cond.constant RJ6 265 (1431655765), Cond.constant RJ6 266 (858993459), Cond.constant RJ6 267 (252645135), Cond.instanceMethod yX3_coversAll, Cond.selects RX3 yX3_coversAll yX3_coversAll, Cond.code yX3_coversAll cX3_coversAll 5 (some .boolean), Cond.methodLink RX3 26 yX3_isWellCovered, Cond.instanceMethod yX3_isWellCovered, Cond.selects RX3 yX3_isWellCovered yX3_isWellCovered, Cond.code yX3_isWellCovered cX3_isWellCovered 6 (some .boolean)]
def wsX4_leastAnew : List Cond := .code yX4_leastAnew cX4_leastAnew 4 (some .int) :: ((wsX4_leastAnew_r1 ++ (wsX4_leastAnew_r2 ++ (wsX4_leastAnew_r3 ++ wsX4_leastAnew_r4))) ++ wsX40 ++ wsX00 ++ wsX30 ++ wsX20)
def wsX4_bears_r1 : List Cond := [Cond.classLink RX4 86 "java/lang/IllegalArgumentException", Cond.initialized "java/lang/IllegalArgumentException", Cond.fieldLink RX4 42 "FacadeShow" "survey" "LFacadeShow$Survey;", Cond.fieldLink RX4 33 "FacadeShow" "needed" "I", Cond.fieldLink RX4 36 "FacadeShow" "levelNow" "I", Cond.methodLink RX4 197 yX4_isSetOfProjectors, Cond.instanceMethod yX4_isSetOfProjectors, Cond.selects RX4 yX4_isSetOfProjectors yX4_isSetOfProjectors, Cond.initialized RX4, Cond.code yX4_isSetOfProjectors cX4_isSetOfProjectors 2 (some .boolean), Cond.fieldLink RX4 22 "FacadeShow" "projectorCount" "I", Cond.methodLink RX4 202 yX4_surveyLights, Cond.instanceMethod yX4_surveyLights, Cond.selects RX4 yX4_surveyLights yX4_surveyLights, Cond.code yX4_surveyLights cX4_surveyLights 4 none, Cond.methodLink RX4 137 yX4_find, Cond.instanceMethod yX4_find, Cond.selects RX4 yX4_find yX4_find, Cond.code yX4_find cX4_find 2 (some (.object "FacadeShow$Projector")), Cond.fieldLink RX4 18 "FacadeShow" "placed" "[LFacadeShow$Projector;", Cond.instanceMethod yX3_note, Cond.initialized RX3, Cond.selects RX3 yX3_note yX3_note, Cond.code yX3_note cX3_note 7 none]
def wsX4_bears_r2 : List Cond := [Cond.fieldLink RX3 9 "FacadeShow$Survey" "lights" "[I", Cond.fieldLink RX3 15 "FacadeShow$Survey" "blurring" "[I", Cond.methodLink RX3 22 yX3_isPlace, Cond.static yX3_isPlace, Cond.code yX3_isPlace cX3_isPlace 2 (some .boolean), Cond.static yX4_isColumn, Cond.code yX4_isColumn cX4_isColumn 1 (some .boolean), Cond.methodLink RX4 182 yX4_lightFrom, Cond.instanceMethod yX4_lightFrom, Cond.selects RX4 yX4_lightFrom yX4_lightFrom, Cond.code yX4_lightFrom cX4_lightFrom 6 (some .int), Cond.fieldLink RX4 10 "FacadeShow" "square" "LFacadeShow$Square;", Cond.methodLink RX4 285 yX4_isAimedAt, Cond.instanceMethod yX4_isAimedAt, Cond.selects RX4 yX4_isAimedAt yX4_isAimedAt, Cond.code yX4_isAimedAt cX4_isAimedAt 4 (some .boolean), Cond.fieldLink RX4 30 "FacadeShow" "windNow" "I", Cond.methodLink RX4 291 yX4_isBlocked, Cond.instanceMethod yX4_isBlocked, Cond.selects RX4 yX4_isBlocked yX4_isBlocked, Cond.code yX4_isBlocked cX4_isBlocked 4 (some .boolean), Cond.instanceMethod yX2_reliefOf, Cond.initialized RX2, Cond.selects RX2 yX2_reliefOf yX2_reliefOf]
def wsX4_bears_r3 : List Cond := [Cond.code yX2_reliefOf cX2_reliefOf 2 (some .int), Cond.fieldLink RX2 9 "FacadeShow$Square" "reliefs" "[I", Cond.methodLink RX4 178 yX4_crossing, Cond.instanceMethod yX4_crossing, Cond.selects RX4 yX4_crossing yX4_crossing, Cond.code yX4_crossing cX4_crossing 8 (some .int), Cond.instanceMethod yX2_stopsRays, Cond.selects RX2 yX2_stopsRays yX2_stopsRays, Cond.code yX2_stopsRays cX2_stopsRays 4 (some .boolean), Cond.methodLink RX2 29 yX2_contentOf, Cond.instanceMethod yX2_contentOf, Cond.selects RX2 yX2_contentOf yX2_contentOf, Cond.code yX2_contentOf cX2_contentOf 3 (some .int), Cond.fieldLink RX2 18 "FacadeShow$Square" "contents" "[I", Cond.methodLink RX2 25 yX2_isCell, Cond.static yX2_isCell, Cond.code yX2_isCell cX2_isCell 2 (some .boolean), Cond.methodLink RX2 33 yX2_reliefOf, Cond.instanceMethod yX2_hundredthsOf, Cond.selects RX2 yX2_hundredthsOf yX2_hundredthsOf, Cond.code yX2_hundredthsOf cX2_hundredthsOf 3 (some .int), Cond.fieldLink RX2 15 "FacadeShow$Square" "surfaces" "[I", Cond.methodLink RX4 186 yX4_isInFocus, Cond.instanceMethod yX4_isInFocus]
def wsX4_bears_r4 : List Cond := [Cond.selects RX4 yX4_isInFocus yX4_isInFocus, Cond.code yX4_isInFocus cX4_isInFocus 4 (some .boolean), Cond.instanceMethod yX3_coversAll, Cond.selects RX3 yX3_coversAll yX3_coversAll, Cond.code yX3_coversAll cX3_coversAll 5 (some .boolean), Cond.methodLink RX3 26 yX3_isWellCovered, Cond.instanceMethod yX3_isWellCovered, Cond.selects RX3 yX3_isWellCovered yX3_isWellCovered, Cond.code yX3_isWellCovered cX3_isWellCovered 6 (some .boolean)]
def wsX4_bears : List Cond := .code yX4_bears cX4_bears 5 (some .boolean) :: ((wsX4_bears_r1 ++ (wsX4_bears_r2 ++ (wsX4_bears_r3 ++ wsX4_bears_r4))) ++ wsX40 ++ wsX00 ++ wsX30 ++ wsX20 ++ (vx_atS RX4 90 "java/lang/IllegalArgumentException" ["java/lang/RuntimeException", "java/lang/Exception"]).filter goodWord)
def wsX4_meetsTheLiving : List Cond := .code yX4_meetsTheLiving cX4_meetsTheLiving 4 (some .boolean) :: ([.fieldLink RX4 10 "FacadeShow" "square" "LFacadeShow$Square;", .methodLink RX4 178 yX4_crossing, .instanceMethod yX4_crossing, .selects RX4 yX4_crossing yX4_crossing, .initialized RX4, .code yX4_crossing cX4_crossing 8 (some .int), .instanceMethod yX2_reliefOf, .initialized RX2, .selects RX2 yX2_reliefOf yX2_reliefOf, .code yX2_reliefOf cX2_reliefOf 2 (some .int), .fieldLink RX2 9 "FacadeShow$Square" "reliefs" "[I", .static yX4_isColumn, .code yX4_isColumn cX4_isColumn 1 (some .boolean), .instanceMethod yX2_hasTheLiving, .selects RX2 yX2_hasTheLiving yX2_hasTheLiving, .code yX2_hasTheLiving cX2_hasTheLiving 4 (some .boolean), .methodLink RX2 29 yX2_contentOf, .instanceMethod yX2_contentOf, .selects RX2 yX2_contentOf yX2_contentOf, .code yX2_contentOf cX2_contentOf 3 (some .int), .fieldLink RX2 18 "FacadeShow$Square" "contents" "[I", .methodLink RX2 25 yX2_isCell, .static yX2_isCell, .code yX2_isCell cX2_isCell 2 (some .boolean)] ++ wsX00 ++ wsX40 ++ wsX20)
def wsX4_breachesBy_r1 : List Cond := [Cond.methodLink RX4 285 yX4_isAimedAt, Cond.instanceMethod yX4_isAimedAt, Cond.selects RX4 yX4_isAimedAt yX4_isAimedAt, Cond.initialized RX4, Cond.code yX4_isAimedAt cX4_isAimedAt 4 (some .boolean), Cond.fieldLink RX4 30 "FacadeShow" "windNow" "I", Cond.methodLink RX4 288 yX4_meetsTheLiving, Cond.instanceMethod yX4_meetsTheLiving, Cond.selects RX4 yX4_meetsTheLiving yX4_meetsTheLiving, Cond.code yX4_meetsTheLiving cX4_meetsTheLiving 4 (some .boolean), Cond.fieldLink RX4 10 "FacadeShow" "square" "LFacadeShow$Square;", Cond.methodLink RX4 178 yX4_crossing, Cond.instanceMethod yX4_crossing, Cond.selects RX4 yX4_crossing yX4_crossing, Cond.code yX4_crossing cX4_crossing 8 (some .int), Cond.instanceMethod yX2_reliefOf, Cond.initialized RX2, Cond.selects RX2 yX2_reliefOf yX2_reliefOf, Cond.code yX2_reliefOf cX2_reliefOf 2 (some .int), Cond.fieldLink RX2 9 "FacadeShow$Square" "reliefs" "[I", Cond.static yX4_isColumn, Cond.code yX4_isColumn cX4_isColumn 1 (some .boolean), Cond.instanceMethod yX2_hasTheLiving, Cond.selects RX2 yX2_hasTheLiving yX2_hasTheLiving]
def wsX4_breachesBy_r2 : List Cond := [Cond.code yX2_hasTheLiving cX2_hasTheLiving 4 (some .boolean), Cond.methodLink RX2 29 yX2_contentOf, Cond.instanceMethod yX2_contentOf, Cond.selects RX2 yX2_contentOf yX2_contentOf, Cond.code yX2_contentOf cX2_contentOf 3 (some .int), Cond.fieldLink RX2 18 "FacadeShow$Square" "contents" "[I", Cond.methodLink RX2 25 yX2_isCell, Cond.static yX2_isCell, Cond.code yX2_isCell cX2_isCell 2 (some .boolean), Cond.methodLink RX4 291 yX4_isBlocked, Cond.instanceMethod yX4_isBlocked, Cond.selects RX4 yX4_isBlocked yX4_isBlocked, Cond.code yX4_isBlocked cX4_isBlocked 4 (some .boolean), Cond.instanceMethod yX2_stopsRays, Cond.selects RX2 yX2_stopsRays yX2_stopsRays, Cond.code yX2_stopsRays cX2_stopsRays 4 (some .boolean), Cond.methodLink RX2 33 yX2_reliefOf]
def wsX4_breachesBy : List Cond := .code yX4_breachesBy cX4_breachesBy 4 (some .int) :: ((wsX4_breachesBy_r1 ++ wsX4_breachesBy_r2) ++ wsX00 ++ wsX40 ++ wsX20)
def wsX4_breaches_r1 : List Cond := [Cond.methodLink RX4 137 yX4_find, Cond.instanceMethod yX4_find, Cond.selects RX4 yX4_find yX4_find, Cond.initialized RX4, Cond.code yX4_find cX4_find 2 (some (.object "FacadeShow$Projector")), Cond.fieldLink RX4 22 "FacadeShow" "projectorCount" "I", Cond.fieldLink RX4 18 "FacadeShow" "placed" "[LFacadeShow$Projector;", Cond.instanceMethod yX0_shines, Cond.initialized RX0, Cond.selects RX0 yX0_shines yX0_shines, Cond.code yX0_shines cX0_shines 1 (some .boolean), Cond.fieldLink RX0 33 "FacadeShow$Projector" "isOn" "Z", Cond.fieldLink RX0 37 "FacadeShow$Projector" "hasFailed" "Z", Cond.methodLink RX4 221 yX4_breachesBy, Cond.instanceMethod yX4_breachesBy, Cond.selects RX4 yX4_breachesBy yX4_breachesBy, Cond.code yX4_breachesBy cX4_breachesBy 4 (some .int), Cond.methodLink RX4 285 yX4_isAimedAt, Cond.instanceMethod yX4_isAimedAt, Cond.selects RX4 yX4_isAimedAt yX4_isAimedAt, Cond.code yX4_isAimedAt cX4_isAimedAt 4 (some .boolean), Cond.fieldLink RX4 30 "FacadeShow" "windNow" "I", Cond.methodLink RX4 288 yX4_meetsTheLiving, Cond.instanceMethod yX4_meetsTheLiving]
def wsX4_breaches_r2 : List Cond := [Cond.selects RX4 yX4_meetsTheLiving yX4_meetsTheLiving, Cond.code yX4_meetsTheLiving cX4_meetsTheLiving 4 (some .boolean), Cond.fieldLink RX4 10 "FacadeShow" "square" "LFacadeShow$Square;", Cond.methodLink RX4 178 yX4_crossing, Cond.instanceMethod yX4_crossing, Cond.selects RX4 yX4_crossing yX4_crossing, Cond.code yX4_crossing cX4_crossing 8 (some .int), Cond.instanceMethod yX2_reliefOf, Cond.initialized RX2, Cond.selects RX2 yX2_reliefOf yX2_reliefOf, Cond.code yX2_reliefOf cX2_reliefOf 2 (some .int), Cond.fieldLink RX2 9 "FacadeShow$Square" "reliefs" "[I", Cond.static yX4_isColumn, Cond.code yX4_isColumn cX4_isColumn 1 (some .boolean), Cond.instanceMethod yX2_hasTheLiving, Cond.selects RX2 yX2_hasTheLiving yX2_hasTheLiving, Cond.code yX2_hasTheLiving cX2_hasTheLiving 4 (some .boolean), Cond.methodLink RX2 29 yX2_contentOf, Cond.instanceMethod yX2_contentOf, Cond.selects RX2 yX2_contentOf yX2_contentOf, Cond.code yX2_contentOf cX2_contentOf 3 (some .int), Cond.fieldLink RX2 18 "FacadeShow$Square" "contents" "[I", Cond.methodLink RX2 25 yX2_isCell, Cond.static yX2_isCell]
def wsX4_breaches_r3 : List Cond := [Cond.code yX2_isCell cX2_isCell 2 (some .boolean), Cond.methodLink RX4 291 yX4_isBlocked, Cond.instanceMethod yX4_isBlocked, Cond.selects RX4 yX4_isBlocked yX4_isBlocked, Cond.code yX4_isBlocked cX4_isBlocked 4 (some .boolean), Cond.instanceMethod yX2_stopsRays, Cond.selects RX2 yX2_stopsRays yX2_stopsRays, Cond.code yX2_stopsRays cX2_stopsRays 4 (some .boolean), Cond.methodLink RX2 33 yX2_reliefOf]
def wsX4_breaches : List Cond := .code yX4_breaches cX4_breaches 4 (some .int) :: ((wsX4_breaches_r1 ++ (wsX4_breaches_r2 ++ wsX4_breaches_r3)) ++ wsX40 ++ wsX00 ++ wsX20)
def wsX4_curfew : List Cond := .code yX4_curfew cX4_curfew 3 none :: ([.classLink RX4 86 "java/lang/IllegalArgumentException", .initialized "java/lang/IllegalArgumentException", .fieldLink RX4 46 "FacadeShow" "curfewFrom" "I", .fieldLink RX4 49 "FacadeShow" "curfewTo" "I"] ++ wsX40 ++ (vx_atS RX4 90 "java/lang/IllegalArgumentException" ["java/lang/RuntimeException", "java/lang/Exception"]).filter goodWord)
def wsX4_ready : List Cond := .code yX4_ready cX4_ready 5 (some .int) :: ([.classLink RX4 79 "java/lang/IndexOutOfBoundsException", .initialized "java/lang/IndexOutOfBoundsException", .classLink RX4 86 "java/lang/IllegalArgumentException", .initialized "java/lang/IllegalArgumentException", .constant RX4 173 (99999), .methodLink RX4 137 yX4_find, .instanceMethod yX4_find, .selects RX4 yX4_find yX4_find, .initialized RX4, .code yX4_find cX4_find 2 (some (.object "FacadeShow$Projector")), .fieldLink RX4 22 "FacadeShow" "projectorCount" "I", .fieldLink RX4 18 "FacadeShow" "placed" "[LFacadeShow$Projector;"] ++ wsX00 ++ wsX40 ++ (vx_atS RX4 83 "java/lang/IndexOutOfBoundsException" ["java/lang/RuntimeException", "java/lang/Exception"]).filter goodWord ++ (vx_atS RX4 90 "java/lang/IllegalArgumentException" ["java/lang/RuntimeException", "java/lang/Exception"]).filter goodWord)
def wsX4_findScene : List Cond := .code yX4_findScene cX4_findScene 2 (some (.object "FacadeShow$Scene")) :: ([.fieldLink RX4 55 "FacadeShow" "scenes" "[LFacadeShow$Scene;"] ++ wsX40)
def wsX4_propose : List Cond := .code yX4_propose cX4_propose 5 (some .int) :: ([.classLink RX4 79 "java/lang/IndexOutOfBoundsException", .initialized "java/lang/IndexOutOfBoundsException", .classLink RX4 86 "java/lang/IllegalArgumentException", .initialized "java/lang/IllegalArgumentException", .methodLink RX4 234 yX4_findScene, .instanceMethod yX4_findScene, .selects RX4 yX4_findScene yX4_findScene, .initialized RX4, .code yX4_findScene cX4_findScene 2 (some (.object "FacadeShow$Scene")), .fieldLink RX4 55 "FacadeShow" "scenes" "[LFacadeShow$Scene;"] ++ wsX10 ++ wsX40 ++ (vx_atS RX4 83 "java/lang/IndexOutOfBoundsException" ["java/lang/RuntimeException", "java/lang/Exception"]).filter goodWord ++ (vx_atS RX4 90 "java/lang/IllegalArgumentException" ["java/lang/RuntimeException", "java/lang/Exception"]).filter goodWord)
def wsX4_answer : List Cond := .code yX4_answer cX4_answer 4 (some .int) :: ([.classLink RX4 79 "java/lang/IndexOutOfBoundsException", .initialized "java/lang/IndexOutOfBoundsException", .classLink RX4 108 "java/lang/IllegalStateException", .initialized "java/lang/IllegalStateException", .methodLink RX4 234 yX4_findScene, .instanceMethod yX4_findScene, .selects RX4 yX4_findScene yX4_findScene, .initialized RX4, .code yX4_findScene cX4_findScene 2 (some (.object "FacadeShow$Scene")), .fieldLink RX4 55 "FacadeShow" "scenes" "[LFacadeShow$Scene;"] ++ wsX10 ++ wsX40 ++ (vx_atS RX4 83 "java/lang/IndexOutOfBoundsException" ["java/lang/RuntimeException", "java/lang/Exception"]).filter goodWord ++ (vx_atS RX4 112 "java/lang/IllegalStateException" ["java/lang/RuntimeException", "java/lang/Exception"]).filter goodWord)
def wsX4_scene : List Cond := .code yX4_scene cX4_scene 4 (some .int) :: ([.classLink RX4 79 "java/lang/IndexOutOfBoundsException", .initialized "java/lang/IndexOutOfBoundsException", .methodLink RX4 234 yX4_findScene, .instanceMethod yX4_findScene, .selects RX4 yX4_findScene yX4_findScene, .initialized RX4, .code yX4_findScene cX4_findScene 2 (some (.object "FacadeShow$Scene")), .fieldLink RX4 55 "FacadeShow" "scenes" "[LFacadeShow$Scene;"] ++ wsX10 ++ wsX40 ++ (vx_atS RX4 83 "java/lang/IndexOutOfBoundsException" ["java/lang/RuntimeException", "java/lang/Exception"]).filter goodWord)
def wsX4_countOfOn : List Cond := .code yX4_countOfOn cX4_countOfOn 4 (some .int) :: ([.methodLink RX4 137 yX4_find, .instanceMethod yX4_find, .selects RX4 yX4_find yX4_find, .initialized RX4, .code yX4_find cX4_find 2 (some (.object "FacadeShow$Projector")), .fieldLink RX4 22 "FacadeShow" "projectorCount" "I", .fieldLink RX4 18 "FacadeShow" "placed" "[LFacadeShow$Projector;"] ++ wsX00 ++ wsX40)
def wsX4_show : List Cond := .code yX4_show cX4_show 2 (some .long) :: ([.classLink RX4 86 "java/lang/IllegalArgumentException", .initialized "java/lang/IllegalArgumentException", .fieldLink RX4 59 "FacadeShow" "frameNow" "I", .fieldLink RX4 62 "FacadeShow" "heldCount" "I", .fieldLink RX4 65 "FacadeShow" "breachCount" "J", .fieldLink RX4 69 "FacadeShow" "energy" "J", .fieldLink RX4 72 "FacadeShow" "minuteNow" "I", .methodLink RX4 250 yX4_countOfOn, .instanceMethod yX4_countOfOn, .selects RX4 yX4_countOfOn yX4_countOfOn, .initialized RX4, .code yX4_countOfOn cX4_countOfOn 4 (some .int), .methodLink RX4 137 yX4_find, .instanceMethod yX4_find, .selects RX4 yX4_find yX4_find, .code yX4_find cX4_find 2 (some (.object "FacadeShow$Projector")), .fieldLink RX4 22 "FacadeShow" "projectorCount" "I", .fieldLink RX4 18 "FacadeShow" "placed" "[LFacadeShow$Projector;"] ++ wsX40 ++ wsX00 ++ (vx_atS RX4 90 "java/lang/IllegalArgumentException" ["java/lang/RuntimeException", "java/lang/Exception"]).filter goodWord)
def wsX4_powerOfOn : List Cond := .code yX4_powerOfOn cX4_powerOfOn 1 (some .int) :: ([.methodLink RX4 158 yX4_loadOf, .instanceMethod yX4_loadOf, .selects RX4 yX4_loadOf yX4_loadOf, .initialized RX4, .code yX4_loadOf cX4_loadOf 5 (some .int), .methodLink RX4 137 yX4_find, .instanceMethod yX4_find, .selects RX4 yX4_find yX4_find, .code yX4_find cX4_find 2 (some (.object "FacadeShow$Projector")), .fieldLink RX4 22 "FacadeShow" "projectorCount" "I", .fieldLink RX4 18 "FacadeShow" "placed" "[LFacadeShow$Projector;"] ++ wsX00 ++ wsX40)
def wsX4_lastFrameOfAll : List Cond := .code yX4_lastFrameOfAll cX4_lastFrameOfAll 4 (some .int) :: ([.methodLink RX4 137 yX4_find, .instanceMethod yX4_find, .selects RX4 yX4_find yX4_find, .initialized RX4, .code yX4_find cX4_find 2 (some (.object "FacadeShow$Projector")), .fieldLink RX4 22 "FacadeShow" "projectorCount" "I", .fieldLink RX4 18 "FacadeShow" "placed" "[LFacadeShow$Projector;", .instanceMethod yX0_shines, .initialized RX0, .selects RX0 yX0_shines yX0_shines, .code yX0_shines cX0_shines 1 (some .boolean), .fieldLink RX0 33 "FacadeShow$Projector" "isOn" "Z", .fieldLink RX0 37 "FacadeShow$Projector" "hasFailed" "Z"] ++ wsX00 ++ wsX40)
def wsX4_isCurfewNow : List Cond := .code yX4_isCurfewNow cX4_isCurfewNow 2 (some .boolean) :: ([.fieldLink RX4 72 "FacadeShow" "minuteNow" "I", .fieldLink RX4 46 "FacadeShow" "curfewFrom" "I", .fieldLink RX4 49 "FacadeShow" "curfewTo" "I"] ++ wsX40)
def wsX4_pass_r1 : List Cond := [Cond.classLink RX4 86 "java/lang/IllegalArgumentException", Cond.initialized "java/lang/IllegalArgumentException", Cond.classLink RX4 108 "java/lang/IllegalStateException", Cond.initialized "java/lang/IllegalStateException", Cond.constant RX4 173 (99999), Cond.fieldLink RX4 72 "FacadeShow" "minuteNow" "I", Cond.fieldLink RX4 65 "FacadeShow" "breachCount" "J", Cond.fieldLink RX4 69 "FacadeShow" "energy" "J", Cond.fieldLink RX4 59 "FacadeShow" "frameNow" "I", Cond.fieldLink RX4 62 "FacadeShow" "heldCount" "I", Cond.methodLink RX4 257 yX4_breaches, Cond.instanceMethod yX4_breaches, Cond.selects RX4 yX4_breaches yX4_breaches, Cond.initialized RX4, Cond.code yX4_breaches cX4_breaches 4 (some .int), Cond.methodLink RX4 137 yX4_find, Cond.instanceMethod yX4_find, Cond.selects RX4 yX4_find yX4_find, Cond.code yX4_find cX4_find 2 (some (.object "FacadeShow$Projector")), Cond.fieldLink RX4 22 "FacadeShow" "projectorCount" "I", Cond.fieldLink RX4 18 "FacadeShow" "placed" "[LFacadeShow$Projector;", Cond.instanceMethod yX0_shines, Cond.initialized RX0, Cond.selects RX0 yX0_shines yX0_shines]
def wsX4_pass_r2 : List Cond := [Cond.code yX0_shines cX0_shines 1 (some .boolean), Cond.fieldLink RX0 33 "FacadeShow$Projector" "isOn" "Z", Cond.fieldLink RX0 37 "FacadeShow$Projector" "hasFailed" "Z", Cond.methodLink RX4 221 yX4_breachesBy, Cond.instanceMethod yX4_breachesBy, Cond.selects RX4 yX4_breachesBy yX4_breachesBy, Cond.code yX4_breachesBy cX4_breachesBy 4 (some .int), Cond.methodLink RX4 285 yX4_isAimedAt, Cond.instanceMethod yX4_isAimedAt, Cond.selects RX4 yX4_isAimedAt yX4_isAimedAt, Cond.code yX4_isAimedAt cX4_isAimedAt 4 (some .boolean), Cond.fieldLink RX4 30 "FacadeShow" "windNow" "I", Cond.methodLink RX4 288 yX4_meetsTheLiving, Cond.instanceMethod yX4_meetsTheLiving, Cond.selects RX4 yX4_meetsTheLiving yX4_meetsTheLiving, Cond.code yX4_meetsTheLiving cX4_meetsTheLiving 4 (some .boolean), Cond.fieldLink RX4 10 "FacadeShow" "square" "LFacadeShow$Square;", Cond.methodLink RX4 178 yX4_crossing, Cond.instanceMethod yX4_crossing, Cond.selects RX4 yX4_crossing yX4_crossing, Cond.code yX4_crossing cX4_crossing 8 (some .int), Cond.instanceMethod yX2_reliefOf, Cond.initialized RX2, Cond.selects RX2 yX2_reliefOf yX2_reliefOf]
def wsX4_pass_r3 : List Cond := [Cond.code yX2_reliefOf cX2_reliefOf 2 (some .int), Cond.fieldLink RX2 9 "FacadeShow$Square" "reliefs" "[I", Cond.static yX4_isColumn, Cond.code yX4_isColumn cX4_isColumn 1 (some .boolean), Cond.instanceMethod yX2_hasTheLiving, Cond.selects RX2 yX2_hasTheLiving yX2_hasTheLiving, Cond.code yX2_hasTheLiving cX2_hasTheLiving 4 (some .boolean), Cond.methodLink RX2 29 yX2_contentOf, Cond.instanceMethod yX2_contentOf, Cond.selects RX2 yX2_contentOf yX2_contentOf, Cond.code yX2_contentOf cX2_contentOf 3 (some .int), Cond.fieldLink RX2 18 "FacadeShow$Square" "contents" "[I", Cond.methodLink RX2 25 yX2_isCell, Cond.static yX2_isCell, Cond.code yX2_isCell cX2_isCell 2 (some .boolean), Cond.methodLink RX4 291 yX4_isBlocked, Cond.instanceMethod yX4_isBlocked, Cond.selects RX4 yX4_isBlocked yX4_isBlocked, Cond.code yX4_isBlocked cX4_isBlocked 4 (some .boolean), Cond.instanceMethod yX2_stopsRays, Cond.selects RX2 yX2_stopsRays yX2_stopsRays, Cond.code yX2_stopsRays cX2_stopsRays 4 (some .boolean), Cond.methodLink RX2 33 yX2_reliefOf, Cond.methodLink RX4 250 yX4_countOfOn]
def wsX4_pass_r4 : List Cond := [Cond.instanceMethod yX4_countOfOn, Cond.selects RX4 yX4_countOfOn yX4_countOfOn, Cond.code yX4_countOfOn cX4_countOfOn 4 (some .int), Cond.methodLink RX4 260 yX4_powerOfOn, Cond.instanceMethod yX4_powerOfOn, Cond.selects RX4 yX4_powerOfOn yX4_powerOfOn, Cond.code yX4_powerOfOn cX4_powerOfOn 1 (some .int), Cond.methodLink RX4 158 yX4_loadOf, Cond.instanceMethod yX4_loadOf, Cond.selects RX4 yX4_loadOf yX4_loadOf, Cond.code yX4_loadOf cX4_loadOf 5 (some .int), Cond.methodLink RX4 263 yX4_lastFrameOfAll, Cond.instanceMethod yX4_lastFrameOfAll, Cond.selects RX4 yX4_lastFrameOfAll yX4_lastFrameOfAll, Cond.code yX4_lastFrameOfAll cX4_lastFrameOfAll 4 (some .int), Cond.methodLink RX4 266 yX4_isCurfewNow, Cond.instanceMethod yX4_isCurfewNow, Cond.selects RX4 yX4_isCurfewNow yX4_isCurfewNow, Cond.code yX4_isCurfewNow cX4_isCurfewNow 2 (some .boolean), Cond.fieldLink RX4 46 "FacadeShow" "curfewFrom" "I", Cond.fieldLink RX4 49 "FacadeShow" "curfewTo" "I"]
def wsX4_pass : List Cond := .code yX4_pass cX4_pass 7 (some .int) :: ((wsX4_pass_r1 ++ (wsX4_pass_r2 ++ (wsX4_pass_r3 ++ wsX4_pass_r4))) ++ wsX40 ++ wsX00 ++ wsX20 ++ (vx_atS RX4 90 "java/lang/IllegalArgumentException" ["java/lang/RuntimeException", "java/lang/Exception"]).filter goodWord ++ (vx_atS RX4 112 "java/lang/IllegalStateException" ["java/lang/RuntimeException", "java/lang/Exception"]).filter goodWord)
def wsX5_init : List Cond := .code yX5_init cX5_init 1 none :: ([.methodLink RX5 1 objectInit, .instanceMethod objectInit, .code objectInit ⟨#[0xb1]⟩ 1 none, .arrayClass .int, .fieldLink RX5 7 "FacadeShowModel" "relief" "[I", .fieldLink RX5 13 "FacadeShowModel" "surface" "[I", .fieldLink RX5 16 "FacadeShowModel" "back" "[I", .fieldLink RX5 19 "FacadeShowModel" "cells" "[I", .arrayClass .boolean, .fieldLink RX5 22 "FacadeShowModel" "hasMast" "[Z", .fieldLink RX5 26 "FacadeShowModel" "level" "I", .fieldLink RX5 30 "FacadeShowModel" "column" "[I", .fieldLink RX5 33 "FacadeShowModel" "row" "[I", .fieldLink RX5 36 "FacadeShowModel" "power" "[I", .fieldLink RX5 39 "FacadeShowModel" "phase" "[I", .fieldLink RX5 42 "FacadeShowModel" "focus" "[I", .fieldLink RX5 45 "FacadeShowModel" "first" "[I", .fieldLink RX5 48 "FacadeShowModel" "last" "[I", .fieldLink RX5 51 "FacadeShowModel" "isOn" "[Z", .fieldLink RX5 54 "FacadeShowModel" "hasFailed" "[Z", .fieldLink RX5 57 "FacadeShowModel" "ready" "[I", .fieldLink RX5 60 "FacadeShowModel" "bears" "[I", .fieldLink RX5 63 "FacadeShowModel" "version" "[I", .fieldLink RX5 66 "FacadeShowModel" "proposed" "[I"] ++ wsX50)
def wsX5_thrown : List Cond := .code yX5_thrown cX5_thrown 1 (some .int) :: ([.fieldLink RX5 69 "FacadeShowModel" "thrown" "I"] ++ wsX50)
def wsX5_goesWell : List Cond := .code yX5_goesWell cX5_goesWell 2 (some .boolean) :: ([.fieldLink RX5 69 "FacadeShowModel" "thrown" "I"] ++ wsX50)
def wsX5_in : List Cond := .code yX5_in cX5_in 3 (some .boolean) :: ([])
def wsX5_isColumn : List Cond := .code yX5_isColumn cX5_isColumn 1 (some .boolean) :: ([.methodLink RX5 72 yX5_in, .static yX5_in, .initialized RX5, .code yX5_in cX5_in 3 (some .boolean)])
def wsX5_isCell : List Cond := .code yX5_isCell cX5_isCell 2 (some .boolean) :: ([.methodLink RX5 76 yX5_isColumn, .static yX5_isColumn, .initialized RX5, .code yX5_isColumn cX5_isColumn 1 (some .boolean), .methodLink RX5 72 yX5_in, .static yX5_in, .code yX5_in cX5_in 3 (some .boolean)])
def wsX5_isProjector : List Cond := .code yX5_isProjector cX5_isProjector 2 (some .boolean) :: ([.fieldLink RX5 80 "FacadeShowModel" "projectors" "I", .methodLink RX5 72 yX5_in, .static yX5_in, .initialized RX5, .code yX5_in cX5_in 3 (some .boolean)] ++ wsX50)
def wsX5_at : List Cond := .code yX5_at cX5_at 2 (some .int) :: ([])
def wsX5_column : List Cond := .code yX5_column cX5_column 5 none :: ([.fieldLink RX5 7 "FacadeShowModel" "relief" "[I", .fieldLink RX5 13 "FacadeShowModel" "surface" "[I", .methodLink RX5 76 yX5_isColumn, .static yX5_isColumn, .initialized RX5, .code yX5_isColumn cX5_isColumn 1 (some .boolean), .methodLink RX5 72 yX5_in, .static yX5_in, .code yX5_in cX5_in 3 (some .boolean), .methodLink RX5 83 yX5_goesWell, .instanceMethod yX5_goesWell, .selects RX5 yX5_goesWell yX5_goesWell, .code yX5_goesWell cX5_goesWell 2 (some .boolean), .fieldLink RX5 69 "FacadeShowModel" "thrown" "I"] ++ wsX50)
def wsX5_cell : List Cond := .code yX5_cell cX5_cell 6 (some .int) :: ([.fieldLink RX5 22 "FacadeShowModel" "hasMast" "[Z", .fieldLink RX5 19 "FacadeShowModel" "cells" "[I", .methodLink RX5 86 yX5_isCell, .static yX5_isCell, .initialized RX5, .code yX5_isCell cX5_isCell 2 (some .boolean), .methodLink RX5 76 yX5_isColumn, .static yX5_isColumn, .code yX5_isColumn cX5_isColumn 1 (some .boolean), .methodLink RX5 72 yX5_in, .static yX5_in, .code yX5_in cX5_in 3 (some .boolean), .methodLink RX5 90 yX5_at, .static yX5_at, .code yX5_at cX5_at 2 (some .int), .methodLink RX5 83 yX5_goesWell, .instanceMethod yX5_goesWell, .selects RX5 yX5_goesWell yX5_goesWell, .code yX5_goesWell cX5_goesWell 2 (some .boolean), .fieldLink RX5 69 "FacadeShowModel" "thrown" "I"] ++ wsX50)
def wsX5_need : List Cond := .code yX5_need cX5_need 3 none :: ([.constant RX5 94 (65535), .fieldLink RX5 95 "FacadeShowModel" "needed" "I", .fieldLink RX5 26 "FacadeShowModel" "level" "I", .methodLink RX5 72 yX5_in, .static yX5_in, .initialized RX5, .code yX5_in cX5_in 3 (some .boolean), .methodLink RX5 83 yX5_goesWell, .instanceMethod yX5_goesWell, .selects RX5 yX5_goesWell yX5_goesWell, .code yX5_goesWell cX5_goesWell 2 (some .boolean), .fieldLink RX5 69 "FacadeShowModel" "thrown" "I"] ++ wsX50)
def wsX5_projector_r1 : List Cond := [Cond.fieldLink RX5 19 "FacadeShowModel" "cells" "[I", Cond.fieldLink RX5 22 "FacadeShowModel" "hasMast" "[Z", Cond.fieldLink RX5 80 "FacadeShowModel" "projectors" "I", Cond.fieldLink RX5 30 "FacadeShowModel" "column" "[I", Cond.fieldLink RX5 33 "FacadeShowModel" "row" "[I", Cond.fieldLink RX5 36 "FacadeShowModel" "power" "[I", Cond.fieldLink RX5 39 "FacadeShowModel" "phase" "[I", Cond.fieldLink RX5 42 "FacadeShowModel" "focus" "[I", Cond.methodLink RX5 86 yX5_isCell, Cond.static yX5_isCell, Cond.initialized RX5, Cond.code yX5_isCell cX5_isCell 2 (some .boolean), Cond.methodLink RX5 76 yX5_isColumn, Cond.static yX5_isColumn, Cond.code yX5_isColumn cX5_isColumn 1 (some .boolean), Cond.methodLink RX5 72 yX5_in, Cond.static yX5_in, Cond.code yX5_in cX5_in 3 (some .boolean), Cond.methodLink RX5 90 yX5_at, Cond.static yX5_at, Cond.code yX5_at cX5_at 2 (some .int), Cond.methodLink RX5 83 yX5_goesWell, Cond.instanceMethod yX5_goesWell, Cond.selects RX5 yX5_goesWell yX5_goesWell]
def wsX5_projector_r2 : List Cond := [Cond.code yX5_goesWell cX5_goesWell 2 (some .boolean), Cond.fieldLink RX5 69 "FacadeShowModel" "thrown" "I"]
def wsX5_projector : List Cond := .code yX5_projector cX5_projector 9 (some .int) :: ((wsX5_projector_r1 ++ wsX5_projector_r2) ++ wsX50)
def wsX5_aim : List Cond := .code yX5_aim cX5_aim 5 none :: ([.fieldLink RX5 45 "FacadeShowModel" "first" "[I", .fieldLink RX5 48 "FacadeShowModel" "last" "[I", .methodLink RX5 98 yX5_isProjector, .instanceMethod yX5_isProjector, .selects RX5 yX5_isProjector yX5_isProjector, .initialized RX5, .code yX5_isProjector cX5_isProjector 2 (some .boolean), .fieldLink RX5 80 "FacadeShowModel" "projectors" "I", .methodLink RX5 72 yX5_in, .static yX5_in, .code yX5_in cX5_in 3 (some .boolean), .methodLink RX5 76 yX5_isColumn, .static yX5_isColumn, .code yX5_isColumn cX5_isColumn 1 (some .boolean), .methodLink RX5 83 yX5_goesWell, .instanceMethod yX5_goesWell, .selects RX5 yX5_goesWell yX5_goesWell, .code yX5_goesWell cX5_goesWell 2 (some .boolean), .fieldLink RX5 69 "FacadeShowModel" "thrown" "I"] ++ wsX50)
def wsX5_borne : List Cond := .code yX5_borne cX5_borne 4 (some .int) :: ([.fieldLink RX5 80 "FacadeShowModel" "projectors" "I", .fieldLink RX5 51 "FacadeShowModel" "isOn" "[Z", .fieldLink RX5 39 "FacadeShowModel" "phase" "[I", .fieldLink RX5 36 "FacadeShowModel" "power" "[I"] ++ wsX50)
def wsX5_turn : List Cond := .code yX5_turn cX5_turn 6 (some .boolean) :: ([.fieldLink RX5 51 "FacadeShowModel" "isOn" "[Z", .fieldLink RX5 39 "FacadeShowModel" "phase" "[I", .fieldLink RX5 36 "FacadeShowModel" "power" "[I", .fieldLink RX5 60 "FacadeShowModel" "bears" "[I", .methodLink RX5 98 yX5_isProjector, .instanceMethod yX5_isProjector, .selects RX5 yX5_isProjector yX5_isProjector, .initialized RX5, .code yX5_isProjector cX5_isProjector 2 (some .boolean), .fieldLink RX5 80 "FacadeShowModel" "projectors" "I", .methodLink RX5 72 yX5_in, .static yX5_in, .code yX5_in cX5_in 3 (some .boolean), .methodLink RX5 101 yX5_borne, .instanceMethod yX5_borne, .selects RX5 yX5_borne yX5_borne, .code yX5_borne cX5_borne 4 (some .int), .methodLink RX5 83 yX5_goesWell, .instanceMethod yX5_goesWell, .selects RX5 yX5_goesWell yX5_goesWell, .code yX5_goesWell cX5_goesWell 2 (some .boolean), .fieldLink RX5 69 "FacadeShowModel" "thrown" "I"] ++ wsX50)
def wsX5_fail : List Cond := .code yX5_fail cX5_fail 4 (some .boolean) :: ([.fieldLink RX5 54 "FacadeShowModel" "hasFailed" "[Z", .methodLink RX5 98 yX5_isProjector, .instanceMethod yX5_isProjector, .selects RX5 yX5_isProjector yX5_isProjector, .initialized RX5, .code yX5_isProjector cX5_isProjector 2 (some .boolean), .fieldLink RX5 80 "FacadeShowModel" "projectors" "I", .methodLink RX5 72 yX5_in, .static yX5_in, .code yX5_in cX5_in 3 (some .boolean), .methodLink RX5 83 yX5_goesWell, .instanceMethod yX5_goesWell, .selects RX5 yX5_goesWell yX5_goesWell, .code yX5_goesWell cX5_goesWell 2 (some .boolean), .fieldLink RX5 69 "FacadeShowModel" "thrown" "I"] ++ wsX50)
def wsX5_phase : List Cond := .code yX5_phase cX5_phase 4 (some .int) :: ([.constant RX5 105 (99999), .fieldLink RX5 60 "FacadeShowModel" "bears" "[I", .methodLink RX5 72 yX5_in, .static yX5_in, .initialized RX5, .code yX5_in cX5_in 3 (some .boolean), .methodLink RX5 83 yX5_goesWell, .instanceMethod yX5_goesWell, .selects RX5 yX5_goesWell yX5_goesWell, .code yX5_goesWell cX5_goesWell 2 (some .boolean), .fieldLink RX5 69 "FacadeShowModel" "thrown" "I"] ++ wsX50)
def wsX5_wind : List Cond := .code yX5_wind cX5_wind 3 (some .int) :: ([.fieldLink RX5 106 "FacadeShowModel" "wind" "I", .methodLink RX5 72 yX5_in, .static yX5_in, .initialized RX5, .code yX5_in cX5_in 3 (some .boolean), .methodLink RX5 83 yX5_goesWell, .instanceMethod yX5_goesWell, .selects RX5 yX5_goesWell yX5_goesWell, .code yX5_goesWell cX5_goesWell 2 (some .boolean), .fieldLink RX5 69 "FacadeShowModel" "thrown" "I"] ++ wsX50)
def wsX5_cross : List Cond := .code yX5_cross cX5_cross 6 (some .int) :: ([.fieldLink RX5 33 "FacadeShowModel" "row" "[I", .fieldLink RX5 7 "FacadeShowModel" "relief" "[I", .fieldLink RX5 30 "FacadeShowModel" "column" "[I"] ++ wsX50)
def wsX5_through : List Cond := .code yX5_through cX5_through 4 (some .int) :: ([.fieldLink RX5 7 "FacadeShowModel" "relief" "[I", .fieldLink RX5 33 "FacadeShowModel" "row" "[I", .methodLink RX5 98 yX5_isProjector, .instanceMethod yX5_isProjector, .selects RX5 yX5_isProjector yX5_isProjector, .initialized RX5, .code yX5_isProjector cX5_isProjector 2 (some .boolean), .fieldLink RX5 80 "FacadeShowModel" "projectors" "I", .methodLink RX5 72 yX5_in, .static yX5_in, .code yX5_in cX5_in 3 (some .boolean), .methodLink RX5 76 yX5_isColumn, .static yX5_isColumn, .code yX5_isColumn cX5_isColumn 1 (some .boolean), .methodLink RX5 83 yX5_goesWell, .instanceMethod yX5_goesWell, .selects RX5 yX5_goesWell yX5_goesWell, .code yX5_goesWell cX5_goesWell 2 (some .boolean), .fieldLink RX5 69 "FacadeShowModel" "thrown" "I", .methodLink RX5 109 yX5_cross, .instanceMethod yX5_cross, .selects RX5 yX5_cross yX5_cross, .code yX5_cross cX5_cross 6 (some .int), .fieldLink RX5 30 "FacadeShowModel" "column" "[I"] ++ wsX50)
def wsX5_isBlocked : List Cond := .code yX5_isBlocked cX5_isBlocked 6 (some .boolean) :: ([.fieldLink RX5 7 "FacadeShowModel" "relief" "[I", .fieldLink RX5 33 "FacadeShowModel" "row" "[I", .fieldLink RX5 19 "FacadeShowModel" "cells" "[I", .fieldLink RX5 22 "FacadeShowModel" "hasMast" "[Z", .methodLink RX5 109 yX5_cross, .instanceMethod yX5_cross, .selects RX5 yX5_cross yX5_cross, .initialized RX5, .code yX5_cross cX5_cross 6 (some .int), .fieldLink RX5 30 "FacadeShowModel" "column" "[I", .methodLink RX5 90 yX5_at, .static yX5_at, .code yX5_at cX5_at 2 (some .int)] ++ wsX50)
def wsX5_covers : List Cond := .code yX5_covers cX5_covers 4 (some .boolean) :: ([.fieldLink RX5 106 "FacadeShowModel" "wind" "I", .fieldLink RX5 48 "FacadeShowModel" "last" "[I", .fieldLink RX5 45 "FacadeShowModel" "first" "[I", .methodLink RX5 72 yX5_in, .static yX5_in, .initialized RX5, .code yX5_in cX5_in 3 (some .boolean)] ++ wsX50)
def wsX5_lightOf_r1 : List Cond := [Cond.fieldLink RX5 30 "FacadeShowModel" "column" "[I", Cond.fieldLink RX5 33 "FacadeShowModel" "row" "[I", Cond.fieldLink RX5 7 "FacadeShowModel" "relief" "[I", Cond.fieldLink RX5 36 "FacadeShowModel" "power" "[I", Cond.fieldLink RX5 16 "FacadeShowModel" "back" "[I", Cond.fieldLink RX5 13 "FacadeShowModel" "surface" "[I", Cond.methodLink RX5 113 yX5_covers, Cond.instanceMethod yX5_covers, Cond.selects RX5 yX5_covers yX5_covers, Cond.initialized RX5, Cond.code yX5_covers cX5_covers 4 (some .boolean), Cond.fieldLink RX5 106 "FacadeShowModel" "wind" "I", Cond.fieldLink RX5 48 "FacadeShowModel" "last" "[I", Cond.fieldLink RX5 45 "FacadeShowModel" "first" "[I", Cond.methodLink RX5 72 yX5_in, Cond.static yX5_in, Cond.code yX5_in cX5_in 3 (some .boolean), Cond.methodLink RX5 116 yX5_isBlocked, Cond.instanceMethod yX5_isBlocked, Cond.selects RX5 yX5_isBlocked yX5_isBlocked, Cond.code yX5_isBlocked cX5_isBlocked 6 (some .boolean), Cond.fieldLink RX5 19 "FacadeShowModel" "cells" "[I", Cond.fieldLink RX5 22 "FacadeShowModel" "hasMast" "[Z", Cond.methodLink RX5 109 yX5_cross]
def wsX5_lightOf_r2 : List Cond := [Cond.instanceMethod yX5_cross, Cond.selects RX5 yX5_cross yX5_cross, Cond.code yX5_cross cX5_cross 6 (some .int), Cond.methodLink RX5 90 yX5_at, Cond.static yX5_at, Cond.code yX5_at cX5_at 2 (some .int)]
def wsX5_lightOf : List Cond := .code yX5_lightOf cX5_lightOf 6 (some .int) :: ((wsX5_lightOf_r1 ++ wsX5_lightOf_r2) ++ wsX50)
def wsX5_gives_r1 : List Cond := [Cond.methodLink RX5 98 yX5_isProjector, Cond.instanceMethod yX5_isProjector, Cond.selects RX5 yX5_isProjector yX5_isProjector, Cond.initialized RX5, Cond.code yX5_isProjector cX5_isProjector 2 (some .boolean), Cond.fieldLink RX5 80 "FacadeShowModel" "projectors" "I", Cond.methodLink RX5 72 yX5_in, Cond.static yX5_in, Cond.code yX5_in cX5_in 3 (some .boolean), Cond.methodLink RX5 76 yX5_isColumn, Cond.static yX5_isColumn, Cond.code yX5_isColumn cX5_isColumn 1 (some .boolean), Cond.methodLink RX5 83 yX5_goesWell, Cond.instanceMethod yX5_goesWell, Cond.selects RX5 yX5_goesWell yX5_goesWell, Cond.code yX5_goesWell cX5_goesWell 2 (some .boolean), Cond.fieldLink RX5 69 "FacadeShowModel" "thrown" "I", Cond.methodLink RX5 119 yX5_lightOf, Cond.instanceMethod yX5_lightOf, Cond.selects RX5 yX5_lightOf yX5_lightOf, Cond.code yX5_lightOf cX5_lightOf 6 (some .int), Cond.fieldLink RX5 30 "FacadeShowModel" "column" "[I", Cond.fieldLink RX5 33 "FacadeShowModel" "row" "[I", Cond.fieldLink RX5 7 "FacadeShowModel" "relief" "[I"]
def wsX5_gives_r2 : List Cond := [Cond.fieldLink RX5 36 "FacadeShowModel" "power" "[I", Cond.fieldLink RX5 16 "FacadeShowModel" "back" "[I", Cond.fieldLink RX5 13 "FacadeShowModel" "surface" "[I", Cond.methodLink RX5 113 yX5_covers, Cond.instanceMethod yX5_covers, Cond.selects RX5 yX5_covers yX5_covers, Cond.code yX5_covers cX5_covers 4 (some .boolean), Cond.fieldLink RX5 106 "FacadeShowModel" "wind" "I", Cond.fieldLink RX5 48 "FacadeShowModel" "last" "[I", Cond.fieldLink RX5 45 "FacadeShowModel" "first" "[I", Cond.methodLink RX5 116 yX5_isBlocked, Cond.instanceMethod yX5_isBlocked, Cond.selects RX5 yX5_isBlocked yX5_isBlocked, Cond.code yX5_isBlocked cX5_isBlocked 6 (some .boolean), Cond.fieldLink RX5 19 "FacadeShowModel" "cells" "[I", Cond.fieldLink RX5 22 "FacadeShowModel" "hasMast" "[Z", Cond.methodLink RX5 109 yX5_cross, Cond.instanceMethod yX5_cross, Cond.selects RX5 yX5_cross yX5_cross, Cond.code yX5_cross cX5_cross 6 (some .int), Cond.methodLink RX5 90 yX5_at, Cond.static yX5_at, Cond.code yX5_at cX5_at 2 (some .int)]
def wsX5_gives : List Cond := .code yX5_gives cX5_gives 3 (some .int) :: ((wsX5_gives_r1 ++ wsX5_gives_r2) ++ wsX50)
def wsX5_isSharpAt : List Cond := .code yX5_isSharpAt cX5_isSharpAt 3 (some .boolean) :: ([.fieldLink RX5 33 "FacadeShowModel" "row" "[I", .fieldLink RX5 7 "FacadeShowModel" "relief" "[I", .fieldLink RX5 42 "FacadeShowModel" "focus" "[I", .methodLink RX5 72 yX5_in, .static yX5_in, .initialized RX5, .code yX5_in cX5_in 3 (some .boolean)] ++ wsX50)
def wsX5_isSharp : List Cond := .code yX5_isSharp cX5_isSharp 3 (some .boolean) :: ([.methodLink RX5 98 yX5_isProjector, .instanceMethod yX5_isProjector, .selects RX5 yX5_isProjector yX5_isProjector, .initialized RX5, .code yX5_isProjector cX5_isProjector 2 (some .boolean), .fieldLink RX5 80 "FacadeShowModel" "projectors" "I", .methodLink RX5 72 yX5_in, .static yX5_in, .code yX5_in cX5_in 3 (some .boolean), .methodLink RX5 76 yX5_isColumn, .static yX5_isColumn, .code yX5_isColumn cX5_isColumn 1 (some .boolean), .methodLink RX5 83 yX5_goesWell, .instanceMethod yX5_goesWell, .selects RX5 yX5_goesWell yX5_goesWell, .code yX5_goesWell cX5_goesWell 2 (some .boolean), .fieldLink RX5 69 "FacadeShowModel" "thrown" "I", .methodLink RX5 122 yX5_isSharpAt, .instanceMethod yX5_isSharpAt, .selects RX5 yX5_isSharpAt yX5_isSharpAt, .code yX5_isSharpAt cX5_isSharpAt 3 (some .boolean), .fieldLink RX5 33 "FacadeShowModel" "row" "[I", .fieldLink RX5 7 "FacadeShowModel" "relief" "[I", .fieldLink RX5 42 "FacadeShowModel" "focus" "[I"] ++ wsX50)
def wsX5_shines : List Cond := .code yX5_shines cX5_shines 2 (some .boolean) :: ([.fieldLink RX5 51 "FacadeShowModel" "isOn" "[Z", .fieldLink RX5 54 "FacadeShowModel" "hasFailed" "[Z"] ++ wsX50)
def wsX5_lightAt_r1 : List Cond := [Cond.fieldLink RX5 80 "FacadeShowModel" "projectors" "I", Cond.methodLink RX5 125 yX5_shines, Cond.instanceMethod yX5_shines, Cond.selects RX5 yX5_shines yX5_shines, Cond.initialized RX5, Cond.code yX5_shines cX5_shines 2 (some .boolean), Cond.fieldLink RX5 51 "FacadeShowModel" "isOn" "[Z", Cond.fieldLink RX5 54 "FacadeShowModel" "hasFailed" "[Z", Cond.methodLink RX5 119 yX5_lightOf, Cond.instanceMethod yX5_lightOf, Cond.selects RX5 yX5_lightOf yX5_lightOf, Cond.code yX5_lightOf cX5_lightOf 6 (some .int), Cond.fieldLink RX5 30 "FacadeShowModel" "column" "[I", Cond.fieldLink RX5 33 "FacadeShowModel" "row" "[I", Cond.fieldLink RX5 7 "FacadeShowModel" "relief" "[I", Cond.fieldLink RX5 36 "FacadeShowModel" "power" "[I", Cond.fieldLink RX5 16 "FacadeShowModel" "back" "[I", Cond.fieldLink RX5 13 "FacadeShowModel" "surface" "[I", Cond.methodLink RX5 113 yX5_covers, Cond.instanceMethod yX5_covers, Cond.selects RX5 yX5_covers yX5_covers, Cond.code yX5_covers cX5_covers 4 (some .boolean), Cond.fieldLink RX5 106 "FacadeShowModel" "wind" "I", Cond.fieldLink RX5 48 "FacadeShowModel" "last" "[I"]
def wsX5_lightAt_r2 : List Cond := [Cond.fieldLink RX5 45 "FacadeShowModel" "first" "[I", Cond.methodLink RX5 72 yX5_in, Cond.static yX5_in, Cond.code yX5_in cX5_in 3 (some .boolean), Cond.methodLink RX5 116 yX5_isBlocked, Cond.instanceMethod yX5_isBlocked, Cond.selects RX5 yX5_isBlocked yX5_isBlocked, Cond.code yX5_isBlocked cX5_isBlocked 6 (some .boolean), Cond.fieldLink RX5 19 "FacadeShowModel" "cells" "[I", Cond.fieldLink RX5 22 "FacadeShowModel" "hasMast" "[Z", Cond.methodLink RX5 109 yX5_cross, Cond.instanceMethod yX5_cross, Cond.selects RX5 yX5_cross yX5_cross, Cond.code yX5_cross cX5_cross 6 (some .int), Cond.methodLink RX5 90 yX5_at, Cond.static yX5_at, Cond.code yX5_at cX5_at 2 (some .int)]
def wsX5_lightAt : List Cond := .code yX5_lightAt cX5_lightAt 4 (some .int) :: ((wsX5_lightAt_r1 ++ wsX5_lightAt_r2) ++ wsX50)
def wsX5_light_r1 : List Cond := [Cond.methodLink RX5 76 yX5_isColumn, Cond.static yX5_isColumn, Cond.initialized RX5, Cond.code yX5_isColumn cX5_isColumn 1 (some .boolean), Cond.methodLink RX5 72 yX5_in, Cond.static yX5_in, Cond.code yX5_in cX5_in 3 (some .boolean), Cond.methodLink RX5 83 yX5_goesWell, Cond.instanceMethod yX5_goesWell, Cond.selects RX5 yX5_goesWell yX5_goesWell, Cond.code yX5_goesWell cX5_goesWell 2 (some .boolean), Cond.fieldLink RX5 69 "FacadeShowModel" "thrown" "I", Cond.methodLink RX5 128 yX5_lightAt, Cond.instanceMethod yX5_lightAt, Cond.selects RX5 yX5_lightAt yX5_lightAt, Cond.code yX5_lightAt cX5_lightAt 4 (some .int), Cond.fieldLink RX5 80 "FacadeShowModel" "projectors" "I", Cond.methodLink RX5 125 yX5_shines, Cond.instanceMethod yX5_shines, Cond.selects RX5 yX5_shines yX5_shines, Cond.code yX5_shines cX5_shines 2 (some .boolean), Cond.fieldLink RX5 51 "FacadeShowModel" "isOn" "[Z", Cond.fieldLink RX5 54 "FacadeShowModel" "hasFailed" "[Z", Cond.methodLink RX5 119 yX5_lightOf]
def wsX5_light_r2 : List Cond := [Cond.instanceMethod yX5_lightOf, Cond.selects RX5 yX5_lightOf yX5_lightOf, Cond.code yX5_lightOf cX5_lightOf 6 (some .int), Cond.fieldLink RX5 30 "FacadeShowModel" "column" "[I", Cond.fieldLink RX5 33 "FacadeShowModel" "row" "[I", Cond.fieldLink RX5 7 "FacadeShowModel" "relief" "[I", Cond.fieldLink RX5 36 "FacadeShowModel" "power" "[I", Cond.fieldLink RX5 16 "FacadeShowModel" "back" "[I", Cond.fieldLink RX5 13 "FacadeShowModel" "surface" "[I", Cond.methodLink RX5 113 yX5_covers, Cond.instanceMethod yX5_covers, Cond.selects RX5 yX5_covers yX5_covers, Cond.code yX5_covers cX5_covers 4 (some .boolean), Cond.fieldLink RX5 106 "FacadeShowModel" "wind" "I", Cond.fieldLink RX5 48 "FacadeShowModel" "last" "[I", Cond.fieldLink RX5 45 "FacadeShowModel" "first" "[I", Cond.methodLink RX5 116 yX5_isBlocked, Cond.instanceMethod yX5_isBlocked, Cond.selects RX5 yX5_isBlocked yX5_isBlocked, Cond.code yX5_isBlocked cX5_isBlocked 6 (some .boolean), Cond.fieldLink RX5 19 "FacadeShowModel" "cells" "[I", Cond.fieldLink RX5 22 "FacadeShowModel" "hasMast" "[Z", Cond.methodLink RX5 109 yX5_cross, Cond.instanceMethod yX5_cross]
def wsX5_light_r3 : List Cond := [Cond.selects RX5 yX5_cross yX5_cross, Cond.code yX5_cross cX5_cross 6 (some .int), Cond.methodLink RX5 90 yX5_at, Cond.static yX5_at, Cond.code yX5_at cX5_at 2 (some .int)]
def wsX5_light : List Cond := .code yX5_light cX5_light 2 (some .int) :: ((wsX5_light_r1 ++ (wsX5_light_r2 ++ wsX5_light_r3)) ++ wsX50)
def wsX5_blended_r1 : List Cond := [Cond.fieldLink RX5 26 "FacadeShowModel" "level" "I", Cond.methodLink RX5 98 yX5_isProjector, Cond.instanceMethod yX5_isProjector, Cond.selects RX5 yX5_isProjector yX5_isProjector, Cond.initialized RX5, Cond.code yX5_isProjector cX5_isProjector 2 (some .boolean), Cond.fieldLink RX5 80 "FacadeShowModel" "projectors" "I", Cond.methodLink RX5 72 yX5_in, Cond.static yX5_in, Cond.code yX5_in cX5_in 3 (some .boolean), Cond.methodLink RX5 76 yX5_isColumn, Cond.static yX5_isColumn, Cond.code yX5_isColumn cX5_isColumn 1 (some .boolean), Cond.methodLink RX5 83 yX5_goesWell, Cond.instanceMethod yX5_goesWell, Cond.selects RX5 yX5_goesWell yX5_goesWell, Cond.code yX5_goesWell cX5_goesWell 2 (some .boolean), Cond.fieldLink RX5 69 "FacadeShowModel" "thrown" "I", Cond.methodLink RX5 125 yX5_shines, Cond.instanceMethod yX5_shines, Cond.selects RX5 yX5_shines yX5_shines, Cond.code yX5_shines cX5_shines 2 (some .boolean), Cond.fieldLink RX5 51 "FacadeShowModel" "isOn" "[Z", Cond.fieldLink RX5 54 "FacadeShowModel" "hasFailed" "[Z"]
def wsX5_blended_r2 : List Cond := [Cond.methodLink RX5 119 yX5_lightOf, Cond.instanceMethod yX5_lightOf, Cond.selects RX5 yX5_lightOf yX5_lightOf, Cond.code yX5_lightOf cX5_lightOf 6 (some .int), Cond.fieldLink RX5 30 "FacadeShowModel" "column" "[I", Cond.fieldLink RX5 33 "FacadeShowModel" "row" "[I", Cond.fieldLink RX5 7 "FacadeShowModel" "relief" "[I", Cond.fieldLink RX5 36 "FacadeShowModel" "power" "[I", Cond.fieldLink RX5 16 "FacadeShowModel" "back" "[I", Cond.fieldLink RX5 13 "FacadeShowModel" "surface" "[I", Cond.methodLink RX5 113 yX5_covers, Cond.instanceMethod yX5_covers, Cond.selects RX5 yX5_covers yX5_covers, Cond.code yX5_covers cX5_covers 4 (some .boolean), Cond.fieldLink RX5 106 "FacadeShowModel" "wind" "I", Cond.fieldLink RX5 48 "FacadeShowModel" "last" "[I", Cond.fieldLink RX5 45 "FacadeShowModel" "first" "[I", Cond.methodLink RX5 116 yX5_isBlocked, Cond.instanceMethod yX5_isBlocked, Cond.selects RX5 yX5_isBlocked yX5_isBlocked, Cond.code yX5_isBlocked cX5_isBlocked 6 (some .boolean), Cond.fieldLink RX5 19 "FacadeShowModel" "cells" "[I", Cond.fieldLink RX5 22 "FacadeShowModel" "hasMast" "[Z", Cond.methodLink RX5 109 yX5_cross]
def wsX5_blended_r3 : List Cond := [Cond.instanceMethod yX5_cross, Cond.selects RX5 yX5_cross yX5_cross, Cond.code yX5_cross cX5_cross 6 (some .int), Cond.methodLink RX5 90 yX5_at, Cond.static yX5_at, Cond.code yX5_at cX5_at 2 (some .int), Cond.methodLink RX5 128 yX5_lightAt, Cond.instanceMethod yX5_lightAt, Cond.selects RX5 yX5_lightAt yX5_lightAt, Cond.code yX5_lightAt cX5_lightAt 4 (some .int)]
def wsX5_blended : List Cond := .code yX5_blended cX5_blended 5 (some .int) :: ((wsX5_blended_r1 ++ (wsX5_blended_r2 ++ wsX5_blended_r3)) ++ wsX50)
def wsX5_isWell_r1 : List Cond := [Cond.fieldLink RX5 80 "FacadeShowModel" "projectors" "I", Cond.fieldLink RX5 54 "FacadeShowModel" "hasFailed" "[Z", Cond.fieldLink RX5 26 "FacadeShowModel" "level" "I", Cond.methodLink RX5 119 yX5_lightOf, Cond.instanceMethod yX5_lightOf, Cond.selects RX5 yX5_lightOf yX5_lightOf, Cond.initialized RX5, Cond.code yX5_lightOf cX5_lightOf 6 (some .int), Cond.fieldLink RX5 30 "FacadeShowModel" "column" "[I", Cond.fieldLink RX5 33 "FacadeShowModel" "row" "[I", Cond.fieldLink RX5 7 "FacadeShowModel" "relief" "[I", Cond.fieldLink RX5 36 "FacadeShowModel" "power" "[I", Cond.fieldLink RX5 16 "FacadeShowModel" "back" "[I", Cond.fieldLink RX5 13 "FacadeShowModel" "surface" "[I", Cond.methodLink RX5 113 yX5_covers, Cond.instanceMethod yX5_covers, Cond.selects RX5 yX5_covers yX5_covers, Cond.code yX5_covers cX5_covers 4 (some .boolean), Cond.fieldLink RX5 106 "FacadeShowModel" "wind" "I", Cond.fieldLink RX5 48 "FacadeShowModel" "last" "[I", Cond.fieldLink RX5 45 "FacadeShowModel" "first" "[I", Cond.methodLink RX5 72 yX5_in, Cond.static yX5_in, Cond.code yX5_in cX5_in 3 (some .boolean)]
def wsX5_isWell_r2 : List Cond := [Cond.methodLink RX5 116 yX5_isBlocked, Cond.instanceMethod yX5_isBlocked, Cond.selects RX5 yX5_isBlocked yX5_isBlocked, Cond.code yX5_isBlocked cX5_isBlocked 6 (some .boolean), Cond.fieldLink RX5 19 "FacadeShowModel" "cells" "[I", Cond.fieldLink RX5 22 "FacadeShowModel" "hasMast" "[Z", Cond.methodLink RX5 109 yX5_cross, Cond.instanceMethod yX5_cross, Cond.selects RX5 yX5_cross yX5_cross, Cond.code yX5_cross cX5_cross 6 (some .int), Cond.methodLink RX5 90 yX5_at, Cond.static yX5_at, Cond.code yX5_at cX5_at 2 (some .int), Cond.methodLink RX5 122 yX5_isSharpAt, Cond.instanceMethod yX5_isSharpAt, Cond.selects RX5 yX5_isSharpAt yX5_isSharpAt, Cond.code yX5_isSharpAt cX5_isSharpAt 3 (some .boolean), Cond.fieldLink RX5 42 "FacadeShowModel" "focus" "[I"]
def wsX5_isWell : List Cond := .code yX5_isWell cX5_isWell 7 (some .boolean) :: ((wsX5_isWell_r1 ++ wsX5_isWell_r2) ++ wsX50)
def wsX5_coveredBy_r1 : List Cond := [Cond.methodLink RX5 131 yX5_isWell, Cond.instanceMethod yX5_isWell, Cond.selects RX5 yX5_isWell yX5_isWell, Cond.initialized RX5, Cond.code yX5_isWell cX5_isWell 7 (some .boolean), Cond.fieldLink RX5 80 "FacadeShowModel" "projectors" "I", Cond.fieldLink RX5 54 "FacadeShowModel" "hasFailed" "[Z", Cond.fieldLink RX5 26 "FacadeShowModel" "level" "I", Cond.methodLink RX5 119 yX5_lightOf, Cond.instanceMethod yX5_lightOf, Cond.selects RX5 yX5_lightOf yX5_lightOf, Cond.code yX5_lightOf cX5_lightOf 6 (some .int), Cond.fieldLink RX5 30 "FacadeShowModel" "column" "[I", Cond.fieldLink RX5 33 "FacadeShowModel" "row" "[I", Cond.fieldLink RX5 7 "FacadeShowModel" "relief" "[I", Cond.fieldLink RX5 36 "FacadeShowModel" "power" "[I", Cond.fieldLink RX5 16 "FacadeShowModel" "back" "[I", Cond.fieldLink RX5 13 "FacadeShowModel" "surface" "[I", Cond.methodLink RX5 113 yX5_covers, Cond.instanceMethod yX5_covers, Cond.selects RX5 yX5_covers yX5_covers, Cond.code yX5_covers cX5_covers 4 (some .boolean), Cond.fieldLink RX5 106 "FacadeShowModel" "wind" "I", Cond.fieldLink RX5 48 "FacadeShowModel" "last" "[I"]
def wsX5_coveredBy_r2 : List Cond := [Cond.fieldLink RX5 45 "FacadeShowModel" "first" "[I", Cond.methodLink RX5 72 yX5_in, Cond.static yX5_in, Cond.code yX5_in cX5_in 3 (some .boolean), Cond.methodLink RX5 116 yX5_isBlocked, Cond.instanceMethod yX5_isBlocked, Cond.selects RX5 yX5_isBlocked yX5_isBlocked, Cond.code yX5_isBlocked cX5_isBlocked 6 (some .boolean), Cond.fieldLink RX5 19 "FacadeShowModel" "cells" "[I", Cond.fieldLink RX5 22 "FacadeShowModel" "hasMast" "[Z", Cond.methodLink RX5 109 yX5_cross, Cond.instanceMethod yX5_cross, Cond.selects RX5 yX5_cross yX5_cross, Cond.code yX5_cross cX5_cross 6 (some .int), Cond.methodLink RX5 90 yX5_at, Cond.static yX5_at, Cond.code yX5_at cX5_at 2 (some .int), Cond.methodLink RX5 122 yX5_isSharpAt, Cond.instanceMethod yX5_isSharpAt, Cond.selects RX5 yX5_isSharpAt yX5_isSharpAt, Cond.code yX5_isSharpAt cX5_isSharpAt 3 (some .boolean), Cond.fieldLink RX5 42 "FacadeShowModel" "focus" "[I"]
def wsX5_coveredBy : List Cond := .code yX5_coveredBy cX5_coveredBy 4 (some .int) :: ((wsX5_coveredBy_r1 ++ wsX5_coveredBy_r2) ++ wsX50)
def wsX5_isSet : List Cond := .code yX5_isSet cX5_isSet 2 (some .boolean) :: ([.fieldLink RX5 80 "FacadeShowModel" "projectors" "I", .methodLink RX5 72 yX5_in, .static yX5_in, .initialized RX5, .code yX5_in cX5_in 3 (some .boolean)] ++ wsX50)
def wsX5_covered_r1 : List Cond := [Cond.methodLink RX5 134 yX5_isSet, Cond.instanceMethod yX5_isSet, Cond.selects RX5 yX5_isSet yX5_isSet, Cond.initialized RX5, Cond.code yX5_isSet cX5_isSet 2 (some .boolean), Cond.fieldLink RX5 80 "FacadeShowModel" "projectors" "I", Cond.methodLink RX5 72 yX5_in, Cond.static yX5_in, Cond.code yX5_in cX5_in 3 (some .boolean), Cond.methodLink RX5 83 yX5_goesWell, Cond.instanceMethod yX5_goesWell, Cond.selects RX5 yX5_goesWell yX5_goesWell, Cond.code yX5_goesWell cX5_goesWell 2 (some .boolean), Cond.fieldLink RX5 69 "FacadeShowModel" "thrown" "I", Cond.methodLink RX5 137 yX5_coveredBy, Cond.instanceMethod yX5_coveredBy, Cond.selects RX5 yX5_coveredBy yX5_coveredBy, Cond.code yX5_coveredBy cX5_coveredBy 4 (some .int), Cond.methodLink RX5 131 yX5_isWell, Cond.instanceMethod yX5_isWell, Cond.selects RX5 yX5_isWell yX5_isWell, Cond.code yX5_isWell cX5_isWell 7 (some .boolean), Cond.fieldLink RX5 54 "FacadeShowModel" "hasFailed" "[Z", Cond.fieldLink RX5 26 "FacadeShowModel" "level" "I"]
def wsX5_covered_r2 : List Cond := [Cond.methodLink RX5 119 yX5_lightOf, Cond.instanceMethod yX5_lightOf, Cond.selects RX5 yX5_lightOf yX5_lightOf, Cond.code yX5_lightOf cX5_lightOf 6 (some .int), Cond.fieldLink RX5 30 "FacadeShowModel" "column" "[I", Cond.fieldLink RX5 33 "FacadeShowModel" "row" "[I", Cond.fieldLink RX5 7 "FacadeShowModel" "relief" "[I", Cond.fieldLink RX5 36 "FacadeShowModel" "power" "[I", Cond.fieldLink RX5 16 "FacadeShowModel" "back" "[I", Cond.fieldLink RX5 13 "FacadeShowModel" "surface" "[I", Cond.methodLink RX5 113 yX5_covers, Cond.instanceMethod yX5_covers, Cond.selects RX5 yX5_covers yX5_covers, Cond.code yX5_covers cX5_covers 4 (some .boolean), Cond.fieldLink RX5 106 "FacadeShowModel" "wind" "I", Cond.fieldLink RX5 48 "FacadeShowModel" "last" "[I", Cond.fieldLink RX5 45 "FacadeShowModel" "first" "[I", Cond.methodLink RX5 116 yX5_isBlocked, Cond.instanceMethod yX5_isBlocked, Cond.selects RX5 yX5_isBlocked yX5_isBlocked, Cond.code yX5_isBlocked cX5_isBlocked 6 (some .boolean), Cond.fieldLink RX5 19 "FacadeShowModel" "cells" "[I", Cond.fieldLink RX5 22 "FacadeShowModel" "hasMast" "[Z", Cond.methodLink RX5 109 yX5_cross]
def wsX5_covered_r3 : List Cond := [Cond.instanceMethod yX5_cross, Cond.selects RX5 yX5_cross yX5_cross, Cond.code yX5_cross cX5_cross 6 (some .int), Cond.methodLink RX5 90 yX5_at, Cond.static yX5_at, Cond.code yX5_at cX5_at 2 (some .int), Cond.methodLink RX5 122 yX5_isSharpAt, Cond.instanceMethod yX5_isSharpAt, Cond.selects RX5 yX5_isSharpAt yX5_isSharpAt, Cond.code yX5_isSharpAt cX5_isSharpAt 3 (some .boolean), Cond.fieldLink RX5 42 "FacadeShowModel" "focus" "[I"]
def wsX5_covered : List Cond := .code yX5_covered cX5_covered 2 (some .int) :: ((wsX5_covered_r1 ++ (wsX5_covered_r2 ++ wsX5_covered_r3)) ++ wsX50)
def wsX5_bits : List Cond := .code yX5_bits cX5_bits 3 (some .int) :: ([])
def wsX5_isEnough_r1 : List Cond := [Cond.fieldLink RX5 95 "FacadeShowModel" "needed" "I", Cond.methodLink RX5 137 yX5_coveredBy, Cond.instanceMethod yX5_coveredBy, Cond.selects RX5 yX5_coveredBy yX5_coveredBy, Cond.initialized RX5, Cond.code yX5_coveredBy cX5_coveredBy 4 (some .int), Cond.methodLink RX5 131 yX5_isWell, Cond.instanceMethod yX5_isWell, Cond.selects RX5 yX5_isWell yX5_isWell, Cond.code yX5_isWell cX5_isWell 7 (some .boolean), Cond.fieldLink RX5 80 "FacadeShowModel" "projectors" "I", Cond.fieldLink RX5 54 "FacadeShowModel" "hasFailed" "[Z", Cond.fieldLink RX5 26 "FacadeShowModel" "level" "I", Cond.methodLink RX5 119 yX5_lightOf, Cond.instanceMethod yX5_lightOf, Cond.selects RX5 yX5_lightOf yX5_lightOf, Cond.code yX5_lightOf cX5_lightOf 6 (some .int), Cond.fieldLink RX5 30 "FacadeShowModel" "column" "[I", Cond.fieldLink RX5 33 "FacadeShowModel" "row" "[I", Cond.fieldLink RX5 7 "FacadeShowModel" "relief" "[I", Cond.fieldLink RX5 36 "FacadeShowModel" "power" "[I", Cond.fieldLink RX5 16 "FacadeShowModel" "back" "[I", Cond.fieldLink RX5 13 "FacadeShowModel" "surface" "[I", Cond.methodLink RX5 113 yX5_covers]
def wsX5_isEnough_r2 : List Cond := [Cond.instanceMethod yX5_covers, Cond.selects RX5 yX5_covers yX5_covers, Cond.code yX5_covers cX5_covers 4 (some .boolean), Cond.fieldLink RX5 106 "FacadeShowModel" "wind" "I", Cond.fieldLink RX5 48 "FacadeShowModel" "last" "[I", Cond.fieldLink RX5 45 "FacadeShowModel" "first" "[I", Cond.methodLink RX5 72 yX5_in, Cond.static yX5_in, Cond.code yX5_in cX5_in 3 (some .boolean), Cond.methodLink RX5 116 yX5_isBlocked, Cond.instanceMethod yX5_isBlocked, Cond.selects RX5 yX5_isBlocked yX5_isBlocked, Cond.code yX5_isBlocked cX5_isBlocked 6 (some .boolean), Cond.fieldLink RX5 19 "FacadeShowModel" "cells" "[I", Cond.fieldLink RX5 22 "FacadeShowModel" "hasMast" "[Z", Cond.methodLink RX5 109 yX5_cross, Cond.instanceMethod yX5_cross, Cond.selects RX5 yX5_cross yX5_cross, Cond.code yX5_cross cX5_cross 6 (some .int), Cond.methodLink RX5 90 yX5_at, Cond.static yX5_at, Cond.code yX5_at cX5_at 2 (some .int), Cond.methodLink RX5 122 yX5_isSharpAt, Cond.instanceMethod yX5_isSharpAt]
def wsX5_isEnough_r3 : List Cond := [Cond.selects RX5 yX5_isSharpAt yX5_isSharpAt, Cond.code yX5_isSharpAt cX5_isSharpAt 3 (some .boolean), Cond.fieldLink RX5 42 "FacadeShowModel" "focus" "[I"]
def wsX5_isEnough : List Cond := .code yX5_isEnough cX5_isEnough 2 (some .boolean) :: ((wsX5_isEnough_r1 ++ (wsX5_isEnough_r2 ++ wsX5_isEnough_r3)) ++ wsX50)
def wsX5_leastSet_r1 : List Cond := [Cond.fieldLink RX5 80 "FacadeShowModel" "projectors" "I", Cond.fieldLink RX5 54 "FacadeShowModel" "hasFailed" "[Z", Cond.methodLink RX5 140 yX5_bits, Cond.static yX5_bits, Cond.initialized RX5, Cond.code yX5_bits cX5_bits 3 (some .int), Cond.methodLink RX5 143 yX5_isEnough, Cond.instanceMethod yX5_isEnough, Cond.selects RX5 yX5_isEnough yX5_isEnough, Cond.code yX5_isEnough cX5_isEnough 2 (some .boolean), Cond.fieldLink RX5 95 "FacadeShowModel" "needed" "I", Cond.methodLink RX5 137 yX5_coveredBy, Cond.instanceMethod yX5_coveredBy, Cond.selects RX5 yX5_coveredBy yX5_coveredBy, Cond.code yX5_coveredBy cX5_coveredBy 4 (some .int), Cond.methodLink RX5 131 yX5_isWell, Cond.instanceMethod yX5_isWell, Cond.selects RX5 yX5_isWell yX5_isWell, Cond.code yX5_isWell cX5_isWell 7 (some .boolean), Cond.fieldLink RX5 26 "FacadeShowModel" "level" "I", Cond.methodLink RX5 119 yX5_lightOf, Cond.instanceMethod yX5_lightOf, Cond.selects RX5 yX5_lightOf yX5_lightOf, Cond.code yX5_lightOf cX5_lightOf 6 (some .int)]
def wsX5_leastSet_r2 : List Cond := [Cond.fieldLink RX5 30 "FacadeShowModel" "column" "[I", Cond.fieldLink RX5 33 "FacadeShowModel" "row" "[I", Cond.fieldLink RX5 7 "FacadeShowModel" "relief" "[I", Cond.fieldLink RX5 36 "FacadeShowModel" "power" "[I", Cond.fieldLink RX5 16 "FacadeShowModel" "back" "[I", Cond.fieldLink RX5 13 "FacadeShowModel" "surface" "[I", Cond.methodLink RX5 113 yX5_covers, Cond.instanceMethod yX5_covers, Cond.selects RX5 yX5_covers yX5_covers, Cond.code yX5_covers cX5_covers 4 (some .boolean), Cond.fieldLink RX5 106 "FacadeShowModel" "wind" "I", Cond.fieldLink RX5 48 "FacadeShowModel" "last" "[I", Cond.fieldLink RX5 45 "FacadeShowModel" "first" "[I", Cond.methodLink RX5 72 yX5_in, Cond.static yX5_in, Cond.code yX5_in cX5_in 3 (some .boolean), Cond.methodLink RX5 116 yX5_isBlocked, Cond.instanceMethod yX5_isBlocked, Cond.selects RX5 yX5_isBlocked yX5_isBlocked, Cond.code yX5_isBlocked cX5_isBlocked 6 (some .boolean), Cond.fieldLink RX5 19 "FacadeShowModel" "cells" "[I", Cond.fieldLink RX5 22 "FacadeShowModel" "hasMast" "[Z", Cond.methodLink RX5 109 yX5_cross, Cond.instanceMethod yX5_cross]
def wsX5_leastSet_r3 : List Cond := [Cond.selects RX5 yX5_cross yX5_cross, Cond.code yX5_cross cX5_cross 6 (some .int), Cond.methodLink RX5 90 yX5_at, Cond.static yX5_at, Cond.code yX5_at cX5_at 2 (some .int), Cond.methodLink RX5 122 yX5_isSharpAt, Cond.instanceMethod yX5_isSharpAt, Cond.selects RX5 yX5_isSharpAt yX5_isSharpAt, Cond.code yX5_isSharpAt cX5_isSharpAt 3 (some .boolean), Cond.fieldLink RX5 42 "FacadeShowModel" "focus" "[I"]
def wsX5_leastSet : List Cond := .code yX5_leastSet cX5_leastSet 5 (some .int) :: ((wsX5_leastSet_r1 ++ (wsX5_leastSet_r2 ++ wsX5_leastSet_r3)) ++ wsX50)
def wsX5_least_r1 : List Cond := [Cond.fieldLink RX5 69 "FacadeShowModel" "thrown" "I", Cond.methodLink RX5 146 yX5_leastSet, Cond.instanceMethod yX5_leastSet, Cond.selects RX5 yX5_leastSet yX5_leastSet, Cond.initialized RX5, Cond.code yX5_leastSet cX5_leastSet 5 (some .int), Cond.fieldLink RX5 80 "FacadeShowModel" "projectors" "I", Cond.fieldLink RX5 54 "FacadeShowModel" "hasFailed" "[Z", Cond.methodLink RX5 140 yX5_bits, Cond.static yX5_bits, Cond.code yX5_bits cX5_bits 3 (some .int), Cond.methodLink RX5 143 yX5_isEnough, Cond.instanceMethod yX5_isEnough, Cond.selects RX5 yX5_isEnough yX5_isEnough, Cond.code yX5_isEnough cX5_isEnough 2 (some .boolean), Cond.fieldLink RX5 95 "FacadeShowModel" "needed" "I", Cond.methodLink RX5 137 yX5_coveredBy, Cond.instanceMethod yX5_coveredBy, Cond.selects RX5 yX5_coveredBy yX5_coveredBy, Cond.code yX5_coveredBy cX5_coveredBy 4 (some .int), Cond.methodLink RX5 131 yX5_isWell, Cond.instanceMethod yX5_isWell, Cond.selects RX5 yX5_isWell yX5_isWell, Cond.code yX5_isWell cX5_isWell 7 (some .boolean)]
def wsX5_least_r2 : List Cond := [Cond.fieldLink RX5 26 "FacadeShowModel" "level" "I", Cond.methodLink RX5 119 yX5_lightOf, Cond.instanceMethod yX5_lightOf, Cond.selects RX5 yX5_lightOf yX5_lightOf, Cond.code yX5_lightOf cX5_lightOf 6 (some .int), Cond.fieldLink RX5 30 "FacadeShowModel" "column" "[I", Cond.fieldLink RX5 33 "FacadeShowModel" "row" "[I", Cond.fieldLink RX5 7 "FacadeShowModel" "relief" "[I", Cond.fieldLink RX5 36 "FacadeShowModel" "power" "[I", Cond.fieldLink RX5 16 "FacadeShowModel" "back" "[I", Cond.fieldLink RX5 13 "FacadeShowModel" "surface" "[I", Cond.methodLink RX5 113 yX5_covers, Cond.instanceMethod yX5_covers, Cond.selects RX5 yX5_covers yX5_covers, Cond.code yX5_covers cX5_covers 4 (some .boolean), Cond.fieldLink RX5 106 "FacadeShowModel" "wind" "I", Cond.fieldLink RX5 48 "FacadeShowModel" "last" "[I", Cond.fieldLink RX5 45 "FacadeShowModel" "first" "[I", Cond.methodLink RX5 72 yX5_in, Cond.static yX5_in, Cond.code yX5_in cX5_in 3 (some .boolean), Cond.methodLink RX5 116 yX5_isBlocked, Cond.instanceMethod yX5_isBlocked, Cond.selects RX5 yX5_isBlocked yX5_isBlocked]
def wsX5_least_r3 : List Cond := [Cond.code yX5_isBlocked cX5_isBlocked 6 (some .boolean), Cond.fieldLink RX5 19 "FacadeShowModel" "cells" "[I", Cond.fieldLink RX5 22 "FacadeShowModel" "hasMast" "[Z", Cond.methodLink RX5 109 yX5_cross, Cond.instanceMethod yX5_cross, Cond.selects RX5 yX5_cross yX5_cross, Cond.code yX5_cross cX5_cross 6 (some .int), Cond.methodLink RX5 90 yX5_at, Cond.static yX5_at, Cond.code yX5_at cX5_at 2 (some .int), Cond.methodLink RX5 122 yX5_isSharpAt, Cond.instanceMethod yX5_isSharpAt, Cond.selects RX5 yX5_isSharpAt yX5_isSharpAt, Cond.code yX5_isSharpAt cX5_isSharpAt 3 (some .boolean), Cond.fieldLink RX5 42 "FacadeShowModel" "focus" "[I"]
def wsX5_least : List Cond := .code yX5_least cX5_least 1 (some .int) :: ((wsX5_least_r1 ++ (wsX5_least_r2 ++ wsX5_least_r3)) ++ wsX50)
def wsX5_leastAnew_r1 : List Cond := [Cond.fieldLink RX5 69 "FacadeShowModel" "thrown" "I", Cond.methodLink RX5 146 yX5_leastSet, Cond.instanceMethod yX5_leastSet, Cond.selects RX5 yX5_leastSet yX5_leastSet, Cond.initialized RX5, Cond.code yX5_leastSet cX5_leastSet 5 (some .int), Cond.fieldLink RX5 80 "FacadeShowModel" "projectors" "I", Cond.fieldLink RX5 54 "FacadeShowModel" "hasFailed" "[Z", Cond.methodLink RX5 140 yX5_bits, Cond.static yX5_bits, Cond.code yX5_bits cX5_bits 3 (some .int), Cond.methodLink RX5 143 yX5_isEnough, Cond.instanceMethod yX5_isEnough, Cond.selects RX5 yX5_isEnough yX5_isEnough, Cond.code yX5_isEnough cX5_isEnough 2 (some .boolean), Cond.fieldLink RX5 95 "FacadeShowModel" "needed" "I", Cond.methodLink RX5 137 yX5_coveredBy, Cond.instanceMethod yX5_coveredBy, Cond.selects RX5 yX5_coveredBy yX5_coveredBy, Cond.code yX5_coveredBy cX5_coveredBy 4 (some .int), Cond.methodLink RX5 131 yX5_isWell, Cond.instanceMethod yX5_isWell, Cond.selects RX5 yX5_isWell yX5_isWell, Cond.code yX5_isWell cX5_isWell 7 (some .boolean)]
def wsX5_leastAnew_r2 : List Cond := [Cond.fieldLink RX5 26 "FacadeShowModel" "level" "I", Cond.methodLink RX5 119 yX5_lightOf, Cond.instanceMethod yX5_lightOf, Cond.selects RX5 yX5_lightOf yX5_lightOf, Cond.code yX5_lightOf cX5_lightOf 6 (some .int), Cond.fieldLink RX5 30 "FacadeShowModel" "column" "[I", Cond.fieldLink RX5 33 "FacadeShowModel" "row" "[I", Cond.fieldLink RX5 7 "FacadeShowModel" "relief" "[I", Cond.fieldLink RX5 36 "FacadeShowModel" "power" "[I", Cond.fieldLink RX5 16 "FacadeShowModel" "back" "[I", Cond.fieldLink RX5 13 "FacadeShowModel" "surface" "[I", Cond.methodLink RX5 113 yX5_covers, Cond.instanceMethod yX5_covers, Cond.selects RX5 yX5_covers yX5_covers, Cond.code yX5_covers cX5_covers 4 (some .boolean), Cond.fieldLink RX5 106 "FacadeShowModel" "wind" "I", Cond.fieldLink RX5 48 "FacadeShowModel" "last" "[I", Cond.fieldLink RX5 45 "FacadeShowModel" "first" "[I", Cond.methodLink RX5 72 yX5_in, Cond.static yX5_in, Cond.code yX5_in cX5_in 3 (some .boolean), Cond.methodLink RX5 116 yX5_isBlocked, Cond.instanceMethod yX5_isBlocked, Cond.selects RX5 yX5_isBlocked yX5_isBlocked]
def wsX5_leastAnew_r3 : List Cond := [Cond.code yX5_isBlocked cX5_isBlocked 6 (some .boolean), Cond.fieldLink RX5 19 "FacadeShowModel" "cells" "[I", Cond.fieldLink RX5 22 "FacadeShowModel" "hasMast" "[Z", Cond.methodLink RX5 109 yX5_cross, Cond.instanceMethod yX5_cross, Cond.selects RX5 yX5_cross yX5_cross, Cond.code yX5_cross cX5_cross 6 (some .int), Cond.methodLink RX5 90 yX5_at, Cond.static yX5_at, Cond.code yX5_at cX5_at 2 (some .int), Cond.methodLink RX5 122 yX5_isSharpAt, Cond.instanceMethod yX5_isSharpAt, Cond.selects RX5 yX5_isSharpAt yX5_isSharpAt, Cond.code yX5_isSharpAt cX5_isSharpAt 3 (some .boolean), Cond.fieldLink RX5 42 "FacadeShowModel" "focus" "[I"]
def wsX5_leastAnew : List Cond := .code yX5_leastAnew cX5_leastAnew 2 (some .int) :: ((wsX5_leastAnew_r1 ++ (wsX5_leastAnew_r2 ++ wsX5_leastAnew_r3)) ++ wsX50)
def wsX5_bears_r1 : List Cond := [Cond.fieldLink RX5 80 "FacadeShowModel" "projectors" "I", Cond.methodLink RX5 134 yX5_isSet, Cond.instanceMethod yX5_isSet, Cond.selects RX5 yX5_isSet yX5_isSet, Cond.initialized RX5, Cond.code yX5_isSet cX5_isSet 2 (some .boolean), Cond.methodLink RX5 72 yX5_in, Cond.static yX5_in, Cond.code yX5_in cX5_in 3 (some .boolean), Cond.methodLink RX5 83 yX5_goesWell, Cond.instanceMethod yX5_goesWell, Cond.selects RX5 yX5_goesWell yX5_goesWell, Cond.code yX5_goesWell cX5_goesWell 2 (some .boolean), Cond.fieldLink RX5 69 "FacadeShowModel" "thrown" "I", Cond.methodLink RX5 143 yX5_isEnough, Cond.instanceMethod yX5_isEnough, Cond.selects RX5 yX5_isEnough yX5_isEnough, Cond.code yX5_isEnough cX5_isEnough 2 (some .boolean), Cond.fieldLink RX5 95 "FacadeShowModel" "needed" "I", Cond.methodLink RX5 137 yX5_coveredBy, Cond.instanceMethod yX5_coveredBy, Cond.selects RX5 yX5_coveredBy yX5_coveredBy, Cond.code yX5_coveredBy cX5_coveredBy 4 (some .int), Cond.methodLink RX5 131 yX5_isWell]
def wsX5_bears_r2 : List Cond := [Cond.instanceMethod yX5_isWell, Cond.selects RX5 yX5_isWell yX5_isWell, Cond.code yX5_isWell cX5_isWell 7 (some .boolean), Cond.fieldLink RX5 54 "FacadeShowModel" "hasFailed" "[Z", Cond.fieldLink RX5 26 "FacadeShowModel" "level" "I", Cond.methodLink RX5 119 yX5_lightOf, Cond.instanceMethod yX5_lightOf, Cond.selects RX5 yX5_lightOf yX5_lightOf, Cond.code yX5_lightOf cX5_lightOf 6 (some .int), Cond.fieldLink RX5 30 "FacadeShowModel" "column" "[I", Cond.fieldLink RX5 33 "FacadeShowModel" "row" "[I", Cond.fieldLink RX5 7 "FacadeShowModel" "relief" "[I", Cond.fieldLink RX5 36 "FacadeShowModel" "power" "[I", Cond.fieldLink RX5 16 "FacadeShowModel" "back" "[I", Cond.fieldLink RX5 13 "FacadeShowModel" "surface" "[I", Cond.methodLink RX5 113 yX5_covers, Cond.instanceMethod yX5_covers, Cond.selects RX5 yX5_covers yX5_covers, Cond.code yX5_covers cX5_covers 4 (some .boolean), Cond.fieldLink RX5 106 "FacadeShowModel" "wind" "I", Cond.fieldLink RX5 48 "FacadeShowModel" "last" "[I", Cond.fieldLink RX5 45 "FacadeShowModel" "first" "[I", Cond.methodLink RX5 116 yX5_isBlocked, Cond.instanceMethod yX5_isBlocked]
def wsX5_bears_r3 : List Cond := [Cond.selects RX5 yX5_isBlocked yX5_isBlocked, Cond.code yX5_isBlocked cX5_isBlocked 6 (some .boolean), Cond.fieldLink RX5 19 "FacadeShowModel" "cells" "[I", Cond.fieldLink RX5 22 "FacadeShowModel" "hasMast" "[Z", Cond.methodLink RX5 109 yX5_cross, Cond.instanceMethod yX5_cross, Cond.selects RX5 yX5_cross yX5_cross, Cond.code yX5_cross cX5_cross 6 (some .int), Cond.methodLink RX5 90 yX5_at, Cond.static yX5_at, Cond.code yX5_at cX5_at 2 (some .int), Cond.methodLink RX5 122 yX5_isSharpAt, Cond.instanceMethod yX5_isSharpAt, Cond.selects RX5 yX5_isSharpAt yX5_isSharpAt, Cond.code yX5_isSharpAt cX5_isSharpAt 3 (some .boolean), Cond.fieldLink RX5 42 "FacadeShowModel" "focus" "[I"]
def wsX5_bears : List Cond := .code yX5_bears cX5_bears 4 (some .boolean) :: ((wsX5_bears_r1 ++ (wsX5_bears_r2 ++ wsX5_bears_r3)) ++ wsX50)
def wsX5_meets : List Cond := .code yX5_meets cX5_meets 6 (some .boolean) :: ([.fieldLink RX5 7 "FacadeShowModel" "relief" "[I", .fieldLink RX5 33 "FacadeShowModel" "row" "[I", .fieldLink RX5 19 "FacadeShowModel" "cells" "[I", .methodLink RX5 109 yX5_cross, .instanceMethod yX5_cross, .selects RX5 yX5_cross yX5_cross, .initialized RX5, .code yX5_cross cX5_cross 6 (some .int), .fieldLink RX5 30 "FacadeShowModel" "column" "[I", .methodLink RX5 90 yX5_at, .static yX5_at, .code yX5_at cX5_at 2 (some .int)] ++ wsX50)
def wsX5_breachesNow_r1 : List Cond := [Cond.fieldLink RX5 80 "FacadeShowModel" "projectors" "I", Cond.methodLink RX5 125 yX5_shines, Cond.instanceMethod yX5_shines, Cond.selects RX5 yX5_shines yX5_shines, Cond.initialized RX5, Cond.code yX5_shines cX5_shines 2 (some .boolean), Cond.fieldLink RX5 51 "FacadeShowModel" "isOn" "[Z", Cond.fieldLink RX5 54 "FacadeShowModel" "hasFailed" "[Z", Cond.methodLink RX5 113 yX5_covers, Cond.instanceMethod yX5_covers, Cond.selects RX5 yX5_covers yX5_covers, Cond.code yX5_covers cX5_covers 4 (some .boolean), Cond.fieldLink RX5 106 "FacadeShowModel" "wind" "I", Cond.fieldLink RX5 48 "FacadeShowModel" "last" "[I", Cond.fieldLink RX5 45 "FacadeShowModel" "first" "[I", Cond.methodLink RX5 72 yX5_in, Cond.static yX5_in, Cond.code yX5_in cX5_in 3 (some .boolean), Cond.methodLink RX5 116 yX5_isBlocked, Cond.instanceMethod yX5_isBlocked, Cond.selects RX5 yX5_isBlocked yX5_isBlocked, Cond.code yX5_isBlocked cX5_isBlocked 6 (some .boolean), Cond.fieldLink RX5 7 "FacadeShowModel" "relief" "[I", Cond.fieldLink RX5 33 "FacadeShowModel" "row" "[I"]
def wsX5_breachesNow_r2 : List Cond := [Cond.fieldLink RX5 19 "FacadeShowModel" "cells" "[I", Cond.fieldLink RX5 22 "FacadeShowModel" "hasMast" "[Z", Cond.methodLink RX5 109 yX5_cross, Cond.instanceMethod yX5_cross, Cond.selects RX5 yX5_cross yX5_cross, Cond.code yX5_cross cX5_cross 6 (some .int), Cond.fieldLink RX5 30 "FacadeShowModel" "column" "[I", Cond.methodLink RX5 90 yX5_at, Cond.static yX5_at, Cond.code yX5_at cX5_at 2 (some .int), Cond.methodLink RX5 150 yX5_meets, Cond.instanceMethod yX5_meets, Cond.selects RX5 yX5_meets yX5_meets, Cond.code yX5_meets cX5_meets 6 (some .boolean)]
def wsX5_breachesNow : List Cond := .code yX5_breachesNow cX5_breachesNow 4 (some .int) :: ((wsX5_breachesNow_r1 ++ wsX5_breachesNow_r2) ++ wsX50)
def wsX5_breaches_r1 : List Cond := [Cond.fieldLink RX5 69 "FacadeShowModel" "thrown" "I", Cond.methodLink RX5 153 yX5_breachesNow, Cond.instanceMethod yX5_breachesNow, Cond.selects RX5 yX5_breachesNow yX5_breachesNow, Cond.initialized RX5, Cond.code yX5_breachesNow cX5_breachesNow 4 (some .int), Cond.fieldLink RX5 80 "FacadeShowModel" "projectors" "I", Cond.methodLink RX5 125 yX5_shines, Cond.instanceMethod yX5_shines, Cond.selects RX5 yX5_shines yX5_shines, Cond.code yX5_shines cX5_shines 2 (some .boolean), Cond.fieldLink RX5 51 "FacadeShowModel" "isOn" "[Z", Cond.fieldLink RX5 54 "FacadeShowModel" "hasFailed" "[Z", Cond.methodLink RX5 113 yX5_covers, Cond.instanceMethod yX5_covers, Cond.selects RX5 yX5_covers yX5_covers, Cond.code yX5_covers cX5_covers 4 (some .boolean), Cond.fieldLink RX5 106 "FacadeShowModel" "wind" "I", Cond.fieldLink RX5 48 "FacadeShowModel" "last" "[I", Cond.fieldLink RX5 45 "FacadeShowModel" "first" "[I", Cond.methodLink RX5 72 yX5_in, Cond.static yX5_in, Cond.code yX5_in cX5_in 3 (some .boolean), Cond.methodLink RX5 116 yX5_isBlocked]
def wsX5_breaches_r2 : List Cond := [Cond.instanceMethod yX5_isBlocked, Cond.selects RX5 yX5_isBlocked yX5_isBlocked, Cond.code yX5_isBlocked cX5_isBlocked 6 (some .boolean), Cond.fieldLink RX5 7 "FacadeShowModel" "relief" "[I", Cond.fieldLink RX5 33 "FacadeShowModel" "row" "[I", Cond.fieldLink RX5 19 "FacadeShowModel" "cells" "[I", Cond.fieldLink RX5 22 "FacadeShowModel" "hasMast" "[Z", Cond.methodLink RX5 109 yX5_cross, Cond.instanceMethod yX5_cross, Cond.selects RX5 yX5_cross yX5_cross, Cond.code yX5_cross cX5_cross 6 (some .int), Cond.fieldLink RX5 30 "FacadeShowModel" "column" "[I", Cond.methodLink RX5 90 yX5_at, Cond.static yX5_at, Cond.code yX5_at cX5_at 2 (some .int), Cond.methodLink RX5 150 yX5_meets, Cond.instanceMethod yX5_meets, Cond.selects RX5 yX5_meets yX5_meets, Cond.code yX5_meets cX5_meets 6 (some .boolean)]
def wsX5_breaches : List Cond := .code yX5_breaches cX5_breaches 1 (some .int) :: ((wsX5_breaches_r1 ++ wsX5_breaches_r2) ++ wsX50)
def wsX5_curfew : List Cond := .code yX5_curfew cX5_curfew 3 none :: ([.fieldLink RX5 156 "FacadeShowModel" "curfewFrom" "I", .fieldLink RX5 159 "FacadeShowModel" "curfewTo" "I", .methodLink RX5 72 yX5_in, .static yX5_in, .initialized RX5, .code yX5_in cX5_in 3 (some .boolean), .methodLink RX5 83 yX5_goesWell, .instanceMethod yX5_goesWell, .selects RX5 yX5_goesWell yX5_goesWell, .code yX5_goesWell cX5_goesWell 2 (some .boolean), .fieldLink RX5 69 "FacadeShowModel" "thrown" "I"] ++ wsX50)
def wsX5_ready : List Cond := .code yX5_ready cX5_ready 5 (some .int) :: ([.constant RX5 105 (99999), .fieldLink RX5 57 "FacadeShowModel" "ready" "[I", .methodLink RX5 98 yX5_isProjector, .instanceMethod yX5_isProjector, .selects RX5 yX5_isProjector yX5_isProjector, .initialized RX5, .code yX5_isProjector cX5_isProjector 2 (some .boolean), .fieldLink RX5 80 "FacadeShowModel" "projectors" "I", .methodLink RX5 72 yX5_in, .static yX5_in, .code yX5_in cX5_in 3 (some .boolean), .methodLink RX5 83 yX5_goesWell, .instanceMethod yX5_goesWell, .selects RX5 yX5_goesWell yX5_goesWell, .code yX5_goesWell cX5_goesWell 2 (some .boolean), .fieldLink RX5 69 "FacadeShowModel" "thrown" "I"] ++ wsX50)
def wsX5_propose : List Cond := .code yX5_propose cX5_propose 5 (some .int) :: ([.fieldLink RX5 66 "FacadeShowModel" "proposed" "[I", .methodLink RX5 72 yX5_in, .static yX5_in, .initialized RX5, .code yX5_in cX5_in 3 (some .boolean), .methodLink RX5 83 yX5_goesWell, .instanceMethod yX5_goesWell, .selects RX5 yX5_goesWell yX5_goesWell, .code yX5_goesWell cX5_goesWell 2 (some .boolean), .fieldLink RX5 69 "FacadeShowModel" "thrown" "I"] ++ wsX50)
def wsX5_answer : List Cond := .code yX5_answer cX5_answer 4 (some .int) :: ([.fieldLink RX5 66 "FacadeShowModel" "proposed" "[I", .fieldLink RX5 63 "FacadeShowModel" "version" "[I", .methodLink RX5 72 yX5_in, .static yX5_in, .initialized RX5, .code yX5_in cX5_in 3 (some .boolean), .methodLink RX5 83 yX5_goesWell, .instanceMethod yX5_goesWell, .selects RX5 yX5_goesWell yX5_goesWell, .code yX5_goesWell cX5_goesWell 2 (some .boolean), .fieldLink RX5 69 "FacadeShowModel" "thrown" "I"] ++ wsX50)
def wsX5_scene : List Cond := .code yX5_scene cX5_scene 3 (some .int) :: ([.fieldLink RX5 66 "FacadeShowModel" "proposed" "[I", .fieldLink RX5 63 "FacadeShowModel" "version" "[I", .methodLink RX5 72 yX5_in, .static yX5_in, .initialized RX5, .code yX5_in cX5_in 3 (some .boolean), .methodLink RX5 83 yX5_goesWell, .instanceMethod yX5_goesWell, .selects RX5 yX5_goesWell yX5_goesWell, .code yX5_goesWell cX5_goesWell 2 (some .boolean), .fieldLink RX5 69 "FacadeShowModel" "thrown" "I"] ++ wsX50)
def wsX5_on : List Cond := .code yX5_on cX5_on 3 (some .int) :: ([.fieldLink RX5 80 "FacadeShowModel" "projectors" "I", .fieldLink RX5 51 "FacadeShowModel" "isOn" "[Z"] ++ wsX50)
def wsX5_show : List Cond := .code yX5_show cX5_show 2 (some .long) :: ([.fieldLink RX5 162 "FacadeShowModel" "frame" "I", .fieldLink RX5 165 "FacadeShowModel" "held" "I", .fieldLink RX5 168 "FacadeShowModel" "counted" "J", .fieldLink RX5 172 "FacadeShowModel" "energy" "J", .fieldLink RX5 175 "FacadeShowModel" "minute" "I", .methodLink RX5 72 yX5_in, .static yX5_in, .initialized RX5, .code yX5_in cX5_in 3 (some .boolean), .methodLink RX5 83 yX5_goesWell, .instanceMethod yX5_goesWell, .selects RX5 yX5_goesWell yX5_goesWell, .code yX5_goesWell cX5_goesWell 2 (some .boolean), .fieldLink RX5 69 "FacadeShowModel" "thrown" "I", .methodLink RX5 178 yX5_on, .instanceMethod yX5_on, .selects RX5 yX5_on yX5_on, .code yX5_on cX5_on 3 (some .int), .fieldLink RX5 80 "FacadeShowModel" "projectors" "I", .fieldLink RX5 51 "FacadeShowModel" "isOn" "[Z"] ++ wsX50)
def wsX5_passOne : List Cond := .code yX5_passOne cX5_passOne 6 none :: ([.fieldLink RX5 175 "FacadeShowModel" "minute" "I", .fieldLink RX5 156 "FacadeShowModel" "curfewFrom" "I", .fieldLink RX5 159 "FacadeShowModel" "curfewTo" "I", .fieldLink RX5 168 "FacadeShowModel" "counted" "J", .fieldLink RX5 80 "FacadeShowModel" "projectors" "I", .fieldLink RX5 172 "FacadeShowModel" "energy" "J", .fieldLink RX5 51 "FacadeShowModel" "isOn" "[Z", .fieldLink RX5 36 "FacadeShowModel" "power" "[I", .fieldLink RX5 57 "FacadeShowModel" "ready" "[I", .fieldLink RX5 162 "FacadeShowModel" "frame" "I", .fieldLink RX5 165 "FacadeShowModel" "held" "I", .methodLink RX5 178 yX5_on, .instanceMethod yX5_on, .selects RX5 yX5_on yX5_on, .initialized RX5, .code yX5_on cX5_on 3 (some .int), .methodLink RX5 125 yX5_shines, .instanceMethod yX5_shines, .selects RX5 yX5_shines yX5_shines, .code yX5_shines cX5_shines 2 (some .boolean), .fieldLink RX5 54 "FacadeShowModel" "hasFailed" "[Z"] ++ wsX50)
def wsX5_pass_r1 : List Cond := [Cond.fieldLink RX5 175 "FacadeShowModel" "minute" "I", Cond.constant RX5 105 (99999), Cond.methodLink RX5 72 yX5_in, Cond.static yX5_in, Cond.initialized RX5, Cond.code yX5_in cX5_in 3 (some .boolean), Cond.methodLink RX5 83 yX5_goesWell, Cond.instanceMethod yX5_goesWell, Cond.selects RX5 yX5_goesWell yX5_goesWell, Cond.code yX5_goesWell cX5_goesWell 2 (some .boolean), Cond.fieldLink RX5 69 "FacadeShowModel" "thrown" "I", Cond.methodLink RX5 153 yX5_breachesNow, Cond.instanceMethod yX5_breachesNow, Cond.selects RX5 yX5_breachesNow yX5_breachesNow, Cond.code yX5_breachesNow cX5_breachesNow 4 (some .int), Cond.fieldLink RX5 80 "FacadeShowModel" "projectors" "I", Cond.methodLink RX5 125 yX5_shines, Cond.instanceMethod yX5_shines, Cond.selects RX5 yX5_shines yX5_shines, Cond.code yX5_shines cX5_shines 2 (some .boolean), Cond.fieldLink RX5 51 "FacadeShowModel" "isOn" "[Z", Cond.fieldLink RX5 54 "FacadeShowModel" "hasFailed" "[Z", Cond.methodLink RX5 113 yX5_covers, Cond.instanceMethod yX5_covers]
def wsX5_pass_r2 : List Cond := [Cond.selects RX5 yX5_covers yX5_covers, Cond.code yX5_covers cX5_covers 4 (some .boolean), Cond.fieldLink RX5 106 "FacadeShowModel" "wind" "I", Cond.fieldLink RX5 48 "FacadeShowModel" "last" "[I", Cond.fieldLink RX5 45 "FacadeShowModel" "first" "[I", Cond.methodLink RX5 116 yX5_isBlocked, Cond.instanceMethod yX5_isBlocked, Cond.selects RX5 yX5_isBlocked yX5_isBlocked, Cond.code yX5_isBlocked cX5_isBlocked 6 (some .boolean), Cond.fieldLink RX5 7 "FacadeShowModel" "relief" "[I", Cond.fieldLink RX5 33 "FacadeShowModel" "row" "[I", Cond.fieldLink RX5 19 "FacadeShowModel" "cells" "[I", Cond.fieldLink RX5 22 "FacadeShowModel" "hasMast" "[Z", Cond.methodLink RX5 109 yX5_cross, Cond.instanceMethod yX5_cross, Cond.selects RX5 yX5_cross yX5_cross, Cond.code yX5_cross cX5_cross 6 (some .int), Cond.fieldLink RX5 30 "FacadeShowModel" "column" "[I", Cond.methodLink RX5 90 yX5_at, Cond.static yX5_at, Cond.code yX5_at cX5_at 2 (some .int), Cond.methodLink RX5 150 yX5_meets, Cond.instanceMethod yX5_meets, Cond.selects RX5 yX5_meets yX5_meets]
def wsX5_pass_r3 : List Cond := [Cond.code yX5_meets cX5_meets 6 (some .boolean), Cond.methodLink RX5 181 yX5_passOne, Cond.instanceMethod yX5_passOne, Cond.selects RX5 yX5_passOne yX5_passOne, Cond.code yX5_passOne cX5_passOne 6 none, Cond.fieldLink RX5 156 "FacadeShowModel" "curfewFrom" "I", Cond.fieldLink RX5 159 "FacadeShowModel" "curfewTo" "I", Cond.fieldLink RX5 168 "FacadeShowModel" "counted" "J", Cond.fieldLink RX5 172 "FacadeShowModel" "energy" "J", Cond.fieldLink RX5 36 "FacadeShowModel" "power" "[I", Cond.fieldLink RX5 57 "FacadeShowModel" "ready" "[I", Cond.fieldLink RX5 162 "FacadeShowModel" "frame" "I", Cond.fieldLink RX5 165 "FacadeShowModel" "held" "I", Cond.methodLink RX5 178 yX5_on, Cond.instanceMethod yX5_on, Cond.selects RX5 yX5_on yX5_on, Cond.code yX5_on cX5_on 3 (some .int)]
def wsX5_pass : List Cond := .code yX5_pass cX5_pass 5 (some .int) :: ((wsX5_pass_r1 ++ (wsX5_pass_r2 ++ wsX5_pass_r3)) ++ wsX50)
def wsL_column : List Cond := .codeWith yL_column cL_column 5 (some .int) [(0, 7, 10, 13), (0, 7, 14, 15)] :: ([.classLink RL 13 "java/lang/IndexOutOfBoundsException", .classLink RL 15 "java/lang/IllegalArgumentException", .methodLink RL 7 yX4_column, .instanceMethod yX4_column, .selects RX4 yX4_column yX4_column, .initialized RX4, .code yX4_column cX4_column 4 none, .classLink RX4 79 "java/lang/IndexOutOfBoundsException", .initialized "java/lang/IndexOutOfBoundsException", .classLink RX4 86 "java/lang/IllegalArgumentException", .initialized "java/lang/IllegalArgumentException", .fieldLink RX4 10 "FacadeShow" "square" "LFacadeShow$Square;", .methodLink RX4 75 yX4_isColumn, .static yX4_isColumn, .code yX4_isColumn cX4_isColumn 1 (some .boolean), .instanceMethod yX2_build, .initialized RX2, .selects RX2 yX2_build yX2_build, .code yX2_build cX2_build 4 none, .fieldLink RX2 9 "FacadeShow$Square" "reliefs" "[I", .fieldLink RX2 15 "FacadeShow$Square" "surfaces" "[I"] ++ wsX40 ++ wsX20 ++ (vx_atS RX4 83 "java/lang/IndexOutOfBoundsException" ["java/lang/RuntimeException", "java/lang/Exception"]).filter goodWord ++ (vx_atS RX4 90 "java/lang/IllegalArgumentException" ["java/lang/RuntimeException", "java/lang/Exception"]).filter goodWord)
def wsL_cell_r1 : List Cond := [Cond.classLink RL 13 "java/lang/IndexOutOfBoundsException", Cond.classLink RL 15 "java/lang/IllegalArgumentException", Cond.classLink RL 21 "java/lang/IllegalStateException", Cond.methodLink RL 17 yX4_cell, Cond.instanceMethod yX4_cell, Cond.selects RX4 yX4_cell yX4_cell, Cond.initialized RX4, Cond.code yX4_cell cX4_cell 5 (some .int), Cond.classLink RX4 79 "java/lang/IndexOutOfBoundsException", Cond.initialized "java/lang/IndexOutOfBoundsException", Cond.classLink RX4 86 "java/lang/IllegalArgumentException", Cond.initialized "java/lang/IllegalArgumentException", Cond.classLink RX4 108 "java/lang/IllegalStateException", Cond.initialized "java/lang/IllegalStateException", Cond.fieldLink RX4 10 "FacadeShow" "square" "LFacadeShow$Square;", Cond.methodLink RX4 75 yX4_isColumn, Cond.static yX4_isColumn, Cond.code yX4_isColumn cX4_isColumn 1 (some .boolean), Cond.methodLink RX4 97 yX4_isOpenRow, Cond.static yX4_isOpenRow, Cond.code yX4_isOpenRow cX4_isOpenRow 1 (some .boolean), Cond.instanceMethod yX2_contentOf, Cond.initialized RX2, Cond.selects RX2 yX2_contentOf yX2_contentOf]
def wsL_cell_r2 : List Cond := [Cond.code yX2_contentOf cX2_contentOf 3 (some .int), Cond.fieldLink RX2 18 "FacadeShow$Square" "contents" "[I", Cond.methodLink RX2 25 yX2_isCell, Cond.static yX2_isCell, Cond.code yX2_isCell cX2_isCell 2 (some .boolean), Cond.instanceMethod yX2_put, Cond.selects RX2 yX2_put yX2_put, Cond.code yX2_put cX2_put 4 none]
def wsL_cell : List Cond := .codeWith yL_cell cL_cell 6 (some .int) [(0, 12, 15, 13), (0, 12, 19, 15), (0, 12, 23, 21)] :: ((wsL_cell_r1 ++ wsL_cell_r2) ++ wsX40 ++ wsX20 ++ (vx_atS RX4 83 "java/lang/IndexOutOfBoundsException" ["java/lang/RuntimeException", "java/lang/Exception"]).filter goodWord ++ (vx_atS RX4 90 "java/lang/IllegalArgumentException" ["java/lang/RuntimeException", "java/lang/Exception"]).filter goodWord ++ (vx_atS RX4 112 "java/lang/IllegalStateException" ["java/lang/RuntimeException", "java/lang/Exception"]).filter goodWord)
def wsL_need : List Cond := .codeWith yL_need cL_need 4 (some .int) [(0, 6, 9, 15)] :: ([.classLink RL 15 "java/lang/IllegalArgumentException", .methodLink RL 23 yX4_need, .instanceMethod yX4_need, .selects RX4 yX4_need yX4_need, .initialized RX4, .code yX4_need cX4_need 3 none, .classLink RX4 86 "java/lang/IllegalArgumentException", .initialized "java/lang/IllegalArgumentException", .constant RX4 116 (65535), .fieldLink RX4 33 "FacadeShow" "needed" "I", .fieldLink RX4 36 "FacadeShow" "levelNow" "I"] ++ wsX40 ++ (vx_atS RX4 90 "java/lang/IllegalArgumentException" ["java/lang/RuntimeException", "java/lang/Exception"]).filter goodWord)
def wsL_projector_r1 : List Cond := [Cond.classLink RL 13 "java/lang/IndexOutOfBoundsException", Cond.classLink RL 15 "java/lang/IllegalArgumentException", Cond.classLink RL 21 "java/lang/IllegalStateException", Cond.methodLink RL 27 yX4_projector, Cond.instanceMethod yX4_projector, Cond.selects RX4 yX4_projector yX4_projector, Cond.initialized RX4, Cond.code yX4_projector cX4_projector 7 (some .int), Cond.classLink RX4 79 "java/lang/IndexOutOfBoundsException", Cond.initialized "java/lang/IndexOutOfBoundsException", Cond.classLink RX4 86 "java/lang/IllegalArgumentException", Cond.initialized "java/lang/IllegalArgumentException", Cond.classLink RX4 108 "java/lang/IllegalStateException", Cond.initialized "java/lang/IllegalStateException", Cond.fieldLink RX4 10 "FacadeShow" "square" "LFacadeShow$Square;", Cond.fieldLink RX4 22 "FacadeShow" "projectorCount" "I", Cond.fieldLink RX4 18 "FacadeShow" "placed" "[LFacadeShow$Projector;", Cond.classLink RX4 16 RX0, Cond.instantiable RX0 10, Cond.initialized RX0, Cond.methodLink RX4 75 yX4_isColumn, Cond.static yX4_isColumn, Cond.code yX4_isColumn cX4_isColumn 1 (some .boolean), Cond.methodLink RX4 97 yX4_isOpenRow]
def wsL_projector_r2 : List Cond := [Cond.static yX4_isOpenRow, Cond.code yX4_isOpenRow cX4_isOpenRow 1 (some .boolean), Cond.methodLink RX4 123 yX4_isPhase, Cond.static yX4_isPhase, Cond.code yX4_isPhase cX4_isPhase 1 (some .boolean), Cond.instanceMethod yX2_contentOf, Cond.initialized RX2, Cond.selects RX2 yX2_contentOf yX2_contentOf, Cond.code yX2_contentOf cX2_contentOf 3 (some .int), Cond.fieldLink RX2 18 "FacadeShow$Square" "contents" "[I", Cond.methodLink RX2 25 yX2_isCell, Cond.static yX2_isCell, Cond.code yX2_isCell cX2_isCell 2 (some .boolean), Cond.instanceMethod yX2_put, Cond.selects RX2 yX2_put yX2_put, Cond.code yX2_put cX2_put 4 none, Cond.instanceMethod yX0_init, Cond.code yX0_init cX0_init 6 none, Cond.methodLink RX0 3 objectInit, Cond.instanceMethod objectInit, Cond.code objectInit ⟨#[0xb1]⟩ 1 none, Cond.fieldLink RX0 9 "FacadeShow$Projector" "column" "I", Cond.fieldLink RX0 15 "FacadeShow$Projector" "row" "I", Cond.fieldLink RX0 18 "FacadeShow$Projector" "power" "I"]
def wsL_projector_r3 : List Cond := [Cond.fieldLink RX0 21 "FacadeShow$Projector" "phase" "I", Cond.fieldLink RX0 24 "FacadeShow$Projector" "focus" "I", Cond.fieldLink RX0 27 "FacadeShow$Projector" "from" "I", Cond.fieldLink RX0 30 "FacadeShow$Projector" "to" "I"]
def wsL_projector : List Cond := .codeWith yL_projector cL_projector 8 (some .int) [(0, 16, 19, 13), (0, 16, 23, 15), (0, 16, 27, 21)] :: ((wsL_projector_r1 ++ (wsL_projector_r2 ++ wsL_projector_r3)) ++ wsX40 ++ wsX00 ++ wsX20 ++ (vx_atS RX4 83 "java/lang/IndexOutOfBoundsException" ["java/lang/RuntimeException", "java/lang/Exception"]).filter goodWord ++ (vx_atS RX4 90 "java/lang/IllegalArgumentException" ["java/lang/RuntimeException", "java/lang/Exception"]).filter goodWord ++ (vx_atS RX4 112 "java/lang/IllegalStateException" ["java/lang/RuntimeException", "java/lang/Exception"]).filter goodWord)
def wsL_aim : List Cond := .codeWith yL_aim cL_aim 5 (some .int) [(0, 7, 10, 13), (0, 7, 14, 15)] :: ([.classLink RL 13 "java/lang/IndexOutOfBoundsException", .classLink RL 15 "java/lang/IllegalArgumentException", .methodLink RL 31 yX4_aim, .instanceMethod yX4_aim, .selects RX4 yX4_aim yX4_aim, .initialized RX4, .code yX4_aim cX4_aim 5 none, .classLink RX4 79 "java/lang/IndexOutOfBoundsException", .initialized "java/lang/IndexOutOfBoundsException", .classLink RX4 86 "java/lang/IllegalArgumentException", .initialized "java/lang/IllegalArgumentException", .methodLink RX4 137 yX4_find, .instanceMethod yX4_find, .selects RX4 yX4_find yX4_find, .code yX4_find cX4_find 2 (some (.object "FacadeShow$Projector")), .fieldLink RX4 22 "FacadeShow" "projectorCount" "I", .fieldLink RX4 18 "FacadeShow" "placed" "[LFacadeShow$Projector;", .methodLink RX4 75 yX4_isColumn, .static yX4_isColumn, .code yX4_isColumn cX4_isColumn 1 (some .boolean)] ++ wsX00 ++ wsX40 ++ (vx_atS RX4 83 "java/lang/IndexOutOfBoundsException" ["java/lang/RuntimeException", "java/lang/Exception"]).filter goodWord ++ (vx_atS RX4 90 "java/lang/IllegalArgumentException" ["java/lang/RuntimeException", "java/lang/Exception"]).filter goodWord)
def wsL_turn_r1 : List Cond := [Cond.classLink RL 13 "java/lang/IndexOutOfBoundsException", Cond.classLink RL 21 "java/lang/IllegalStateException", Cond.methodLink RL 34 yX4_turn, Cond.instanceMethod yX4_turn, Cond.selects RX4 yX4_turn yX4_turn, Cond.initialized RX4, Cond.code yX4_turn cX4_turn 5 (some .boolean), Cond.classLink RX4 79 "java/lang/IndexOutOfBoundsException", Cond.initialized "java/lang/IndexOutOfBoundsException", Cond.classLink RX4 108 "java/lang/IllegalStateException", Cond.initialized "java/lang/IllegalStateException", Cond.methodLink RX4 137 yX4_find, Cond.instanceMethod yX4_find, Cond.selects RX4 yX4_find yX4_find, Cond.code yX4_find cX4_find 2 (some (.object "FacadeShow$Projector")), Cond.fieldLink RX4 22 "FacadeShow" "projectorCount" "I", Cond.fieldLink RX4 18 "FacadeShow" "placed" "[LFacadeShow$Projector;", Cond.methodLink RX4 158 yX4_loadOf, Cond.instanceMethod yX4_loadOf, Cond.selects RX4 yX4_loadOf yX4_loadOf, Cond.code yX4_loadOf cX4_loadOf 5 (some .int), Cond.methodLink RX4 165 yX4_borneBy, Cond.instanceMethod yX4_borneBy, Cond.selects RX4 yX4_borneBy yX4_borneBy]
def wsL_turn_r2 : List Cond := [Cond.code yX4_borneBy cX4_borneBy 2 (some .int), Cond.fieldLink RX4 26 "FacadeShow" "borne" "[I", Cond.methodLink RX4 123 yX4_isPhase, Cond.static yX4_isPhase, Cond.code yX4_isPhase cX4_isPhase 1 (some .boolean)]
def wsL_turn : List Cond := .codeWith yL_turn cL_turn 5 (some .int) [(0, 17, 20, 13), (0, 17, 24, 21)] :: ((wsL_turn_r1 ++ wsL_turn_r2) ++ wsX00 ++ wsX40 ++ (vx_atS RX4 83 "java/lang/IndexOutOfBoundsException" ["java/lang/RuntimeException", "java/lang/Exception"]).filter goodWord ++ (vx_atS RX4 112 "java/lang/IllegalStateException" ["java/lang/RuntimeException", "java/lang/Exception"]).filter goodWord)
def wsL_fail : List Cond := .codeWith yL_fail cL_fail 5 (some .int) [(0, 17, 20, 13)] :: ([.classLink RL 13 "java/lang/IndexOutOfBoundsException", .methodLink RL 38 yX4_fail, .instanceMethod yX4_fail, .selects RX4 yX4_fail yX4_fail, .initialized RX4, .code yX4_fail cX4_fail 5 (some .boolean), .classLink RX4 79 "java/lang/IndexOutOfBoundsException", .initialized "java/lang/IndexOutOfBoundsException", .methodLink RX4 137 yX4_find, .instanceMethod yX4_find, .selects RX4 yX4_find yX4_find, .code yX4_find cX4_find 2 (some (.object "FacadeShow$Projector")), .fieldLink RX4 22 "FacadeShow" "projectorCount" "I", .fieldLink RX4 18 "FacadeShow" "placed" "[LFacadeShow$Projector;"] ++ wsX00 ++ wsX40 ++ (vx_atS RX4 83 "java/lang/IndexOutOfBoundsException" ["java/lang/RuntimeException", "java/lang/Exception"]).filter goodWord)
def wsL_phase : List Cond := .codeWith yL_phase cL_phase 5 (some .int) [(0, 10, 13, 15)] :: ([.classLink RL 15 "java/lang/IllegalArgumentException", .methodLink RL 41 yX4_phase, .instanceMethod yX4_phase, .selects RX4 yX4_phase yX4_phase, .initialized RX4, .code yX4_phase cX4_phase 4 (some .int), .classLink RX4 86 "java/lang/IllegalArgumentException", .initialized "java/lang/IllegalArgumentException", .constant RX4 173 (99999), .fieldLink RX4 26 "FacadeShow" "borne" "[I", .methodLink RX4 123 yX4_isPhase, .static yX4_isPhase, .code yX4_isPhase cX4_isPhase 1 (some .boolean)] ++ wsX40 ++ (vx_atS RX4 90 "java/lang/IllegalArgumentException" ["java/lang/RuntimeException", "java/lang/Exception"]).filter goodWord)
def wsL_wind : List Cond := .codeWith yL_wind cL_wind 4 (some .int) [(0, 9, 12, 15)] :: ([.classLink RL 15 "java/lang/IllegalArgumentException", .methodLink RL 45 yX4_wind, .instanceMethod yX4_wind, .selects RX4 yX4_wind yX4_wind, .initialized RX4, .code yX4_wind cX4_wind 3 (some .int), .classLink RX4 86 "java/lang/IllegalArgumentException", .initialized "java/lang/IllegalArgumentException", .fieldLink RX4 30 "FacadeShow" "windNow" "I"] ++ wsX40 ++ (vx_atS RX4 90 "java/lang/IllegalArgumentException" ["java/lang/RuntimeException", "java/lang/Exception"]).filter goodWord)
def wsL_through_r1 : List Cond := [Cond.classLink RL 13 "java/lang/IndexOutOfBoundsException", Cond.methodLink RL 49 yX4_through, Cond.instanceMethod yX4_through, Cond.selects RX4 yX4_through yX4_through, Cond.initialized RX4, Cond.code yX4_through cX4_through 5 (some .int), Cond.classLink RX4 79 "java/lang/IndexOutOfBoundsException", Cond.initialized "java/lang/IndexOutOfBoundsException", Cond.methodLink RX4 137 yX4_find, Cond.instanceMethod yX4_find, Cond.selects RX4 yX4_find yX4_find, Cond.code yX4_find cX4_find 2 (some (.object "FacadeShow$Projector")), Cond.fieldLink RX4 22 "FacadeShow" "projectorCount" "I", Cond.fieldLink RX4 18 "FacadeShow" "placed" "[LFacadeShow$Projector;", Cond.methodLink RX4 75 yX4_isColumn, Cond.static yX4_isColumn, Cond.code yX4_isColumn cX4_isColumn 1 (some .boolean), Cond.methodLink RX4 178 yX4_crossing, Cond.instanceMethod yX4_crossing, Cond.selects RX4 yX4_crossing yX4_crossing, Cond.code yX4_crossing cX4_crossing 8 (some .int), Cond.fieldLink RX4 10 "FacadeShow" "square" "LFacadeShow$Square;", Cond.instanceMethod yX2_reliefOf, Cond.initialized RX2]
def wsL_through_r2 : List Cond := [Cond.selects RX2 yX2_reliefOf yX2_reliefOf, Cond.code yX2_reliefOf cX2_reliefOf 2 (some .int), Cond.fieldLink RX2 9 "FacadeShow$Square" "reliefs" "[I"]
def wsL_through : List Cond := .codeWith yL_through cL_through 6 (some .int) [(0, 12, 15, 13)] :: ((wsL_through_r1 ++ wsL_through_r2) ++ wsX40 ++ wsX00 ++ wsX20 ++ (vx_atS RX4 83 "java/lang/IndexOutOfBoundsException" ["java/lang/RuntimeException", "java/lang/Exception"]).filter goodWord)
def wsL_gives_r1 : List Cond := [Cond.classLink RL 13 "java/lang/IndexOutOfBoundsException", Cond.methodLink RL 52 yX4_gives, Cond.instanceMethod yX4_gives, Cond.selects RX4 yX4_gives yX4_gives, Cond.initialized RX4, Cond.code yX4_gives cX4_gives 4 (some .int), Cond.classLink RX4 79 "java/lang/IndexOutOfBoundsException", Cond.initialized "java/lang/IndexOutOfBoundsException", Cond.methodLink RX4 137 yX4_find, Cond.instanceMethod yX4_find, Cond.selects RX4 yX4_find yX4_find, Cond.code yX4_find cX4_find 2 (some (.object "FacadeShow$Projector")), Cond.fieldLink RX4 22 "FacadeShow" "projectorCount" "I", Cond.fieldLink RX4 18 "FacadeShow" "placed" "[LFacadeShow$Projector;", Cond.methodLink RX4 75 yX4_isColumn, Cond.static yX4_isColumn, Cond.code yX4_isColumn cX4_isColumn 1 (some .boolean), Cond.methodLink RX4 182 yX4_lightFrom, Cond.instanceMethod yX4_lightFrom, Cond.selects RX4 yX4_lightFrom yX4_lightFrom, Cond.code yX4_lightFrom cX4_lightFrom 6 (some .int), Cond.fieldLink RX4 10 "FacadeShow" "square" "LFacadeShow$Square;", Cond.methodLink RX4 285 yX4_isAimedAt, Cond.instanceMethod yX4_isAimedAt]
def wsL_gives_r2 : List Cond := [Cond.selects RX4 yX4_isAimedAt yX4_isAimedAt, Cond.code yX4_isAimedAt cX4_isAimedAt 4 (some .boolean), Cond.fieldLink RX4 30 "FacadeShow" "windNow" "I", Cond.methodLink RX4 291 yX4_isBlocked, Cond.instanceMethod yX4_isBlocked, Cond.selects RX4 yX4_isBlocked yX4_isBlocked, Cond.code yX4_isBlocked cX4_isBlocked 4 (some .boolean), Cond.instanceMethod yX2_reliefOf, Cond.initialized RX2, Cond.selects RX2 yX2_reliefOf yX2_reliefOf, Cond.code yX2_reliefOf cX2_reliefOf 2 (some .int), Cond.fieldLink RX2 9 "FacadeShow$Square" "reliefs" "[I", Cond.methodLink RX4 178 yX4_crossing, Cond.instanceMethod yX4_crossing, Cond.selects RX4 yX4_crossing yX4_crossing, Cond.code yX4_crossing cX4_crossing 8 (some .int), Cond.instanceMethod yX2_stopsRays, Cond.selects RX2 yX2_stopsRays yX2_stopsRays, Cond.code yX2_stopsRays cX2_stopsRays 4 (some .boolean), Cond.methodLink RX2 29 yX2_contentOf, Cond.instanceMethod yX2_contentOf, Cond.selects RX2 yX2_contentOf yX2_contentOf, Cond.code yX2_contentOf cX2_contentOf 3 (some .int), Cond.fieldLink RX2 18 "FacadeShow$Square" "contents" "[I"]
def wsL_gives_r3 : List Cond := [Cond.methodLink RX2 25 yX2_isCell, Cond.static yX2_isCell, Cond.code yX2_isCell cX2_isCell 2 (some .boolean), Cond.methodLink RX2 33 yX2_reliefOf, Cond.instanceMethod yX2_hundredthsOf, Cond.selects RX2 yX2_hundredthsOf yX2_hundredthsOf, Cond.code yX2_hundredthsOf cX2_hundredthsOf 3 (some .int), Cond.fieldLink RX2 15 "FacadeShow$Square" "surfaces" "[I"]
def wsL_gives : List Cond := .codeWith yL_gives cL_gives 5 (some .int) [(0, 10, 13, 13)] :: ((wsL_gives_r1 ++ (wsL_gives_r2 ++ wsL_gives_r3)) ++ wsX40 ++ wsX00 ++ wsX20 ++ (vx_atS RX4 83 "java/lang/IndexOutOfBoundsException" ["java/lang/RuntimeException", "java/lang/Exception"]).filter goodWord)
def wsL_isSharp_r1 : List Cond := [Cond.classLink RL 13 "java/lang/IndexOutOfBoundsException", Cond.methodLink RL 55 yX4_isSharp, Cond.instanceMethod yX4_isSharp, Cond.selects RX4 yX4_isSharp yX4_isSharp, Cond.initialized RX4, Cond.code yX4_isSharp cX4_isSharp 4 (some .boolean), Cond.classLink RX4 79 "java/lang/IndexOutOfBoundsException", Cond.initialized "java/lang/IndexOutOfBoundsException", Cond.methodLink RX4 137 yX4_find, Cond.instanceMethod yX4_find, Cond.selects RX4 yX4_find yX4_find, Cond.code yX4_find cX4_find 2 (some (.object "FacadeShow$Projector")), Cond.fieldLink RX4 22 "FacadeShow" "projectorCount" "I", Cond.fieldLink RX4 18 "FacadeShow" "placed" "[LFacadeShow$Projector;", Cond.methodLink RX4 75 yX4_isColumn, Cond.static yX4_isColumn, Cond.code yX4_isColumn cX4_isColumn 1 (some .boolean), Cond.methodLink RX4 186 yX4_isInFocus, Cond.instanceMethod yX4_isInFocus, Cond.selects RX4 yX4_isInFocus yX4_isInFocus, Cond.code yX4_isInFocus cX4_isInFocus 4 (some .boolean), Cond.fieldLink RX4 10 "FacadeShow" "square" "LFacadeShow$Square;", Cond.instanceMethod yX2_reliefOf, Cond.initialized RX2]
def wsL_isSharp_r2 : List Cond := [Cond.selects RX2 yX2_reliefOf yX2_reliefOf, Cond.code yX2_reliefOf cX2_reliefOf 2 (some .int), Cond.fieldLink RX2 9 "FacadeShow$Square" "reliefs" "[I"]
def wsL_isSharp : List Cond := .codeWith yL_isSharp cL_isSharp 5 (some .int) [(0, 17, 20, 13)] :: ((wsL_isSharp_r1 ++ wsL_isSharp_r2) ++ wsX40 ++ wsX00 ++ wsX20 ++ (vx_atS RX4 83 "java/lang/IndexOutOfBoundsException" ["java/lang/RuntimeException", "java/lang/Exception"]).filter goodWord)
def wsL_light_r1 : List Cond := [Cond.classLink RL 13 "java/lang/IndexOutOfBoundsException", Cond.methodLink RL 59 yX4_light, Cond.instanceMethod yX4_light, Cond.selects RX4 yX4_light yX4_light, Cond.initialized RX4, Cond.code yX4_light cX4_light 2 (some .int), Cond.classLink RX4 79 "java/lang/IndexOutOfBoundsException", Cond.initialized "java/lang/IndexOutOfBoundsException", Cond.methodLink RX4 75 yX4_isColumn, Cond.static yX4_isColumn, Cond.code yX4_isColumn cX4_isColumn 1 (some .boolean), Cond.methodLink RX4 190 yX4_lightOf, Cond.instanceMethod yX4_lightOf, Cond.selects RX4 yX4_lightOf yX4_lightOf, Cond.code yX4_lightOf cX4_lightOf 5 (some .int), Cond.methodLink RX4 137 yX4_find, Cond.instanceMethod yX4_find, Cond.selects RX4 yX4_find yX4_find, Cond.code yX4_find cX4_find 2 (some (.object "FacadeShow$Projector")), Cond.fieldLink RX4 22 "FacadeShow" "projectorCount" "I", Cond.fieldLink RX4 18 "FacadeShow" "placed" "[LFacadeShow$Projector;", Cond.instanceMethod yX0_shines, Cond.initialized RX0, Cond.selects RX0 yX0_shines yX0_shines]
def wsL_light_r2 : List Cond := [Cond.code yX0_shines cX0_shines 1 (some .boolean), Cond.fieldLink RX0 33 "FacadeShow$Projector" "isOn" "Z", Cond.fieldLink RX0 37 "FacadeShow$Projector" "hasFailed" "Z", Cond.methodLink RX4 182 yX4_lightFrom, Cond.instanceMethod yX4_lightFrom, Cond.selects RX4 yX4_lightFrom yX4_lightFrom, Cond.code yX4_lightFrom cX4_lightFrom 6 (some .int), Cond.fieldLink RX4 10 "FacadeShow" "square" "LFacadeShow$Square;", Cond.methodLink RX4 285 yX4_isAimedAt, Cond.instanceMethod yX4_isAimedAt, Cond.selects RX4 yX4_isAimedAt yX4_isAimedAt, Cond.code yX4_isAimedAt cX4_isAimedAt 4 (some .boolean), Cond.fieldLink RX4 30 "FacadeShow" "windNow" "I", Cond.methodLink RX4 291 yX4_isBlocked, Cond.instanceMethod yX4_isBlocked, Cond.selects RX4 yX4_isBlocked yX4_isBlocked, Cond.code yX4_isBlocked cX4_isBlocked 4 (some .boolean), Cond.instanceMethod yX2_reliefOf, Cond.initialized RX2, Cond.selects RX2 yX2_reliefOf yX2_reliefOf, Cond.code yX2_reliefOf cX2_reliefOf 2 (some .int), Cond.fieldLink RX2 9 "FacadeShow$Square" "reliefs" "[I", Cond.methodLink RX4 178 yX4_crossing, Cond.instanceMethod yX4_crossing]
def wsL_light_r3 : List Cond := [Cond.selects RX4 yX4_crossing yX4_crossing, Cond.code yX4_crossing cX4_crossing 8 (some .int), Cond.instanceMethod yX2_stopsRays, Cond.selects RX2 yX2_stopsRays yX2_stopsRays, Cond.code yX2_stopsRays cX2_stopsRays 4 (some .boolean), Cond.methodLink RX2 29 yX2_contentOf, Cond.instanceMethod yX2_contentOf, Cond.selects RX2 yX2_contentOf yX2_contentOf, Cond.code yX2_contentOf cX2_contentOf 3 (some .int), Cond.fieldLink RX2 18 "FacadeShow$Square" "contents" "[I", Cond.methodLink RX2 25 yX2_isCell, Cond.static yX2_isCell, Cond.code yX2_isCell cX2_isCell 2 (some .boolean), Cond.methodLink RX2 33 yX2_reliefOf, Cond.instanceMethod yX2_hundredthsOf, Cond.selects RX2 yX2_hundredthsOf yX2_hundredthsOf, Cond.code yX2_hundredthsOf cX2_hundredthsOf 3 (some .int), Cond.fieldLink RX2 15 "FacadeShow$Square" "surfaces" "[I"]
def wsL_light : List Cond := .codeWith yL_light cL_light 4 (some .int) [(0, 9, 12, 13)] :: ((wsL_light_r1 ++ (wsL_light_r2 ++ wsL_light_r3)) ++ wsX40 ++ wsX00 ++ wsX20 ++ (vx_atS RX4 83 "java/lang/IndexOutOfBoundsException" ["java/lang/RuntimeException", "java/lang/Exception"]).filter goodWord)
def wsL_blended_r1 : List Cond := [Cond.classLink RL 13 "java/lang/IndexOutOfBoundsException", Cond.methodLink RL 62 yX4_blended, Cond.instanceMethod yX4_blended, Cond.selects RX4 yX4_blended yX4_blended, Cond.initialized RX4, Cond.code yX4_blended cX4_blended 6 (some .int), Cond.classLink RX4 79 "java/lang/IndexOutOfBoundsException", Cond.initialized "java/lang/IndexOutOfBoundsException", Cond.fieldLink RX4 36 "FacadeShow" "levelNow" "I", Cond.methodLink RX4 137 yX4_find, Cond.instanceMethod yX4_find, Cond.selects RX4 yX4_find yX4_find, Cond.code yX4_find cX4_find 2 (some (.object "FacadeShow$Projector")), Cond.fieldLink RX4 22 "FacadeShow" "projectorCount" "I", Cond.fieldLink RX4 18 "FacadeShow" "placed" "[LFacadeShow$Projector;", Cond.methodLink RX4 75 yX4_isColumn, Cond.static yX4_isColumn, Cond.code yX4_isColumn cX4_isColumn 1 (some .boolean), Cond.instanceMethod yX0_shines, Cond.initialized RX0, Cond.selects RX0 yX0_shines yX0_shines, Cond.code yX0_shines cX0_shines 1 (some .boolean), Cond.fieldLink RX0 33 "FacadeShow$Projector" "isOn" "Z", Cond.fieldLink RX0 37 "FacadeShow$Projector" "hasFailed" "Z"]
def wsL_blended_r2 : List Cond := [Cond.methodLink RX4 182 yX4_lightFrom, Cond.instanceMethod yX4_lightFrom, Cond.selects RX4 yX4_lightFrom yX4_lightFrom, Cond.code yX4_lightFrom cX4_lightFrom 6 (some .int), Cond.fieldLink RX4 10 "FacadeShow" "square" "LFacadeShow$Square;", Cond.methodLink RX4 285 yX4_isAimedAt, Cond.instanceMethod yX4_isAimedAt, Cond.selects RX4 yX4_isAimedAt yX4_isAimedAt, Cond.code yX4_isAimedAt cX4_isAimedAt 4 (some .boolean), Cond.fieldLink RX4 30 "FacadeShow" "windNow" "I", Cond.methodLink RX4 291 yX4_isBlocked, Cond.instanceMethod yX4_isBlocked, Cond.selects RX4 yX4_isBlocked yX4_isBlocked, Cond.code yX4_isBlocked cX4_isBlocked 4 (some .boolean), Cond.instanceMethod yX2_reliefOf, Cond.initialized RX2, Cond.selects RX2 yX2_reliefOf yX2_reliefOf, Cond.code yX2_reliefOf cX2_reliefOf 2 (some .int), Cond.fieldLink RX2 9 "FacadeShow$Square" "reliefs" "[I", Cond.methodLink RX4 178 yX4_crossing, Cond.instanceMethod yX4_crossing, Cond.selects RX4 yX4_crossing yX4_crossing, Cond.code yX4_crossing cX4_crossing 8 (some .int), Cond.instanceMethod yX2_stopsRays]
def wsL_blended_r3 : List Cond := [Cond.selects RX2 yX2_stopsRays yX2_stopsRays, Cond.code yX2_stopsRays cX2_stopsRays 4 (some .boolean), Cond.methodLink RX2 29 yX2_contentOf, Cond.instanceMethod yX2_contentOf, Cond.selects RX2 yX2_contentOf yX2_contentOf, Cond.code yX2_contentOf cX2_contentOf 3 (some .int), Cond.fieldLink RX2 18 "FacadeShow$Square" "contents" "[I", Cond.methodLink RX2 25 yX2_isCell, Cond.static yX2_isCell, Cond.code yX2_isCell cX2_isCell 2 (some .boolean), Cond.methodLink RX2 33 yX2_reliefOf, Cond.instanceMethod yX2_hundredthsOf, Cond.selects RX2 yX2_hundredthsOf yX2_hundredthsOf, Cond.code yX2_hundredthsOf cX2_hundredthsOf 3 (some .int), Cond.fieldLink RX2 15 "FacadeShow$Square" "surfaces" "[I", Cond.methodLink RX4 190 yX4_lightOf, Cond.instanceMethod yX4_lightOf, Cond.selects RX4 yX4_lightOf yX4_lightOf, Cond.code yX4_lightOf cX4_lightOf 5 (some .int)]
def wsL_blended : List Cond := .codeWith yL_blended cL_blended 5 (some .int) [(0, 10, 13, 13)] :: ((wsL_blended_r1 ++ (wsL_blended_r2 ++ wsL_blended_r3)) ++ wsX40 ++ wsX00 ++ wsX20 ++ (vx_atS RX4 83 "java/lang/IndexOutOfBoundsException" ["java/lang/RuntimeException", "java/lang/Exception"]).filter goodWord)
def wsL_covered_r1 : List Cond := [Cond.classLink RL 15 "java/lang/IllegalArgumentException", Cond.methodLink RL 65 yX4_covered, Cond.instanceMethod yX4_covered, Cond.selects RX4 yX4_covered yX4_covered, Cond.initialized RX4, Cond.code yX4_covered cX4_covered 4 (some .int), Cond.classLink RX4 86 "java/lang/IllegalArgumentException", Cond.initialized "java/lang/IllegalArgumentException", Cond.fieldLink RX4 42 "FacadeShow" "survey" "LFacadeShow$Survey;", Cond.fieldLink RX4 36 "FacadeShow" "levelNow" "I", Cond.methodLink RX4 197 yX4_isSetOfProjectors, Cond.instanceMethod yX4_isSetOfProjectors, Cond.selects RX4 yX4_isSetOfProjectors yX4_isSetOfProjectors, Cond.code yX4_isSetOfProjectors cX4_isSetOfProjectors 2 (some .boolean), Cond.fieldLink RX4 22 "FacadeShow" "projectorCount" "I", Cond.methodLink RX4 202 yX4_surveyLights, Cond.instanceMethod yX4_surveyLights, Cond.selects RX4 yX4_surveyLights yX4_surveyLights, Cond.code yX4_surveyLights cX4_surveyLights 4 none, Cond.methodLink RX4 137 yX4_find, Cond.instanceMethod yX4_find, Cond.selects RX4 yX4_find yX4_find, Cond.code yX4_find cX4_find 2 (some (.object "FacadeShow$Projector")), Cond.fieldLink RX4 18 "FacadeShow" "placed" "[LFacadeShow$Projector;"]
def wsL_covered_r2 : List Cond := [Cond.instanceMethod yX3_note, Cond.initialized RX3, Cond.selects RX3 yX3_note yX3_note, Cond.code yX3_note cX3_note 7 none, Cond.fieldLink RX3 9 "FacadeShow$Survey" "lights" "[I", Cond.fieldLink RX3 15 "FacadeShow$Survey" "blurring" "[I", Cond.methodLink RX3 22 yX3_isPlace, Cond.static yX3_isPlace, Cond.code yX3_isPlace cX3_isPlace 2 (some .boolean), Cond.static yX4_isColumn, Cond.code yX4_isColumn cX4_isColumn 1 (some .boolean), Cond.methodLink RX4 182 yX4_lightFrom, Cond.instanceMethod yX4_lightFrom, Cond.selects RX4 yX4_lightFrom yX4_lightFrom, Cond.code yX4_lightFrom cX4_lightFrom 6 (some .int), Cond.fieldLink RX4 10 "FacadeShow" "square" "LFacadeShow$Square;", Cond.methodLink RX4 285 yX4_isAimedAt, Cond.instanceMethod yX4_isAimedAt, Cond.selects RX4 yX4_isAimedAt yX4_isAimedAt, Cond.code yX4_isAimedAt cX4_isAimedAt 4 (some .boolean), Cond.fieldLink RX4 30 "FacadeShow" "windNow" "I", Cond.methodLink RX4 291 yX4_isBlocked, Cond.instanceMethod yX4_isBlocked, Cond.selects RX4 yX4_isBlocked yX4_isBlocked]
def wsL_covered_r3 : List Cond := [Cond.code yX4_isBlocked cX4_isBlocked 4 (some .boolean), Cond.instanceMethod yX2_reliefOf, Cond.initialized RX2, Cond.selects RX2 yX2_reliefOf yX2_reliefOf, Cond.code yX2_reliefOf cX2_reliefOf 2 (some .int), Cond.fieldLink RX2 9 "FacadeShow$Square" "reliefs" "[I", Cond.methodLink RX4 178 yX4_crossing, Cond.instanceMethod yX4_crossing, Cond.selects RX4 yX4_crossing yX4_crossing, Cond.code yX4_crossing cX4_crossing 8 (some .int), Cond.instanceMethod yX2_stopsRays, Cond.selects RX2 yX2_stopsRays yX2_stopsRays, Cond.code yX2_stopsRays cX2_stopsRays 4 (some .boolean), Cond.methodLink RX2 29 yX2_contentOf, Cond.instanceMethod yX2_contentOf, Cond.selects RX2 yX2_contentOf yX2_contentOf, Cond.code yX2_contentOf cX2_contentOf 3 (some .int), Cond.fieldLink RX2 18 "FacadeShow$Square" "contents" "[I", Cond.methodLink RX2 25 yX2_isCell, Cond.static yX2_isCell, Cond.code yX2_isCell cX2_isCell 2 (some .boolean), Cond.methodLink RX2 33 yX2_reliefOf, Cond.instanceMethod yX2_hundredthsOf, Cond.selects RX2 yX2_hundredthsOf yX2_hundredthsOf]
def wsL_covered_r4 : List Cond := [Cond.code yX2_hundredthsOf cX2_hundredthsOf 3 (some .int), Cond.fieldLink RX2 15 "FacadeShow$Square" "surfaces" "[I", Cond.methodLink RX4 186 yX4_isInFocus, Cond.instanceMethod yX4_isInFocus, Cond.selects RX4 yX4_isInFocus yX4_isInFocus, Cond.code yX4_isInFocus cX4_isInFocus 4 (some .boolean), Cond.instanceMethod yX3_isWellCovered, Cond.selects RX3 yX3_isWellCovered yX3_isWellCovered, Cond.code yX3_isWellCovered cX3_isWellCovered 6 (some .boolean)]
def wsL_covered : List Cond := .codeWith yL_covered cL_covered 4 (some .int) [(0, 9, 12, 15)] :: ((wsL_covered_r1 ++ (wsL_covered_r2 ++ (wsL_covered_r3 ++ wsL_covered_r4))) ++ wsX40 ++ wsX00 ++ wsX30 ++ wsX20 ++ (vx_atS RX4 90 "java/lang/IllegalArgumentException" ["java/lang/RuntimeException", "java/lang/Exception"]).filter goodWord)
def wsL_bears_r1 : List Cond := [Cond.classLink RL 15 "java/lang/IllegalArgumentException", Cond.methodLink RL 68 yX4_bears, Cond.instanceMethod yX4_bears, Cond.selects RX4 yX4_bears yX4_bears, Cond.initialized RX4, Cond.code yX4_bears cX4_bears 5 (some .boolean), Cond.classLink RX4 86 "java/lang/IllegalArgumentException", Cond.initialized "java/lang/IllegalArgumentException", Cond.fieldLink RX4 42 "FacadeShow" "survey" "LFacadeShow$Survey;", Cond.fieldLink RX4 33 "FacadeShow" "needed" "I", Cond.fieldLink RX4 36 "FacadeShow" "levelNow" "I", Cond.methodLink RX4 197 yX4_isSetOfProjectors, Cond.instanceMethod yX4_isSetOfProjectors, Cond.selects RX4 yX4_isSetOfProjectors yX4_isSetOfProjectors, Cond.code yX4_isSetOfProjectors cX4_isSetOfProjectors 2 (some .boolean), Cond.fieldLink RX4 22 "FacadeShow" "projectorCount" "I", Cond.methodLink RX4 202 yX4_surveyLights, Cond.instanceMethod yX4_surveyLights, Cond.selects RX4 yX4_surveyLights yX4_surveyLights, Cond.code yX4_surveyLights cX4_surveyLights 4 none, Cond.methodLink RX4 137 yX4_find, Cond.instanceMethod yX4_find, Cond.selects RX4 yX4_find yX4_find, Cond.code yX4_find cX4_find 2 (some (.object "FacadeShow$Projector"))]
def wsL_bears_r2 : List Cond := [Cond.fieldLink RX4 18 "FacadeShow" "placed" "[LFacadeShow$Projector;", Cond.instanceMethod yX3_note, Cond.initialized RX3, Cond.selects RX3 yX3_note yX3_note, Cond.code yX3_note cX3_note 7 none, Cond.fieldLink RX3 9 "FacadeShow$Survey" "lights" "[I", Cond.fieldLink RX3 15 "FacadeShow$Survey" "blurring" "[I", Cond.methodLink RX3 22 yX3_isPlace, Cond.static yX3_isPlace, Cond.code yX3_isPlace cX3_isPlace 2 (some .boolean), Cond.static yX4_isColumn, Cond.code yX4_isColumn cX4_isColumn 1 (some .boolean), Cond.methodLink RX4 182 yX4_lightFrom, Cond.instanceMethod yX4_lightFrom, Cond.selects RX4 yX4_lightFrom yX4_lightFrom, Cond.code yX4_lightFrom cX4_lightFrom 6 (some .int), Cond.fieldLink RX4 10 "FacadeShow" "square" "LFacadeShow$Square;", Cond.methodLink RX4 285 yX4_isAimedAt, Cond.instanceMethod yX4_isAimedAt, Cond.selects RX4 yX4_isAimedAt yX4_isAimedAt, Cond.code yX4_isAimedAt cX4_isAimedAt 4 (some .boolean), Cond.fieldLink RX4 30 "FacadeShow" "windNow" "I", Cond.methodLink RX4 291 yX4_isBlocked, Cond.instanceMethod yX4_isBlocked]
def wsL_bears_r3 : List Cond := [Cond.selects RX4 yX4_isBlocked yX4_isBlocked, Cond.code yX4_isBlocked cX4_isBlocked 4 (some .boolean), Cond.instanceMethod yX2_reliefOf, Cond.initialized RX2, Cond.selects RX2 yX2_reliefOf yX2_reliefOf, Cond.code yX2_reliefOf cX2_reliefOf 2 (some .int), Cond.fieldLink RX2 9 "FacadeShow$Square" "reliefs" "[I", Cond.methodLink RX4 178 yX4_crossing, Cond.instanceMethod yX4_crossing, Cond.selects RX4 yX4_crossing yX4_crossing, Cond.code yX4_crossing cX4_crossing 8 (some .int), Cond.instanceMethod yX2_stopsRays, Cond.selects RX2 yX2_stopsRays yX2_stopsRays, Cond.code yX2_stopsRays cX2_stopsRays 4 (some .boolean), Cond.methodLink RX2 29 yX2_contentOf, Cond.instanceMethod yX2_contentOf, Cond.selects RX2 yX2_contentOf yX2_contentOf, Cond.code yX2_contentOf cX2_contentOf 3 (some .int), Cond.fieldLink RX2 18 "FacadeShow$Square" "contents" "[I", Cond.methodLink RX2 25 yX2_isCell, Cond.static yX2_isCell, Cond.code yX2_isCell cX2_isCell 2 (some .boolean), Cond.methodLink RX2 33 yX2_reliefOf, Cond.instanceMethod yX2_hundredthsOf]
def wsL_bears_r4 : List Cond := [Cond.selects RX2 yX2_hundredthsOf yX2_hundredthsOf, Cond.code yX2_hundredthsOf cX2_hundredthsOf 3 (some .int), Cond.fieldLink RX2 15 "FacadeShow$Square" "surfaces" "[I", Cond.methodLink RX4 186 yX4_isInFocus, Cond.instanceMethod yX4_isInFocus, Cond.selects RX4 yX4_isInFocus yX4_isInFocus, Cond.code yX4_isInFocus cX4_isInFocus 4 (some .boolean), Cond.instanceMethod yX3_coversAll, Cond.selects RX3 yX3_coversAll yX3_coversAll, Cond.code yX3_coversAll cX3_coversAll 5 (some .boolean), Cond.methodLink RX3 26 yX3_isWellCovered, Cond.instanceMethod yX3_isWellCovered, Cond.selects RX3 yX3_isWellCovered yX3_isWellCovered, Cond.code yX3_isWellCovered cX3_isWellCovered 6 (some .boolean)]
def wsL_bears : List Cond := .codeWith yL_bears cL_bears 4 (some .int) [(0, 16, 19, 15)] :: ((wsL_bears_r1 ++ (wsL_bears_r2 ++ (wsL_bears_r3 ++ wsL_bears_r4))) ++ wsX40 ++ wsX00 ++ wsX30 ++ wsX20 ++ (vx_atS RX4 90 "java/lang/IllegalArgumentException" ["java/lang/RuntimeException", "java/lang/Exception"]).filter goodWord)
def wsL_curfew : List Cond := .codeWith yL_curfew cL_curfew 4 (some .int) [(0, 6, 9, 15)] :: ([.classLink RL 15 "java/lang/IllegalArgumentException", .methodLink RL 72 yX4_curfew, .instanceMethod yX4_curfew, .selects RX4 yX4_curfew yX4_curfew, .initialized RX4, .code yX4_curfew cX4_curfew 3 none, .classLink RX4 86 "java/lang/IllegalArgumentException", .initialized "java/lang/IllegalArgumentException", .fieldLink RX4 46 "FacadeShow" "curfewFrom" "I", .fieldLink RX4 49 "FacadeShow" "curfewTo" "I"] ++ wsX40 ++ (vx_atS RX4 90 "java/lang/IllegalArgumentException" ["java/lang/RuntimeException", "java/lang/Exception"]).filter goodWord)
def wsL_ready : List Cond := .codeWith yL_ready cL_ready 5 (some .int) [(0, 10, 13, 13), (0, 10, 17, 15)] :: ([.classLink RL 13 "java/lang/IndexOutOfBoundsException", .classLink RL 15 "java/lang/IllegalArgumentException", .methodLink RL 75 yX4_ready, .instanceMethod yX4_ready, .selects RX4 yX4_ready yX4_ready, .initialized RX4, .code yX4_ready cX4_ready 5 (some .int), .classLink RX4 79 "java/lang/IndexOutOfBoundsException", .initialized "java/lang/IndexOutOfBoundsException", .classLink RX4 86 "java/lang/IllegalArgumentException", .initialized "java/lang/IllegalArgumentException", .constant RX4 173 (99999), .methodLink RX4 137 yX4_find, .instanceMethod yX4_find, .selects RX4 yX4_find yX4_find, .code yX4_find cX4_find 2 (some (.object "FacadeShow$Projector")), .fieldLink RX4 22 "FacadeShow" "projectorCount" "I", .fieldLink RX4 18 "FacadeShow" "placed" "[LFacadeShow$Projector;"] ++ wsX00 ++ wsX40 ++ (vx_atS RX4 83 "java/lang/IndexOutOfBoundsException" ["java/lang/RuntimeException", "java/lang/Exception"]).filter goodWord ++ (vx_atS RX4 90 "java/lang/IllegalArgumentException" ["java/lang/RuntimeException", "java/lang/Exception"]).filter goodWord)
def wsL_propose : List Cond := .codeWith yL_propose cL_propose 5 (some .int) [(0, 10, 13, 13), (0, 10, 17, 15)] :: ([.classLink RL 13 "java/lang/IndexOutOfBoundsException", .classLink RL 15 "java/lang/IllegalArgumentException", .methodLink RL 78 yX4_propose, .instanceMethod yX4_propose, .selects RX4 yX4_propose yX4_propose, .initialized RX4, .code yX4_propose cX4_propose 5 (some .int), .classLink RX4 79 "java/lang/IndexOutOfBoundsException", .initialized "java/lang/IndexOutOfBoundsException", .classLink RX4 86 "java/lang/IllegalArgumentException", .initialized "java/lang/IllegalArgumentException", .methodLink RX4 234 yX4_findScene, .instanceMethod yX4_findScene, .selects RX4 yX4_findScene yX4_findScene, .code yX4_findScene cX4_findScene 2 (some (.object "FacadeShow$Scene")), .fieldLink RX4 55 "FacadeShow" "scenes" "[LFacadeShow$Scene;"] ++ wsX10 ++ wsX40 ++ (vx_atS RX4 83 "java/lang/IndexOutOfBoundsException" ["java/lang/RuntimeException", "java/lang/Exception"]).filter goodWord ++ (vx_atS RX4 90 "java/lang/IllegalArgumentException" ["java/lang/RuntimeException", "java/lang/Exception"]).filter goodWord)
def wsL_answer : List Cond := .codeWith yL_answer cL_answer 5 (some .int) [(0, 10, 13, 13), (0, 10, 17, 21)] :: ([.classLink RL 13 "java/lang/IndexOutOfBoundsException", .classLink RL 21 "java/lang/IllegalStateException", .methodLink RL 81 yX4_answer, .instanceMethod yX4_answer, .selects RX4 yX4_answer yX4_answer, .initialized RX4, .code yX4_answer cX4_answer 4 (some .int), .classLink RX4 79 "java/lang/IndexOutOfBoundsException", .initialized "java/lang/IndexOutOfBoundsException", .classLink RX4 108 "java/lang/IllegalStateException", .initialized "java/lang/IllegalStateException", .methodLink RX4 234 yX4_findScene, .instanceMethod yX4_findScene, .selects RX4 yX4_findScene yX4_findScene, .code yX4_findScene cX4_findScene 2 (some (.object "FacadeShow$Scene")), .fieldLink RX4 55 "FacadeShow" "scenes" "[LFacadeShow$Scene;"] ++ wsX10 ++ wsX40 ++ (vx_atS RX4 83 "java/lang/IndexOutOfBoundsException" ["java/lang/RuntimeException", "java/lang/Exception"]).filter goodWord ++ (vx_atS RX4 112 "java/lang/IllegalStateException" ["java/lang/RuntimeException", "java/lang/Exception"]).filter goodWord)
def wsL_scene : List Cond := .codeWith yL_scene cL_scene 5 (some .int) [(0, 10, 13, 13)] :: ([.classLink RL 13 "java/lang/IndexOutOfBoundsException", .methodLink RL 85 yX4_scene, .instanceMethod yX4_scene, .selects RX4 yX4_scene yX4_scene, .initialized RX4, .code yX4_scene cX4_scene 4 (some .int), .classLink RX4 79 "java/lang/IndexOutOfBoundsException", .initialized "java/lang/IndexOutOfBoundsException", .methodLink RX4 234 yX4_findScene, .instanceMethod yX4_findScene, .selects RX4 yX4_findScene yX4_findScene, .code yX4_findScene cX4_findScene 2 (some (.object "FacadeShow$Scene")), .fieldLink RX4 55 "FacadeShow" "scenes" "[LFacadeShow$Scene;"] ++ wsX10 ++ wsX40 ++ (vx_atS RX4 83 "java/lang/IndexOutOfBoundsException" ["java/lang/RuntimeException", "java/lang/Exception"]).filter goodWord)
def wsL_show : List Cond := .codeWith yL_show cL_show 4 (some .int) [(0, 8, 11, 15)] :: ([.classLink RL 15 "java/lang/IllegalArgumentException", .methodLink RL 88 yX4_show, .instanceMethod yX4_show, .selects RX4 yX4_show yX4_show, .initialized RX4, .code yX4_show cX4_show 2 (some .long), .classLink RX4 86 "java/lang/IllegalArgumentException", .initialized "java/lang/IllegalArgumentException", .fieldLink RX4 59 "FacadeShow" "frameNow" "I", .fieldLink RX4 62 "FacadeShow" "heldCount" "I", .fieldLink RX4 65 "FacadeShow" "breachCount" "J", .fieldLink RX4 69 "FacadeShow" "energy" "J", .fieldLink RX4 72 "FacadeShow" "minuteNow" "I", .methodLink RX4 250 yX4_countOfOn, .instanceMethod yX4_countOfOn, .selects RX4 yX4_countOfOn yX4_countOfOn, .code yX4_countOfOn cX4_countOfOn 4 (some .int), .methodLink RX4 137 yX4_find, .instanceMethod yX4_find, .selects RX4 yX4_find yX4_find, .code yX4_find cX4_find 2 (some (.object "FacadeShow$Projector")), .fieldLink RX4 22 "FacadeShow" "projectorCount" "I", .fieldLink RX4 18 "FacadeShow" "placed" "[LFacadeShow$Projector;"] ++ wsX40 ++ wsX00 ++ (vx_atS RX4 90 "java/lang/IllegalArgumentException" ["java/lang/RuntimeException", "java/lang/Exception"]).filter goodWord)
def wsL_pass_r1 : List Cond := [Cond.classLink RL 15 "java/lang/IllegalArgumentException", Cond.classLink RL 21 "java/lang/IllegalStateException", Cond.methodLink RL 92 yX4_pass, Cond.instanceMethod yX4_pass, Cond.selects RX4 yX4_pass yX4_pass, Cond.initialized RX4, Cond.code yX4_pass cX4_pass 7 (some .int), Cond.classLink RX4 86 "java/lang/IllegalArgumentException", Cond.initialized "java/lang/IllegalArgumentException", Cond.classLink RX4 108 "java/lang/IllegalStateException", Cond.initialized "java/lang/IllegalStateException", Cond.constant RX4 173 (99999), Cond.fieldLink RX4 72 "FacadeShow" "minuteNow" "I", Cond.fieldLink RX4 65 "FacadeShow" "breachCount" "J", Cond.fieldLink RX4 69 "FacadeShow" "energy" "J", Cond.fieldLink RX4 59 "FacadeShow" "frameNow" "I", Cond.fieldLink RX4 62 "FacadeShow" "heldCount" "I", Cond.methodLink RX4 257 yX4_breaches, Cond.instanceMethod yX4_breaches, Cond.selects RX4 yX4_breaches yX4_breaches, Cond.code yX4_breaches cX4_breaches 4 (some .int), Cond.methodLink RX4 137 yX4_find, Cond.instanceMethod yX4_find, Cond.selects RX4 yX4_find yX4_find]
def wsL_pass_r2 : List Cond := [Cond.code yX4_find cX4_find 2 (some (.object "FacadeShow$Projector")), Cond.fieldLink RX4 22 "FacadeShow" "projectorCount" "I", Cond.fieldLink RX4 18 "FacadeShow" "placed" "[LFacadeShow$Projector;", Cond.instanceMethod yX0_shines, Cond.initialized RX0, Cond.selects RX0 yX0_shines yX0_shines, Cond.code yX0_shines cX0_shines 1 (some .boolean), Cond.fieldLink RX0 33 "FacadeShow$Projector" "isOn" "Z", Cond.fieldLink RX0 37 "FacadeShow$Projector" "hasFailed" "Z", Cond.methodLink RX4 221 yX4_breachesBy, Cond.instanceMethod yX4_breachesBy, Cond.selects RX4 yX4_breachesBy yX4_breachesBy, Cond.code yX4_breachesBy cX4_breachesBy 4 (some .int), Cond.methodLink RX4 285 yX4_isAimedAt, Cond.instanceMethod yX4_isAimedAt, Cond.selects RX4 yX4_isAimedAt yX4_isAimedAt, Cond.code yX4_isAimedAt cX4_isAimedAt 4 (some .boolean), Cond.fieldLink RX4 30 "FacadeShow" "windNow" "I", Cond.methodLink RX4 288 yX4_meetsTheLiving, Cond.instanceMethod yX4_meetsTheLiving, Cond.selects RX4 yX4_meetsTheLiving yX4_meetsTheLiving, Cond.code yX4_meetsTheLiving cX4_meetsTheLiving 4 (some .boolean), Cond.fieldLink RX4 10 "FacadeShow" "square" "LFacadeShow$Square;", Cond.methodLink RX4 178 yX4_crossing]
def wsL_pass_r3 : List Cond := [Cond.instanceMethod yX4_crossing, Cond.selects RX4 yX4_crossing yX4_crossing, Cond.code yX4_crossing cX4_crossing 8 (some .int), Cond.instanceMethod yX2_reliefOf, Cond.initialized RX2, Cond.selects RX2 yX2_reliefOf yX2_reliefOf, Cond.code yX2_reliefOf cX2_reliefOf 2 (some .int), Cond.fieldLink RX2 9 "FacadeShow$Square" "reliefs" "[I", Cond.static yX4_isColumn, Cond.code yX4_isColumn cX4_isColumn 1 (some .boolean), Cond.instanceMethod yX2_hasTheLiving, Cond.selects RX2 yX2_hasTheLiving yX2_hasTheLiving, Cond.code yX2_hasTheLiving cX2_hasTheLiving 4 (some .boolean), Cond.methodLink RX2 29 yX2_contentOf, Cond.instanceMethod yX2_contentOf, Cond.selects RX2 yX2_contentOf yX2_contentOf, Cond.code yX2_contentOf cX2_contentOf 3 (some .int), Cond.fieldLink RX2 18 "FacadeShow$Square" "contents" "[I", Cond.methodLink RX2 25 yX2_isCell, Cond.static yX2_isCell, Cond.code yX2_isCell cX2_isCell 2 (some .boolean), Cond.methodLink RX4 291 yX4_isBlocked, Cond.instanceMethod yX4_isBlocked, Cond.selects RX4 yX4_isBlocked yX4_isBlocked]
def wsL_pass_r4 : List Cond := [Cond.code yX4_isBlocked cX4_isBlocked 4 (some .boolean), Cond.instanceMethod yX2_stopsRays, Cond.selects RX2 yX2_stopsRays yX2_stopsRays, Cond.code yX2_stopsRays cX2_stopsRays 4 (some .boolean), Cond.methodLink RX2 33 yX2_reliefOf, Cond.methodLink RX4 250 yX4_countOfOn, Cond.instanceMethod yX4_countOfOn, Cond.selects RX4 yX4_countOfOn yX4_countOfOn, Cond.code yX4_countOfOn cX4_countOfOn 4 (some .int), Cond.methodLink RX4 260 yX4_powerOfOn, Cond.instanceMethod yX4_powerOfOn, Cond.selects RX4 yX4_powerOfOn yX4_powerOfOn, Cond.code yX4_powerOfOn cX4_powerOfOn 1 (some .int), Cond.methodLink RX4 158 yX4_loadOf, Cond.instanceMethod yX4_loadOf, Cond.selects RX4 yX4_loadOf yX4_loadOf, Cond.code yX4_loadOf cX4_loadOf 5 (some .int), Cond.methodLink RX4 263 yX4_lastFrameOfAll, Cond.instanceMethod yX4_lastFrameOfAll, Cond.selects RX4 yX4_lastFrameOfAll yX4_lastFrameOfAll, Cond.code yX4_lastFrameOfAll cX4_lastFrameOfAll 4 (some .int), Cond.methodLink RX4 266 yX4_isCurfewNow, Cond.instanceMethod yX4_isCurfewNow, Cond.selects RX4 yX4_isCurfewNow yX4_isCurfewNow]
def wsL_pass_r5 : List Cond := [Cond.code yX4_isCurfewNow cX4_isCurfewNow 2 (some .boolean), Cond.fieldLink RX4 46 "FacadeShow" "curfewFrom" "I", Cond.fieldLink RX4 49 "FacadeShow" "curfewTo" "I"]
def wsL_pass : List Cond := .codeWith yL_pass cL_pass 4 (some .int) [(0, 9, 12, 15), (0, 9, 15, 21)] :: ((wsL_pass_r1 ++ (wsL_pass_r2 ++ (wsL_pass_r3 ++ (wsL_pass_r4 ++ wsL_pass_r5)))) ++ wsX40 ++ wsX00 ++ wsX20 ++ (vx_atS RX4 90 "java/lang/IllegalArgumentException" ["java/lang/RuntimeException", "java/lang/Exception"]).filter goodWord ++ (vx_atS RX4 112 "java/lang/IllegalStateException" ["java/lang/RuntimeException", "java/lang/Exception"]).filter goodWord)
def wsL_law0_r1 : List Cond := [Cond.classLink RL 8 RX4, Cond.instantiable RX4 16, Cond.initialized RX4, Cond.classLink RL 96 RX5, Cond.instantiable RX5 30, Cond.initialized RX5, Cond.arrayClass .long, Cond.methodLink RL 95 yX4_init, Cond.instanceMethod yX4_init, Cond.code yX4_init cX4_init 1 none, Cond.methodLink RX4 1 objectInit, Cond.instanceMethod objectInit, Cond.code objectInit ⟨#[0xb1]⟩ 1 none, Cond.classLink RX4 7 RX2, Cond.instantiable RX2 3, Cond.initialized RX2, Cond.fieldLink RX4 10 "FacadeShow" "square" "LFacadeShow$Square;", Cond.classLink RX4 16 RX0, Cond.fieldLink RX4 18 "FacadeShow" "placed" "[LFacadeShow$Projector;", Cond.fieldLink RX4 22 "FacadeShow" "projectorCount" "I", Cond.arrayClass .int, Cond.fieldLink RX4 26 "FacadeShow" "borne" "[I", Cond.fieldLink RX4 30 "FacadeShow" "windNow" "I", Cond.fieldLink RX4 33 "FacadeShow" "needed" "I"]
def wsL_law0_r2 : List Cond := [Cond.fieldLink RX4 36 "FacadeShow" "levelNow" "I", Cond.classLink RX4 39 RX3, Cond.instantiable RX3 2, Cond.initialized RX3, Cond.fieldLink RX4 42 "FacadeShow" "survey" "LFacadeShow$Survey;", Cond.fieldLink RX4 46 "FacadeShow" "curfewFrom" "I", Cond.fieldLink RX4 49 "FacadeShow" "curfewTo" "I", Cond.classLink RX4 52 RX1, Cond.instantiable RX1 2, Cond.initialized RX1, Cond.fieldLink RX4 55 "FacadeShow" "scenes" "[LFacadeShow$Scene;", Cond.fieldLink RX4 59 "FacadeShow" "frameNow" "I", Cond.fieldLink RX4 62 "FacadeShow" "heldCount" "I", Cond.fieldLink RX4 65 "FacadeShow" "breachCount" "J", Cond.fieldLink RX4 69 "FacadeShow" "energy" "J", Cond.fieldLink RX4 72 "FacadeShow" "minuteNow" "I", Cond.instanceMethod yX2_init, Cond.code yX2_init cX2_init 1 none, Cond.methodLink RX2 3 objectInit, Cond.fieldLink RX2 9 "FacadeShow$Square" "reliefs" "[I", Cond.fieldLink RX2 15 "FacadeShow$Square" "surfaces" "[I", Cond.fieldLink RX2 18 "FacadeShow$Square" "contents" "[I", Cond.instanceMethod yX3_init, Cond.code yX3_init cX3_init 1 none]
def wsL_law0_r3 : List Cond := [Cond.methodLink RX3 3 objectInit, Cond.fieldLink RX3 9 "FacadeShow$Survey" "lights" "[I", Cond.fieldLink RX3 15 "FacadeShow$Survey" "blurring" "[I", Cond.instanceMethod yX1_init, Cond.code yX1_init cX1_init 1 none, Cond.methodLink RX1 3 objectInit, Cond.fieldLink RX1 9 "FacadeShow$Scene" "version" "I", Cond.fieldLink RX1 15 "FacadeShow$Scene" "proposed" "I", Cond.methodLink RL 98 yX5_init, Cond.instanceMethod yX5_init, Cond.code yX5_init cX5_init 1 none, Cond.methodLink RX5 1 objectInit, Cond.fieldLink RX5 7 "FacadeShowModel" "relief" "[I", Cond.fieldLink RX5 13 "FacadeShowModel" "surface" "[I", Cond.fieldLink RX5 16 "FacadeShowModel" "back" "[I", Cond.fieldLink RX5 19 "FacadeShowModel" "cells" "[I", Cond.arrayClass .boolean, Cond.fieldLink RX5 22 "FacadeShowModel" "hasMast" "[Z", Cond.fieldLink RX5 26 "FacadeShowModel" "level" "I", Cond.fieldLink RX5 30 "FacadeShowModel" "column" "[I", Cond.fieldLink RX5 33 "FacadeShowModel" "row" "[I", Cond.fieldLink RX5 36 "FacadeShowModel" "power" "[I", Cond.fieldLink RX5 39 "FacadeShowModel" "phase" "[I", Cond.fieldLink RX5 42 "FacadeShowModel" "focus" "[I"]
def wsL_law0_r4 : List Cond := [Cond.fieldLink RX5 45 "FacadeShowModel" "first" "[I", Cond.fieldLink RX5 48 "FacadeShowModel" "last" "[I", Cond.fieldLink RX5 51 "FacadeShowModel" "isOn" "[Z", Cond.fieldLink RX5 54 "FacadeShowModel" "hasFailed" "[Z", Cond.fieldLink RX5 57 "FacadeShowModel" "ready" "[I", Cond.fieldLink RX5 60 "FacadeShowModel" "bears" "[I", Cond.fieldLink RX5 63 "FacadeShowModel" "version" "[I", Cond.fieldLink RX5 66 "FacadeShowModel" "proposed" "[I", Cond.methodLink RL 99 yL_column, Cond.static yL_column, Cond.initialized RL, Cond.codeWith yL_column cL_column 5 (some .int) [(0, 7, 10, 13), (0, 7, 14, 15)], Cond.classLink RL 13 "java/lang/IndexOutOfBoundsException", Cond.classLink RL 15 "java/lang/IllegalArgumentException", Cond.methodLink RL 7 yX4_column, Cond.instanceMethod yX4_column, Cond.selects RX4 yX4_column yX4_column, Cond.code yX4_column cX4_column 4 none, Cond.classLink RX4 79 "java/lang/IndexOutOfBoundsException", Cond.initialized "java/lang/IndexOutOfBoundsException", Cond.classLink RX4 86 "java/lang/IllegalArgumentException", Cond.initialized "java/lang/IllegalArgumentException", Cond.methodLink RX4 75 yX4_isColumn, Cond.static yX4_isColumn]
def wsL_law0_r5 : List Cond := [Cond.code yX4_isColumn cX4_isColumn 1 (some .boolean), Cond.instanceMethod yX2_build, Cond.selects RX2 yX2_build yX2_build, Cond.code yX2_build cX2_build 4 none, Cond.methodLink RL 104 yX5_column, Cond.instanceMethod yX5_column, Cond.selects RX5 yX5_column yX5_column, Cond.code yX5_column cX5_column 5 none, Cond.methodLink RX5 76 yX5_isColumn, Cond.static yX5_isColumn, Cond.code yX5_isColumn cX5_isColumn 1 (some .boolean), Cond.methodLink RX5 72 yX5_in, Cond.static yX5_in, Cond.code yX5_in cX5_in 3 (some .boolean), Cond.methodLink RX5 83 yX5_goesWell, Cond.instanceMethod yX5_goesWell, Cond.selects RX5 yX5_goesWell yX5_goesWell, Cond.code yX5_goesWell cX5_goesWell 2 (some .boolean), Cond.fieldLink RX5 69 "FacadeShowModel" "thrown" "I", Cond.methodLink RL 105 yX5_thrown, Cond.instanceMethod yX5_thrown, Cond.selects RX5 yX5_thrown yX5_thrown, Cond.code yX5_thrown cX5_thrown 1 (some .int), Cond.methodLink RL 109 yL_cell]
def wsL_law0_r6 : List Cond := [Cond.static yL_cell, Cond.codeWith yL_cell cL_cell 6 (some .int) [(0, 12, 15, 13), (0, 12, 19, 15), (0, 12, 23, 21)], Cond.classLink RL 21 "java/lang/IllegalStateException", Cond.methodLink RL 17 yX4_cell, Cond.instanceMethod yX4_cell, Cond.selects RX4 yX4_cell yX4_cell, Cond.code yX4_cell cX4_cell 5 (some .int), Cond.classLink RX4 108 "java/lang/IllegalStateException", Cond.initialized "java/lang/IllegalStateException", Cond.methodLink RX4 97 yX4_isOpenRow, Cond.static yX4_isOpenRow, Cond.code yX4_isOpenRow cX4_isOpenRow 1 (some .boolean), Cond.instanceMethod yX2_contentOf, Cond.selects RX2 yX2_contentOf yX2_contentOf, Cond.code yX2_contentOf cX2_contentOf 3 (some .int), Cond.methodLink RX2 25 yX2_isCell, Cond.static yX2_isCell, Cond.code yX2_isCell cX2_isCell 2 (some .boolean), Cond.instanceMethod yX2_put, Cond.selects RX2 yX2_put yX2_put, Cond.code yX2_put cX2_put 4 none, Cond.methodLink RL 112 yX5_cell, Cond.instanceMethod yX5_cell, Cond.selects RX5 yX5_cell yX5_cell]
def wsL_law0_r7 : List Cond := [Cond.code yX5_cell cX5_cell 6 (some .int), Cond.methodLink RX5 86 yX5_isCell, Cond.static yX5_isCell, Cond.code yX5_isCell cX5_isCell 2 (some .boolean), Cond.methodLink RX5 90 yX5_at, Cond.static yX5_at, Cond.code yX5_at cX5_at 2 (some .int), Cond.methodLink RL 113 yL_need, Cond.static yL_need, Cond.codeWith yL_need cL_need 4 (some .int) [(0, 6, 9, 15)], Cond.methodLink RL 23 yX4_need, Cond.instanceMethod yX4_need, Cond.selects RX4 yX4_need yX4_need, Cond.code yX4_need cX4_need 3 none, Cond.constant RX4 116 (65535), Cond.methodLink RL 116 yX5_need, Cond.instanceMethod yX5_need, Cond.selects RX5 yX5_need yX5_need, Cond.code yX5_need cX5_need 3 none, Cond.constant RX5 94 (65535), Cond.fieldLink RX5 95 "FacadeShowModel" "needed" "I", Cond.methodLink RL 117 yL_projector, Cond.static yL_projector, Cond.codeWith yL_projector cL_projector 8 (some .int) [(0, 16, 19, 13), (0, 16, 23, 15), (0, 16, 27, 21)]]
def wsL_law0_r8 : List Cond := [Cond.methodLink RL 27 yX4_projector, Cond.instanceMethod yX4_projector, Cond.selects RX4 yX4_projector yX4_projector, Cond.code yX4_projector cX4_projector 7 (some .int), Cond.instantiable RX0 10, Cond.initialized RX0, Cond.methodLink RX4 123 yX4_isPhase, Cond.static yX4_isPhase, Cond.code yX4_isPhase cX4_isPhase 1 (some .boolean), Cond.instanceMethod yX0_init, Cond.code yX0_init cX0_init 6 none, Cond.methodLink RX0 3 objectInit, Cond.fieldLink RX0 9 "FacadeShow$Projector" "column" "I", Cond.fieldLink RX0 15 "FacadeShow$Projector" "row" "I", Cond.fieldLink RX0 18 "FacadeShow$Projector" "power" "I", Cond.fieldLink RX0 21 "FacadeShow$Projector" "phase" "I", Cond.fieldLink RX0 24 "FacadeShow$Projector" "focus" "I", Cond.fieldLink RX0 27 "FacadeShow$Projector" "from" "I", Cond.fieldLink RX0 30 "FacadeShow$Projector" "to" "I", Cond.methodLink RL 120 yX5_projector, Cond.instanceMethod yX5_projector, Cond.selects RX5 yX5_projector yX5_projector, Cond.code yX5_projector cX5_projector 9 (some .int), Cond.fieldLink RX5 80 "FacadeShowModel" "projectors" "I"]
def wsL_law0_r9 : List Cond := [Cond.methodLink RL 121 yL_aim, Cond.static yL_aim, Cond.codeWith yL_aim cL_aim 5 (some .int) [(0, 7, 10, 13), (0, 7, 14, 15)], Cond.methodLink RL 31 yX4_aim, Cond.instanceMethod yX4_aim, Cond.selects RX4 yX4_aim yX4_aim, Cond.code yX4_aim cX4_aim 5 none, Cond.methodLink RX4 137 yX4_find, Cond.instanceMethod yX4_find, Cond.selects RX4 yX4_find yX4_find, Cond.code yX4_find cX4_find 2 (some (.object "FacadeShow$Projector")), Cond.methodLink RL 123 yX5_aim, Cond.instanceMethod yX5_aim, Cond.selects RX5 yX5_aim yX5_aim, Cond.code yX5_aim cX5_aim 5 none, Cond.methodLink RX5 98 yX5_isProjector, Cond.instanceMethod yX5_isProjector, Cond.selects RX5 yX5_isProjector yX5_isProjector, Cond.code yX5_isProjector cX5_isProjector 2 (some .boolean), Cond.methodLink RL 124 yL_turn, Cond.static yL_turn, Cond.codeWith yL_turn cL_turn 5 (some .int) [(0, 17, 20, 13), (0, 17, 24, 21)], Cond.methodLink RL 34 yX4_turn, Cond.instanceMethod yX4_turn]
def wsL_law0_r10 : List Cond := [Cond.selects RX4 yX4_turn yX4_turn, Cond.code yX4_turn cX4_turn 5 (some .boolean), Cond.methodLink RX4 158 yX4_loadOf, Cond.instanceMethod yX4_loadOf, Cond.selects RX4 yX4_loadOf yX4_loadOf, Cond.code yX4_loadOf cX4_loadOf 5 (some .int), Cond.methodLink RX4 165 yX4_borneBy, Cond.instanceMethod yX4_borneBy, Cond.selects RX4 yX4_borneBy yX4_borneBy, Cond.code yX4_borneBy cX4_borneBy 2 (some .int), Cond.methodLink RL 127 yX5_turn, Cond.instanceMethod yX5_turn, Cond.selects RX5 yX5_turn yX5_turn, Cond.code yX5_turn cX5_turn 6 (some .boolean), Cond.methodLink RX5 101 yX5_borne, Cond.instanceMethod yX5_borne, Cond.selects RX5 yX5_borne yX5_borne, Cond.code yX5_borne cX5_borne 4 (some .int), Cond.methodLink RL 128 yL_fail, Cond.static yL_fail, Cond.codeWith yL_fail cL_fail 5 (some .int) [(0, 17, 20, 13)], Cond.methodLink RL 38 yX4_fail, Cond.instanceMethod yX4_fail, Cond.selects RX4 yX4_fail yX4_fail]
def wsL_law0_r11 : List Cond := [Cond.code yX4_fail cX4_fail 5 (some .boolean), Cond.methodLink RL 130 yX5_fail, Cond.instanceMethod yX5_fail, Cond.selects RX5 yX5_fail yX5_fail, Cond.code yX5_fail cX5_fail 4 (some .boolean), Cond.methodLink RL 131 yL_phase, Cond.static yL_phase, Cond.codeWith yL_phase cL_phase 5 (some .int) [(0, 10, 13, 15)], Cond.methodLink RL 41 yX4_phase, Cond.instanceMethod yX4_phase, Cond.selects RX4 yX4_phase yX4_phase, Cond.code yX4_phase cX4_phase 4 (some .int), Cond.constant RX4 173 (99999), Cond.methodLink RL 134 yX5_phase, Cond.instanceMethod yX5_phase, Cond.selects RX5 yX5_phase yX5_phase, Cond.code yX5_phase cX5_phase 4 (some .int), Cond.constant RX5 105 (99999), Cond.methodLink RL 135 yL_wind, Cond.static yL_wind, Cond.codeWith yL_wind cL_wind 4 (some .int) [(0, 9, 12, 15)], Cond.methodLink RL 45 yX4_wind, Cond.instanceMethod yX4_wind, Cond.selects RX4 yX4_wind yX4_wind]
def wsL_law0_r12 : List Cond := [Cond.code yX4_wind cX4_wind 3 (some .int), Cond.methodLink RL 138 yX5_wind, Cond.instanceMethod yX5_wind, Cond.selects RX5 yX5_wind yX5_wind, Cond.code yX5_wind cX5_wind 3 (some .int), Cond.fieldLink RX5 106 "FacadeShowModel" "wind" "I", Cond.methodLink RL 139 yL_through, Cond.static yL_through, Cond.codeWith yL_through cL_through 6 (some .int) [(0, 12, 15, 13)], Cond.methodLink RL 49 yX4_through, Cond.instanceMethod yX4_through, Cond.selects RX4 yX4_through yX4_through, Cond.code yX4_through cX4_through 5 (some .int), Cond.methodLink RX4 178 yX4_crossing, Cond.instanceMethod yX4_crossing, Cond.selects RX4 yX4_crossing yX4_crossing, Cond.code yX4_crossing cX4_crossing 8 (some .int), Cond.instanceMethod yX2_reliefOf, Cond.selects RX2 yX2_reliefOf yX2_reliefOf, Cond.code yX2_reliefOf cX2_reliefOf 2 (some .int), Cond.methodLink RL 141 yX5_through, Cond.instanceMethod yX5_through, Cond.selects RX5 yX5_through yX5_through, Cond.code yX5_through cX5_through 4 (some .int)]
def wsL_law0_r13 : List Cond := [Cond.methodLink RX5 109 yX5_cross, Cond.instanceMethod yX5_cross, Cond.selects RX5 yX5_cross yX5_cross, Cond.code yX5_cross cX5_cross 6 (some .int), Cond.methodLink RL 142 yL_gives, Cond.static yL_gives, Cond.codeWith yL_gives cL_gives 5 (some .int) [(0, 10, 13, 13)], Cond.methodLink RL 52 yX4_gives, Cond.instanceMethod yX4_gives, Cond.selects RX4 yX4_gives yX4_gives, Cond.code yX4_gives cX4_gives 4 (some .int), Cond.methodLink RX4 182 yX4_lightFrom, Cond.instanceMethod yX4_lightFrom, Cond.selects RX4 yX4_lightFrom yX4_lightFrom, Cond.code yX4_lightFrom cX4_lightFrom 6 (some .int), Cond.methodLink RX4 285 yX4_isAimedAt, Cond.instanceMethod yX4_isAimedAt, Cond.selects RX4 yX4_isAimedAt yX4_isAimedAt, Cond.code yX4_isAimedAt cX4_isAimedAt 4 (some .boolean), Cond.methodLink RX4 291 yX4_isBlocked, Cond.instanceMethod yX4_isBlocked, Cond.selects RX4 yX4_isBlocked yX4_isBlocked, Cond.code yX4_isBlocked cX4_isBlocked 4 (some .boolean), Cond.instanceMethod yX2_stopsRays]
def wsL_law0_r14 : List Cond := [Cond.selects RX2 yX2_stopsRays yX2_stopsRays, Cond.code yX2_stopsRays cX2_stopsRays 4 (some .boolean), Cond.methodLink RX2 29 yX2_contentOf, Cond.methodLink RX2 33 yX2_reliefOf, Cond.instanceMethod yX2_hundredthsOf, Cond.selects RX2 yX2_hundredthsOf yX2_hundredthsOf, Cond.code yX2_hundredthsOf cX2_hundredthsOf 3 (some .int), Cond.methodLink RL 144 yX5_gives, Cond.instanceMethod yX5_gives, Cond.selects RX5 yX5_gives yX5_gives, Cond.code yX5_gives cX5_gives 3 (some .int), Cond.methodLink RX5 119 yX5_lightOf, Cond.instanceMethod yX5_lightOf, Cond.selects RX5 yX5_lightOf yX5_lightOf, Cond.code yX5_lightOf cX5_lightOf 6 (some .int), Cond.methodLink RX5 113 yX5_covers, Cond.instanceMethod yX5_covers, Cond.selects RX5 yX5_covers yX5_covers, Cond.code yX5_covers cX5_covers 4 (some .boolean), Cond.methodLink RX5 116 yX5_isBlocked, Cond.instanceMethod yX5_isBlocked, Cond.selects RX5 yX5_isBlocked yX5_isBlocked, Cond.code yX5_isBlocked cX5_isBlocked 6 (some .boolean), Cond.methodLink RL 145 yL_isSharp]
def wsL_law0_r15 : List Cond := [Cond.static yL_isSharp, Cond.codeWith yL_isSharp cL_isSharp 5 (some .int) [(0, 17, 20, 13)], Cond.methodLink RL 55 yX4_isSharp, Cond.instanceMethod yX4_isSharp, Cond.selects RX4 yX4_isSharp yX4_isSharp, Cond.code yX4_isSharp cX4_isSharp 4 (some .boolean), Cond.methodLink RX4 186 yX4_isInFocus, Cond.instanceMethod yX4_isInFocus, Cond.selects RX4 yX4_isInFocus yX4_isInFocus, Cond.code yX4_isInFocus cX4_isInFocus 4 (some .boolean), Cond.methodLink RL 147 yX5_isSharp, Cond.instanceMethod yX5_isSharp, Cond.selects RX5 yX5_isSharp yX5_isSharp, Cond.code yX5_isSharp cX5_isSharp 3 (some .boolean), Cond.methodLink RX5 122 yX5_isSharpAt, Cond.instanceMethod yX5_isSharpAt, Cond.selects RX5 yX5_isSharpAt yX5_isSharpAt, Cond.code yX5_isSharpAt cX5_isSharpAt 3 (some .boolean), Cond.methodLink RL 148 yL_light, Cond.static yL_light, Cond.codeWith yL_light cL_light 4 (some .int) [(0, 9, 12, 13)], Cond.methodLink RL 59 yX4_light, Cond.instanceMethod yX4_light, Cond.selects RX4 yX4_light yX4_light]
def wsL_law0_r16 : List Cond := [Cond.code yX4_light cX4_light 2 (some .int), Cond.methodLink RX4 190 yX4_lightOf, Cond.instanceMethod yX4_lightOf, Cond.selects RX4 yX4_lightOf yX4_lightOf, Cond.code yX4_lightOf cX4_lightOf 5 (some .int), Cond.instanceMethod yX0_shines, Cond.selects RX0 yX0_shines yX0_shines, Cond.code yX0_shines cX0_shines 1 (some .boolean), Cond.fieldLink RX0 33 "FacadeShow$Projector" "isOn" "Z", Cond.fieldLink RX0 37 "FacadeShow$Projector" "hasFailed" "Z", Cond.methodLink RL 150 yX5_light, Cond.instanceMethod yX5_light, Cond.selects RX5 yX5_light yX5_light, Cond.code yX5_light cX5_light 2 (some .int), Cond.methodLink RX5 128 yX5_lightAt, Cond.instanceMethod yX5_lightAt, Cond.selects RX5 yX5_lightAt yX5_lightAt, Cond.code yX5_lightAt cX5_lightAt 4 (some .int), Cond.methodLink RX5 125 yX5_shines, Cond.instanceMethod yX5_shines, Cond.selects RX5 yX5_shines yX5_shines, Cond.code yX5_shines cX5_shines 2 (some .boolean), Cond.methodLink RL 151 yL_blended, Cond.static yL_blended]
def wsL_law0_r17 : List Cond := [Cond.codeWith yL_blended cL_blended 5 (some .int) [(0, 10, 13, 13)], Cond.methodLink RL 62 yX4_blended, Cond.instanceMethod yX4_blended, Cond.selects RX4 yX4_blended yX4_blended, Cond.code yX4_blended cX4_blended 6 (some .int), Cond.methodLink RL 153 yX5_blended, Cond.instanceMethod yX5_blended, Cond.selects RX5 yX5_blended yX5_blended, Cond.code yX5_blended cX5_blended 5 (some .int), Cond.methodLink RL 154 yL_covered, Cond.static yL_covered, Cond.codeWith yL_covered cL_covered 4 (some .int) [(0, 9, 12, 15)], Cond.methodLink RL 65 yX4_covered, Cond.instanceMethod yX4_covered, Cond.selects RX4 yX4_covered yX4_covered, Cond.code yX4_covered cX4_covered 4 (some .int), Cond.methodLink RX4 197 yX4_isSetOfProjectors, Cond.instanceMethod yX4_isSetOfProjectors, Cond.selects RX4 yX4_isSetOfProjectors yX4_isSetOfProjectors, Cond.code yX4_isSetOfProjectors cX4_isSetOfProjectors 2 (some .boolean), Cond.methodLink RX4 202 yX4_surveyLights, Cond.instanceMethod yX4_surveyLights, Cond.selects RX4 yX4_surveyLights yX4_surveyLights, Cond.code yX4_surveyLights cX4_surveyLights 4 none]
def wsL_law0_r18 : List Cond := [Cond.instanceMethod yX3_note, Cond.selects RX3 yX3_note yX3_note, Cond.code yX3_note cX3_note 7 none, Cond.methodLink RX3 22 yX3_isPlace, Cond.static yX3_isPlace, Cond.code yX3_isPlace cX3_isPlace 2 (some .boolean), Cond.instanceMethod yX3_isWellCovered, Cond.selects RX3 yX3_isWellCovered yX3_isWellCovered, Cond.code yX3_isWellCovered cX3_isWellCovered 6 (some .boolean), Cond.methodLink RL 156 yX5_covered, Cond.instanceMethod yX5_covered, Cond.selects RX5 yX5_covered yX5_covered, Cond.code yX5_covered cX5_covered 2 (some .int), Cond.methodLink RX5 134 yX5_isSet, Cond.instanceMethod yX5_isSet, Cond.selects RX5 yX5_isSet yX5_isSet, Cond.code yX5_isSet cX5_isSet 2 (some .boolean), Cond.methodLink RX5 137 yX5_coveredBy, Cond.instanceMethod yX5_coveredBy, Cond.selects RX5 yX5_coveredBy yX5_coveredBy, Cond.code yX5_coveredBy cX5_coveredBy 4 (some .int), Cond.methodLink RX5 131 yX5_isWell, Cond.instanceMethod yX5_isWell, Cond.selects RX5 yX5_isWell yX5_isWell]
def wsL_law0_r19 : List Cond := [Cond.code yX5_isWell cX5_isWell 7 (some .boolean), Cond.methodLink RL 157 yX4_least, Cond.instanceMethod yX4_least, Cond.selects RX4 yX4_least yX4_least, Cond.code yX4_least cX4_least 6 (some .int), Cond.methodLink RX4 209 yX4_unfailedProjectors, Cond.instanceMethod yX4_unfailedProjectors, Cond.selects RX4 yX4_unfailedProjectors yX4_unfailedProjectors, Cond.code yX4_unfailedProjectors cX4_unfailedProjectors 4 (some .int), Cond.methodLink RX4 213 yJ6_bitCount_0f7a4, Cond.static yJ6_bitCount_0f7a4, Cond.initialized RJ6, Cond.code yJ6_bitCount_0f7a4 cJ6_bitCount_0f7a4 1 (some .int), Cond.constant RJ6 265 (1431655765), Cond.constant RJ6 266 (858993459), Cond.constant RJ6 267 (252645135), Cond.instanceMethod yX3_coversAll, Cond.selects RX3 yX3_coversAll yX3_coversAll, Cond.code yX3_coversAll cX3_coversAll 5 (some .boolean), Cond.methodLink RX3 26 yX3_isWellCovered, Cond.methodLink RL 160 yX5_least, Cond.instanceMethod yX5_least, Cond.selects RX5 yX5_least yX5_least, Cond.code yX5_least cX5_least 1 (some .int)]
def wsL_law0_r20 : List Cond := [Cond.methodLink RX5 146 yX5_leastSet, Cond.instanceMethod yX5_leastSet, Cond.selects RX5 yX5_leastSet yX5_leastSet, Cond.code yX5_leastSet cX5_leastSet 5 (some .int), Cond.methodLink RX5 140 yX5_bits, Cond.static yX5_bits, Cond.code yX5_bits cX5_bits 3 (some .int), Cond.methodLink RX5 143 yX5_isEnough, Cond.instanceMethod yX5_isEnough, Cond.selects RX5 yX5_isEnough yX5_isEnough, Cond.code yX5_isEnough cX5_isEnough 2 (some .boolean), Cond.methodLink RL 161 yX4_leastAnew, Cond.instanceMethod yX4_leastAnew, Cond.selects RX4 yX4_leastAnew yX4_leastAnew, Cond.code yX4_leastAnew cX4_leastAnew 4 (some .int), Cond.methodLink RL 164 yX5_leastAnew, Cond.instanceMethod yX5_leastAnew, Cond.selects RX5 yX5_leastAnew yX5_leastAnew, Cond.code yX5_leastAnew cX5_leastAnew 2 (some .int), Cond.methodLink RL 165 yL_bears, Cond.static yL_bears, Cond.codeWith yL_bears cL_bears 4 (some .int) [(0, 16, 19, 15)], Cond.methodLink RL 68 yX4_bears, Cond.instanceMethod yX4_bears]
def wsL_law0_r21 : List Cond := [Cond.selects RX4 yX4_bears yX4_bears, Cond.code yX4_bears cX4_bears 5 (some .boolean), Cond.methodLink RL 167 yX5_bears, Cond.instanceMethod yX5_bears, Cond.selects RX5 yX5_bears yX5_bears, Cond.code yX5_bears cX5_bears 4 (some .boolean), Cond.methodLink RL 168 yX4_breaches, Cond.instanceMethod yX4_breaches, Cond.selects RX4 yX4_breaches yX4_breaches, Cond.code yX4_breaches cX4_breaches 4 (some .int), Cond.methodLink RX4 221 yX4_breachesBy, Cond.instanceMethod yX4_breachesBy, Cond.selects RX4 yX4_breachesBy yX4_breachesBy, Cond.code yX4_breachesBy cX4_breachesBy 4 (some .int), Cond.methodLink RX4 288 yX4_meetsTheLiving, Cond.instanceMethod yX4_meetsTheLiving, Cond.selects RX4 yX4_meetsTheLiving yX4_meetsTheLiving, Cond.code yX4_meetsTheLiving cX4_meetsTheLiving 4 (some .boolean), Cond.instanceMethod yX2_hasTheLiving, Cond.selects RX2 yX2_hasTheLiving yX2_hasTheLiving, Cond.code yX2_hasTheLiving cX2_hasTheLiving 4 (some .boolean), Cond.methodLink RL 171 yX5_breaches, Cond.instanceMethod yX5_breaches, Cond.selects RX5 yX5_breaches yX5_breaches]
def wsL_law0_r22 : List Cond := [Cond.code yX5_breaches cX5_breaches 1 (some .int), Cond.methodLink RX5 153 yX5_breachesNow, Cond.instanceMethod yX5_breachesNow, Cond.selects RX5 yX5_breachesNow yX5_breachesNow, Cond.code yX5_breachesNow cX5_breachesNow 4 (some .int), Cond.methodLink RX5 150 yX5_meets, Cond.instanceMethod yX5_meets, Cond.selects RX5 yX5_meets yX5_meets, Cond.code yX5_meets cX5_meets 6 (some .boolean), Cond.methodLink RL 172 yL_curfew, Cond.static yL_curfew, Cond.codeWith yL_curfew cL_curfew 4 (some .int) [(0, 6, 9, 15)], Cond.methodLink RL 72 yX4_curfew, Cond.instanceMethod yX4_curfew, Cond.selects RX4 yX4_curfew yX4_curfew, Cond.code yX4_curfew cX4_curfew 3 none, Cond.methodLink RL 174 yX5_curfew, Cond.instanceMethod yX5_curfew, Cond.selects RX5 yX5_curfew yX5_curfew, Cond.code yX5_curfew cX5_curfew 3 none, Cond.fieldLink RX5 156 "FacadeShowModel" "curfewFrom" "I", Cond.fieldLink RX5 159 "FacadeShowModel" "curfewTo" "I", Cond.methodLink RL 175 yL_ready, Cond.static yL_ready]
def wsL_law0_r23 : List Cond := [Cond.codeWith yL_ready cL_ready 5 (some .int) [(0, 10, 13, 13), (0, 10, 17, 15)], Cond.methodLink RL 75 yX4_ready, Cond.instanceMethod yX4_ready, Cond.selects RX4 yX4_ready yX4_ready, Cond.code yX4_ready cX4_ready 5 (some .int), Cond.methodLink RL 177 yX5_ready, Cond.instanceMethod yX5_ready, Cond.selects RX5 yX5_ready yX5_ready, Cond.code yX5_ready cX5_ready 5 (some .int), Cond.methodLink RL 178 yL_propose, Cond.static yL_propose, Cond.codeWith yL_propose cL_propose 5 (some .int) [(0, 10, 13, 13), (0, 10, 17, 15)], Cond.methodLink RL 78 yX4_propose, Cond.instanceMethod yX4_propose, Cond.selects RX4 yX4_propose yX4_propose, Cond.code yX4_propose cX4_propose 5 (some .int), Cond.methodLink RX4 234 yX4_findScene, Cond.instanceMethod yX4_findScene, Cond.selects RX4 yX4_findScene yX4_findScene, Cond.code yX4_findScene cX4_findScene 2 (some (.object "FacadeShow$Scene")), Cond.methodLink RL 180 yX5_propose, Cond.instanceMethod yX5_propose, Cond.selects RX5 yX5_propose yX5_propose, Cond.code yX5_propose cX5_propose 5 (some .int)]
def wsL_law0_r24 : List Cond := [Cond.methodLink RL 181 yL_answer, Cond.static yL_answer, Cond.codeWith yL_answer cL_answer 5 (some .int) [(0, 10, 13, 13), (0, 10, 17, 21)], Cond.methodLink RL 81 yX4_answer, Cond.instanceMethod yX4_answer, Cond.selects RX4 yX4_answer yX4_answer, Cond.code yX4_answer cX4_answer 4 (some .int), Cond.methodLink RL 183 yX5_answer, Cond.instanceMethod yX5_answer, Cond.selects RX5 yX5_answer yX5_answer, Cond.code yX5_answer cX5_answer 4 (some .int), Cond.methodLink RL 184 yL_scene, Cond.static yL_scene, Cond.codeWith yL_scene cL_scene 5 (some .int) [(0, 10, 13, 13)], Cond.methodLink RL 85 yX4_scene, Cond.instanceMethod yX4_scene, Cond.selects RX4 yX4_scene yX4_scene, Cond.code yX4_scene cX4_scene 4 (some .int), Cond.methodLink RL 186 yX5_scene, Cond.instanceMethod yX5_scene, Cond.selects RX5 yX5_scene yX5_scene, Cond.code yX5_scene cX5_scene 3 (some .int), Cond.methodLink RL 187 yL_show, Cond.static yL_show]
def wsL_law0_r25 : List Cond := [Cond.codeWith yL_show cL_show 4 (some .int) [(0, 8, 11, 15)], Cond.methodLink RL 88 yX4_show, Cond.instanceMethod yX4_show, Cond.selects RX4 yX4_show yX4_show, Cond.code yX4_show cX4_show 2 (some .long), Cond.methodLink RX4 250 yX4_countOfOn, Cond.instanceMethod yX4_countOfOn, Cond.selects RX4 yX4_countOfOn yX4_countOfOn, Cond.code yX4_countOfOn cX4_countOfOn 4 (some .int), Cond.methodLink RL 189 yX5_show, Cond.instanceMethod yX5_show, Cond.selects RX5 yX5_show yX5_show, Cond.code yX5_show cX5_show 2 (some .long), Cond.fieldLink RX5 162 "FacadeShowModel" "frame" "I", Cond.fieldLink RX5 165 "FacadeShowModel" "held" "I", Cond.fieldLink RX5 168 "FacadeShowModel" "counted" "J", Cond.fieldLink RX5 172 "FacadeShowModel" "energy" "J", Cond.fieldLink RX5 175 "FacadeShowModel" "minute" "I", Cond.methodLink RX5 178 yX5_on, Cond.instanceMethod yX5_on, Cond.selects RX5 yX5_on yX5_on, Cond.code yX5_on cX5_on 3 (some .int), Cond.methodLink RL 190 yL_pass, Cond.static yL_pass]
def wsL_law0_r26 : List Cond := [Cond.codeWith yL_pass cL_pass 4 (some .int) [(0, 9, 12, 15), (0, 9, 15, 21)], Cond.methodLink RL 92 yX4_pass, Cond.instanceMethod yX4_pass, Cond.selects RX4 yX4_pass yX4_pass, Cond.code yX4_pass cX4_pass 7 (some .int), Cond.methodLink RX4 257 yX4_breaches, Cond.methodLink RX4 260 yX4_powerOfOn, Cond.instanceMethod yX4_powerOfOn, Cond.selects RX4 yX4_powerOfOn yX4_powerOfOn, Cond.code yX4_powerOfOn cX4_powerOfOn 1 (some .int), Cond.methodLink RX4 263 yX4_lastFrameOfAll, Cond.instanceMethod yX4_lastFrameOfAll, Cond.selects RX4 yX4_lastFrameOfAll yX4_lastFrameOfAll, Cond.code yX4_lastFrameOfAll cX4_lastFrameOfAll 4 (some .int), Cond.methodLink RX4 266 yX4_isCurfewNow, Cond.instanceMethod yX4_isCurfewNow, Cond.selects RX4 yX4_isCurfewNow yX4_isCurfewNow, Cond.code yX4_isCurfewNow cX4_isCurfewNow 2 (some .boolean), Cond.methodLink RL 192 yX5_pass, Cond.instanceMethod yX5_pass, Cond.selects RX5 yX5_pass yX5_pass, Cond.code yX5_pass cX5_pass 5 (some .int), Cond.methodLink RX5 181 yX5_passOne, Cond.instanceMethod yX5_passOne]
def wsL_law0_r27 : List Cond := [Cond.selects RX5 yX5_passOne yX5_passOne, Cond.code yX5_passOne cX5_passOne 6 none]
def wsL_law0 : List Cond := (wsL_law0_r1 ++ (wsL_law0_r2 ++ (wsL_law0_r3 ++ (wsL_law0_r4 ++ (wsL_law0_r5 ++ (wsL_law0_r6 ++ (wsL_law0_r7 ++ (wsL_law0_r8 ++ (wsL_law0_r9 ++ (wsL_law0_r10 ++ (wsL_law0_r11 ++ (wsL_law0_r12 ++ (wsL_law0_r13 ++ (wsL_law0_r14 ++ (wsL_law0_r15 ++ (wsL_law0_r16 ++ (wsL_law0_r17 ++ (wsL_law0_r18 ++ (wsL_law0_r19 ++ (wsL_law0_r20 ++ (wsL_law0_r21 ++ (wsL_law0_r22 ++ (wsL_law0_r23 ++ (wsL_law0_r24 ++ (wsL_law0_r25 ++ (wsL_law0_r26 ++ wsL_law0_r27)))))))))))))))))))))))))) ++ wsX40 ++ wsX50 ++ wsX20 ++ wsX30 ++ wsX10 ++ wsX00 ++ ([] : List Cond)
abbrev vwCl : List vw_C := [(RX0, TX0, 10), (RX1, TX1, 2), (RX2, TX2, 3), (RX3, TX3, 2), (RX4, TX4, 16), (RX5, TX5, 30)]
end
section
theorem dX0_init_0 : decode cX0_init 0 = .ok (.aload_n 0, 1) := by decide +kernel
theorem dX0_init_1 : decode cX0_init 1 = .ok (.invokespecial 3, 3) := by decide +kernel
theorem dX0_init_4 : decode cX0_init 4 = .ok (.aload_n 0, 1) := by decide +kernel
theorem dX0_init_5 : decode cX0_init 5 = .ok (.iload_n 1, 1) := by decide +kernel
theorem dX0_init_6 : decode cX0_init 6 = .ok (.putfield 9, 3) := by decide +kernel
theorem dX0_init_9 : decode cX0_init 9 = .ok (.aload_n 0, 1) := by decide +kernel
theorem dX0_init_10 : decode cX0_init 10 = .ok (.iload_n 2, 1) := by decide +kernel
theorem dX0_init_11 : decode cX0_init 11 = .ok (.putfield 15, 3) := by decide +kernel
theorem dX0_init_14 : decode cX0_init 14 = .ok (.aload_n 0, 1) := by decide +kernel
theorem dX0_init_15 : decode cX0_init 15 = .ok (.iload_n 3, 1) := by decide +kernel
theorem dX0_init_16 : decode cX0_init 16 = .ok (.putfield 18, 3) := by decide +kernel
theorem dX0_init_19 : decode cX0_init 19 = .ok (.aload_n 0, 1) := by decide +kernel
theorem dX0_init_20 : decode cX0_init 20 = .ok (.iload 4, 2) := by decide +kernel
theorem dX0_init_22 : decode cX0_init 22 = .ok (.putfield 21, 3) := by decide +kernel
theorem dX0_init_25 : decode cX0_init 25 = .ok (.aload_n 0, 1) := by decide +kernel
theorem dX0_init_26 : decode cX0_init 26 = .ok (.iload 5, 2) := by decide +kernel
theorem dX0_init_28 : decode cX0_init 28 = .ok (.putfield 24, 3) := by decide +kernel
theorem dX0_init_31 : decode cX0_init 31 = .ok (.aload_n 0, 1) := by decide +kernel
theorem dX0_init_32 : decode cX0_init 32 = .ok (.iconst (-1), 1) := by decide +kernel
theorem dX0_init_33 : decode cX0_init 33 = .ok (.putfield 27, 3) := by decide +kernel
theorem dX0_init_36 : decode cX0_init 36 = .ok (.aload_n 0, 1) := by decide +kernel
theorem dX0_init_37 : decode cX0_init 37 = .ok (.iconst (-1), 1) := by decide +kernel
theorem dX0_init_38 : decode cX0_init 38 = .ok (.putfield 30, 3) := by decide +kernel
theorem dX0_init_41 : decode cX0_init 41 = .ok (.return_, 1) := by decide +kernel
theorem dX0_shines_0 : decode cX0_shines 0 = .ok (.aload_n 0, 1) := by decide +kernel
theorem dX0_shines_1 : decode cX0_shines 1 = .ok (.getfield 33, 3) := by decide +kernel
theorem dX0_shines_4 : decode cX0_shines 4 = .ok (.ifCond .eq 14, 3) := by decide +kernel
theorem dX0_shines_7 : decode cX0_shines 7 = .ok (.aload_n 0, 1) := by decide +kernel
theorem dX0_shines_8 : decode cX0_shines 8 = .ok (.getfield 37, 3) := by decide +kernel
theorem dX0_shines_11 : decode cX0_shines 11 = .ok (.ifCond .ne 7, 3) := by decide +kernel
theorem dX0_shines_14 : decode cX0_shines 14 = .ok (.iconst 1, 1) := by decide +kernel
theorem dX0_shines_15 : decode cX0_shines 15 = .ok (.goto 4, 3) := by decide +kernel
theorem dX0_shines_18 : decode cX0_shines 18 = .ok (.iconst 0, 1) := by decide +kernel
theorem dX0_shines_19 : decode cX0_shines 19 = .ok (.ireturn, 1) := by decide +kernel
theorem dX1_init_0 : decode cX1_init 0 = .ok (.aload_n 0, 1) := by decide +kernel
theorem dX1_init_1 : decode cX1_init 1 = .ok (.invokespecial 3, 3) := by decide +kernel
theorem dX1_init_4 : decode cX1_init 4 = .ok (.aload_n 0, 1) := by decide +kernel
theorem dX1_init_5 : decode cX1_init 5 = .ok (.iconst 0, 1) := by decide +kernel
theorem dX1_init_6 : decode cX1_init 6 = .ok (.putfield 9, 3) := by decide +kernel
theorem dX1_init_9 : decode cX1_init 9 = .ok (.aload_n 0, 1) := by decide +kernel
theorem dX1_init_10 : decode cX1_init 10 = .ok (.iconst (-1), 1) := by decide +kernel
theorem dX1_init_11 : decode cX1_init 11 = .ok (.putfield 15, 3) := by decide +kernel
theorem dX1_init_14 : decode cX1_init 14 = .ok (.return_, 1) := by decide +kernel
theorem dX2_init_0 : decode cX2_init 0 = .ok (.aload_n 0, 1) := by decide +kernel
theorem dX2_init_1 : decode cX2_init 1 = .ok (.invokespecial 3, 3) := by decide +kernel
theorem dX2_init_4 : decode cX2_init 4 = .ok (.aload_n 0, 1) := by decide +kernel
theorem dX2_init_5 : decode cX2_init 5 = .ok (.bipush 16, 2) := by decide +kernel
theorem dX2_init_7 : decode cX2_init 7 = .ok (.newarray .int, 2) := by decide +kernel
theorem dX2_init_9 : decode cX2_init 9 = .ok (.putfield 9, 3) := by decide +kernel
theorem dX2_init_12 : decode cX2_init 12 = .ok (.aload_n 0, 1) := by decide +kernel
theorem dX2_init_13 : decode cX2_init 13 = .ok (.bipush 16, 2) := by decide +kernel
theorem dX2_init_15 : decode cX2_init 15 = .ok (.newarray .int, 2) := by decide +kernel
theorem dX2_init_17 : decode cX2_init 17 = .ok (.putfield 15, 3) := by decide +kernel
theorem dX2_init_20 : decode cX2_init 20 = .ok (.aload_n 0, 1) := by decide +kernel
theorem dX2_init_21 : decode cX2_init 21 = .ok (.sipush 192, 3) := by decide +kernel
theorem dX2_init_24 : decode cX2_init 24 = .ok (.newarray .int, 2) := by decide +kernel
theorem dX2_init_26 : decode cX2_init 26 = .ok (.putfield 18, 3) := by decide +kernel
theorem dX2_init_29 : decode cX2_init 29 = .ok (.return_, 1) := by decide +kernel
set_option maxRecDepth 20000 in
theorem ggX2_build_X4_isColumn : GoodIn wsX2_build wsX4_isColumn := goodIn_r _ [5] (by decide +kernel) (by decide +kernel)
set_option maxRecDepth 20000 in
theorem gX2_build_X4_isColumn_n21 : GoodIn wsX2_build (wsX4_isColumn) := ggX2_build_X4_isColumn
theorem dX2_build_0 : decode cX2_build 0 = .ok (.iload_n 1, 1) := by decide +kernel
theorem dX2_build_1 : decode cX2_build 1 = .ok (.invokestatic 21, 3) := by decide +kernel
theorem dX2_build_4 : decode cX2_build 4 = .ok (.ifCond .eq 17, 3) := by decide +kernel
theorem dX2_build_7 : decode cX2_build 7 = .ok (.aload_n 0, 1) := by decide +kernel
theorem dX2_build_8 : decode cX2_build 8 = .ok (.getfield 9, 3) := by decide +kernel
theorem dX2_build_11 : decode cX2_build 11 = .ok (.iload_n 1, 1) := by decide +kernel
theorem dX2_build_12 : decode cX2_build 12 = .ok (.iload_n 2, 1) := by decide +kernel
theorem dX2_build_13 : decode cX2_build 13 = .ok (.iastore, 1) := by decide +kernel
theorem dX2_build_14 : decode cX2_build 14 = .ok (.aload_n 0, 1) := by decide +kernel
theorem dX2_build_15 : decode cX2_build 15 = .ok (.getfield 15, 3) := by decide +kernel
theorem dX2_build_18 : decode cX2_build 18 = .ok (.iload_n 1, 1) := by decide +kernel
theorem dX2_build_19 : decode cX2_build 19 = .ok (.iload_n 3, 1) := by decide +kernel
theorem dX2_build_20 : decode cX2_build 20 = .ok (.iastore, 1) := by decide +kernel
theorem dX2_build_21 : decode cX2_build 21 = .ok (.return_, 1) := by decide +kernel
set_option maxRecDepth 20000 in
theorem ggX2_reliefOf_X4_isColumn : GoodIn wsX2_reliefOf wsX4_isColumn := goodIn_r _ [4] (by decide +kernel) (by decide +kernel)
set_option maxRecDepth 20000 in
theorem gX2_reliefOf_X4_isColumn_n21 : GoodIn wsX2_reliefOf (wsX4_isColumn) := ggX2_reliefOf_X4_isColumn
theorem dX2_reliefOf_0 : decode cX2_reliefOf 0 = .ok (.iload_n 1, 1) := by decide +kernel
theorem dX2_reliefOf_1 : decode cX2_reliefOf 1 = .ok (.invokestatic 21, 3) := by decide +kernel
theorem dX2_reliefOf_4 : decode cX2_reliefOf 4 = .ok (.ifCond .eq 12, 3) := by decide +kernel
theorem dX2_reliefOf_7 : decode cX2_reliefOf 7 = .ok (.aload_n 0, 1) := by decide +kernel
theorem dX2_reliefOf_8 : decode cX2_reliefOf 8 = .ok (.getfield 9, 3) := by decide +kernel
theorem dX2_reliefOf_11 : decode cX2_reliefOf 11 = .ok (.iload_n 1, 1) := by decide +kernel
theorem dX2_reliefOf_12 : decode cX2_reliefOf 12 = .ok (.iaload, 1) := by decide +kernel
theorem dX2_reliefOf_13 : decode cX2_reliefOf 13 = .ok (.goto 4, 3) := by decide +kernel
theorem dX2_reliefOf_16 : decode cX2_reliefOf 16 = .ok (.iconst 0, 1) := by decide +kernel
theorem dX2_reliefOf_17 : decode cX2_reliefOf 17 = .ok (.ireturn, 1) := by decide +kernel
set_option maxRecDepth 20000 in
theorem ggX2_hundredthsOf_X4_isColumn : GoodIn wsX2_hundredthsOf wsX4_isColumn := goodIn_r _ [4] (by decide +kernel) (by decide +kernel)
set_option maxRecDepth 20000 in
theorem gX2_hundredthsOf_X4_isColumn_n21 : GoodIn wsX2_hundredthsOf (wsX4_isColumn) := ggX2_hundredthsOf_X4_isColumn
theorem dX2_hundredthsOf_0 : decode cX2_hundredthsOf 0 = .ok (.iload_n 1, 1) := by decide +kernel
theorem dX2_hundredthsOf_1 : decode cX2_hundredthsOf 1 = .ok (.invokestatic 21, 3) := by decide +kernel
theorem dX2_hundredthsOf_4 : decode cX2_hundredthsOf 4 = .ok (.ifCond .eq 12, 3) := by decide +kernel
theorem dX2_hundredthsOf_7 : decode cX2_hundredthsOf 7 = .ok (.aload_n 0, 1) := by decide +kernel
theorem dX2_hundredthsOf_8 : decode cX2_hundredthsOf 8 = .ok (.getfield 15, 3) := by decide +kernel
theorem dX2_hundredthsOf_11 : decode cX2_hundredthsOf 11 = .ok (.iload_n 1, 1) := by decide +kernel
theorem dX2_hundredthsOf_12 : decode cX2_hundredthsOf 12 = .ok (.iaload, 1) := by decide +kernel
theorem dX2_hundredthsOf_13 : decode cX2_hundredthsOf 13 = .ok (.goto 4, 3) := by decide +kernel
theorem dX2_hundredthsOf_16 : decode cX2_hundredthsOf 16 = .ok (.iconst 2, 1) := by decide +kernel
theorem dX2_hundredthsOf_17 : decode cX2_hundredthsOf 17 = .ok (.istore_n 2, 1) := by decide +kernel
theorem dX2_hundredthsOf_18 : decode cX2_hundredthsOf 18 = .ok (.iload_n 2, 1) := by decide +kernel
theorem dX2_hundredthsOf_19 : decode cX2_hundredthsOf 19 = .ok (.ifCond .ne 8, 3) := by decide +kernel
theorem dX2_hundredthsOf_22 : decode cX2_hundredthsOf 22 = .ok (.bipush 60, 2) := by decide +kernel
theorem dX2_hundredthsOf_24 : decode cX2_hundredthsOf 24 = .ok (.goto 14, 3) := by decide +kernel
theorem dX2_hundredthsOf_27 : decode cX2_hundredthsOf 27 = .ok (.iload_n 2, 1) := by decide +kernel
theorem dX2_hundredthsOf_28 : decode cX2_hundredthsOf 28 = .ok (.iconst 1, 1) := by decide +kernel
theorem dX2_hundredthsOf_29 : decode cX2_hundredthsOf 29 = .ok (.if_icmp .ne 8, 3) := by decide +kernel
theorem dX2_hundredthsOf_32 : decode cX2_hundredthsOf 32 = .ok (.bipush 40, 2) := by decide +kernel
theorem dX2_hundredthsOf_34 : decode cX2_hundredthsOf 34 = .ok (.goto 4, 3) := by decide +kernel
theorem dX2_hundredthsOf_37 : decode cX2_hundredthsOf 37 = .ok (.iconst 0, 1) := by decide +kernel
theorem dX2_hundredthsOf_38 : decode cX2_hundredthsOf 38 = .ok (.ireturn, 1) := by decide +kernel
theorem dX2_isCell_0 : decode cX2_isCell 0 = .ok (.iload_n 0, 1) := by decide +kernel
theorem dX2_isCell_1 : decode cX2_isCell 1 = .ok (.ifCond .lt 23, 3) := by decide +kernel
theorem dX2_isCell_4 : decode cX2_isCell 4 = .ok (.iload_n 0, 1) := by decide +kernel
theorem dX2_isCell_5 : decode cX2_isCell 5 = .ok (.bipush 16, 2) := by decide +kernel
theorem dX2_isCell_7 : decode cX2_isCell 7 = .ok (.if_icmp .ge 17, 3) := by decide +kernel
theorem dX2_isCell_10 : decode cX2_isCell 10 = .ok (.iload_n 1, 1) := by decide +kernel
theorem dX2_isCell_11 : decode cX2_isCell 11 = .ok (.ifCond .lt 13, 3) := by decide +kernel
theorem dX2_isCell_14 : decode cX2_isCell 14 = .ok (.iload_n 1, 1) := by decide +kernel
theorem dX2_isCell_15 : decode cX2_isCell 15 = .ok (.bipush 12, 2) := by decide +kernel
theorem dX2_isCell_17 : decode cX2_isCell 17 = .ok (.if_icmp .ge 7, 3) := by decide +kernel
theorem dX2_isCell_20 : decode cX2_isCell 20 = .ok (.iconst 1, 1) := by decide +kernel
theorem dX2_isCell_21 : decode cX2_isCell 21 = .ok (.goto 4, 3) := by decide +kernel
theorem dX2_isCell_24 : decode cX2_isCell 24 = .ok (.iconst 0, 1) := by decide +kernel
theorem dX2_isCell_25 : decode cX2_isCell 25 = .ok (.ireturn, 1) := by decide +kernel
set_option maxRecDepth 20000 in
theorem ggX2_put_X2_isCell : GoodIn wsX2_put wsX2_isCell := goodIn_r _ [5] (by decide +kernel) (by decide +kernel)
set_option maxRecDepth 20000 in
theorem gX2_put_X2_isCell : GoodIn wsX2_put (va_wsS RX2 25 yX2_isCell wsX2_isCell) := goodIn_app (goodIn_of _ (by decide +kernel)) ggX2_put_X2_isCell
theorem dX2_put_0 : decode cX2_put 0 = .ok (.iload_n 1, 1) := by decide +kernel
theorem dX2_put_1 : decode cX2_put 1 = .ok (.iload_n 2, 1) := by decide +kernel
theorem dX2_put_2 : decode cX2_put 2 = .ok (.invokestatic 25, 3) := by decide +kernel
theorem dX2_put_5 : decode cX2_put 5 = .ok (.ifCond .eq 15, 3) := by decide +kernel
theorem dX2_put_8 : decode cX2_put 8 = .ok (.aload_n 0, 1) := by decide +kernel
theorem dX2_put_9 : decode cX2_put 9 = .ok (.getfield 18, 3) := by decide +kernel
theorem dX2_put_12 : decode cX2_put 12 = .ok (.iload_n 1, 1) := by decide +kernel
theorem dX2_put_13 : decode cX2_put 13 = .ok (.bipush 12, 2) := by decide +kernel
theorem dX2_put_15 : decode cX2_put 15 = .ok (.imul, 1) := by decide +kernel
theorem dX2_put_16 : decode cX2_put 16 = .ok (.iload_n 2, 1) := by decide +kernel
theorem dX2_put_17 : decode cX2_put 17 = .ok (.iadd, 1) := by decide +kernel
theorem dX2_put_18 : decode cX2_put 18 = .ok (.iload_n 3, 1) := by decide +kernel
theorem dX2_put_19 : decode cX2_put 19 = .ok (.iastore, 1) := by decide +kernel
theorem dX2_put_20 : decode cX2_put 20 = .ok (.return_, 1) := by decide +kernel
set_option maxRecDepth 20000 in
theorem ggX2_contentOf_X2_isCell : GoodIn wsX2_contentOf wsX2_isCell := goodIn_r _ [5] (by decide +kernel) (by decide +kernel)
set_option maxRecDepth 20000 in
theorem gX2_contentOf_X2_isCell : GoodIn wsX2_contentOf (va_wsS RX2 25 yX2_isCell wsX2_isCell) := goodIn_app (goodIn_of _ (by decide +kernel)) ggX2_contentOf_X2_isCell
theorem dX2_contentOf_0 : decode cX2_contentOf 0 = .ok (.iload_n 1, 1) := by decide +kernel
theorem dX2_contentOf_1 : decode cX2_contentOf 1 = .ok (.iload_n 2, 1) := by decide +kernel
theorem dX2_contentOf_2 : decode cX2_contentOf 2 = .ok (.invokestatic 25, 3) := by decide +kernel
theorem dX2_contentOf_5 : decode cX2_contentOf 5 = .ok (.ifCond .eq 17, 3) := by decide +kernel
theorem dX2_contentOf_8 : decode cX2_contentOf 8 = .ok (.aload_n 0, 1) := by decide +kernel
theorem dX2_contentOf_9 : decode cX2_contentOf 9 = .ok (.getfield 18, 3) := by decide +kernel
theorem dX2_contentOf_12 : decode cX2_contentOf 12 = .ok (.iload_n 1, 1) := by decide +kernel
theorem dX2_contentOf_13 : decode cX2_contentOf 13 = .ok (.bipush 12, 2) := by decide +kernel
theorem dX2_contentOf_15 : decode cX2_contentOf 15 = .ok (.imul, 1) := by decide +kernel
theorem dX2_contentOf_16 : decode cX2_contentOf 16 = .ok (.iload_n 2, 1) := by decide +kernel
theorem dX2_contentOf_17 : decode cX2_contentOf 17 = .ok (.iadd, 1) := by decide +kernel
theorem dX2_contentOf_18 : decode cX2_contentOf 18 = .ok (.iaload, 1) := by decide +kernel
theorem dX2_contentOf_19 : decode cX2_contentOf 19 = .ok (.goto 4, 3) := by decide +kernel
theorem dX2_contentOf_22 : decode cX2_contentOf 22 = .ok (.iconst 0, 1) := by decide +kernel
theorem dX2_contentOf_23 : decode cX2_contentOf 23 = .ok (.ireturn, 1) := by decide +kernel
set_option maxRecDepth 20000 in
theorem ggX2_stopsRays_X2_contentOf : GoodIn wsX2_stopsRays wsX2_contentOf := goodIn_r _ [5, 6, 7, 8, 4, 9, 18, 19, 20] (by decide +kernel) (by decide +kernel)
set_option maxRecDepth 20000 in
theorem gX2_stopsRays_X2_contentOf : GoodIn wsX2_stopsRays (wsV RX2 29 RX2 yX2_contentOf wsX2_contentOf) := goodIn_app (goodIn_of _ (by decide +kernel)) ggX2_stopsRays_X2_contentOf
set_option maxRecDepth 20000 in
theorem ggX2_stopsRays_X2_reliefOf : GoodIn wsX2_stopsRays wsX2_reliefOf := goodIn_r _ [13, 14, 15, 16, 17, 18, 19, 20] (by decide +kernel) (by decide +kernel)
set_option maxRecDepth 20000 in
theorem gX2_stopsRays_X2_reliefOf : GoodIn wsX2_stopsRays (wsV RX2 33 RX2 yX2_reliefOf wsX2_reliefOf) := goodIn_app (goodIn_of _ (by decide +kernel)) ggX2_stopsRays_X2_reliefOf
theorem dX2_stopsRays_0 : decode cX2_stopsRays 0 = .ok (.aload_n 0, 1) := by decide +kernel
theorem dX2_stopsRays_1 : decode cX2_stopsRays 1 = .ok (.iload_n 1, 1) := by decide +kernel
theorem dX2_stopsRays_2 : decode cX2_stopsRays 2 = .ok (.iload_n 2, 1) := by decide +kernel
theorem dX2_stopsRays_3 : decode cX2_stopsRays 3 = .ok (.invokevirtual 29, 3) := by decide +kernel
theorem dX2_stopsRays_6 : decode cX2_stopsRays 6 = .ok (.istore_n 3, 1) := by decide +kernel
theorem dX2_stopsRays_7 : decode cX2_stopsRays 7 = .ok (.iload_n 2, 1) := by decide +kernel
theorem dX2_stopsRays_8 : decode cX2_stopsRays 8 = .ok (.aload_n 0, 1) := by decide +kernel
theorem dX2_stopsRays_9 : decode cX2_stopsRays 9 = .ok (.iload_n 1, 1) := by decide +kernel
theorem dX2_stopsRays_10 : decode cX2_stopsRays 10 = .ok (.invokevirtual 33, 3) := by decide +kernel
theorem dX2_stopsRays_13 : decode cX2_stopsRays 13 = .ok (.if_icmp .lt 13, 3) := by decide +kernel
theorem dX2_stopsRays_16 : decode cX2_stopsRays 16 = .ok (.iload_n 3, 1) := by decide +kernel
theorem dX2_stopsRays_17 : decode cX2_stopsRays 17 = .ok (.iconst 1, 1) := by decide +kernel
theorem dX2_stopsRays_18 : decode cX2_stopsRays 18 = .ok (.if_icmp .eq 8, 3) := by decide +kernel
theorem dX2_stopsRays_21 : decode cX2_stopsRays 21 = .ok (.iload_n 3, 1) := by decide +kernel
theorem dX2_stopsRays_22 : decode cX2_stopsRays 22 = .ok (.iconst 4, 1) := by decide +kernel
theorem dX2_stopsRays_23 : decode cX2_stopsRays 23 = .ok (.if_icmp .ne 7, 3) := by decide +kernel
theorem dX2_stopsRays_26 : decode cX2_stopsRays 26 = .ok (.iconst 1, 1) := by decide +kernel
theorem dX2_stopsRays_27 : decode cX2_stopsRays 27 = .ok (.goto 4, 3) := by decide +kernel
theorem dX2_stopsRays_30 : decode cX2_stopsRays 30 = .ok (.iconst 0, 1) := by decide +kernel
theorem dX2_stopsRays_31 : decode cX2_stopsRays 31 = .ok (.ireturn, 1) := by decide +kernel
set_option maxRecDepth 20000 in
theorem ggX2_hasTheLiving_X2_contentOf : GoodIn wsX2_hasTheLiving wsX2_contentOf := goodIn_r _ [5, 6, 7, 8, 4, 9, 10, 11, 12] (by decide +kernel) (by decide +kernel)
set_option maxRecDepth 20000 in
theorem gX2_hasTheLiving_X2_contentOf : GoodIn wsX2_hasTheLiving (wsV RX2 29 RX2 yX2_contentOf wsX2_contentOf) := goodIn_app (goodIn_of _ (by decide +kernel)) ggX2_hasTheLiving_X2_contentOf
theorem dX2_hasTheLiving_0 : decode cX2_hasTheLiving 0 = .ok (.aload_n 0, 1) := by decide +kernel
theorem dX2_hasTheLiving_1 : decode cX2_hasTheLiving 1 = .ok (.iload_n 1, 1) := by decide +kernel
theorem dX2_hasTheLiving_2 : decode cX2_hasTheLiving 2 = .ok (.iload_n 2, 1) := by decide +kernel
theorem dX2_hasTheLiving_3 : decode cX2_hasTheLiving 3 = .ok (.invokevirtual 29, 3) := by decide +kernel
theorem dX2_hasTheLiving_6 : decode cX2_hasTheLiving 6 = .ok (.istore_n 3, 1) := by decide +kernel
theorem dX2_hasTheLiving_7 : decode cX2_hasTheLiving 7 = .ok (.iload_n 3, 1) := by decide +kernel
theorem dX2_hasTheLiving_8 : decode cX2_hasTheLiving 8 = .ok (.iconst 2, 1) := by decide +kernel
theorem dX2_hasTheLiving_9 : decode cX2_hasTheLiving 9 = .ok (.if_icmp .eq 8, 3) := by decide +kernel
theorem dX2_hasTheLiving_12 : decode cX2_hasTheLiving 12 = .ok (.iload_n 3, 1) := by decide +kernel
theorem dX2_hasTheLiving_13 : decode cX2_hasTheLiving 13 = .ok (.iconst 3, 1) := by decide +kernel
theorem dX2_hasTheLiving_14 : decode cX2_hasTheLiving 14 = .ok (.if_icmp .ne 7, 3) := by decide +kernel
theorem dX2_hasTheLiving_17 : decode cX2_hasTheLiving 17 = .ok (.iconst 1, 1) := by decide +kernel
theorem dX2_hasTheLiving_18 : decode cX2_hasTheLiving 18 = .ok (.goto 4, 3) := by decide +kernel
theorem dX2_hasTheLiving_21 : decode cX2_hasTheLiving 21 = .ok (.iconst 0, 1) := by decide +kernel
theorem dX2_hasTheLiving_22 : decode cX2_hasTheLiving 22 = .ok (.ireturn, 1) := by decide +kernel
theorem dX3_init_0 : decode cX3_init 0 = .ok (.aload_n 0, 1) := by decide +kernel
theorem dX3_init_1 : decode cX3_init 1 = .ok (.invokespecial 3, 3) := by decide +kernel
theorem dX3_init_4 : decode cX3_init 4 = .ok (.aload_n 0, 1) := by decide +kernel
theorem dX3_init_5 : decode cX3_init 5 = .ok (.sipush 160, 3) := by decide +kernel
theorem dX3_init_8 : decode cX3_init 8 = .ok (.newarray .int, 2) := by decide +kernel
theorem dX3_init_10 : decode cX3_init 10 = .ok (.putfield 9, 3) := by decide +kernel
theorem dX3_init_13 : decode cX3_init 13 = .ok (.aload_n 0, 1) := by decide +kernel
theorem dX3_init_14 : decode cX3_init 14 = .ok (.bipush 16, 2) := by decide +kernel
theorem dX3_init_16 : decode cX3_init 16 = .ok (.newarray .int, 2) := by decide +kernel
theorem dX3_init_18 : decode cX3_init 18 = .ok (.putfield 15, 3) := by decide +kernel
theorem dX3_init_21 : decode cX3_init 21 = .ok (.return_, 1) := by decide +kernel
set_option maxRecDepth 20000 in
theorem ggX3_isPlace_X4_isColumn : GoodIn wsX3_isPlace wsX4_isColumn := goodIn_r _ [3] (by decide +kernel) (by decide +kernel)
set_option maxRecDepth 20000 in
theorem gX3_isPlace_X4_isColumn_n18 : GoodIn wsX3_isPlace (wsX4_isColumn) := ggX3_isPlace_X4_isColumn
theorem dX3_isPlace_0 : decode cX3_isPlace 0 = .ok (.iload_n 0, 1) := by decide +kernel
theorem dX3_isPlace_1 : decode cX3_isPlace 1 = .ok (.invokestatic 18, 3) := by decide +kernel
theorem dX3_isPlace_4 : decode cX3_isPlace 4 = .ok (.ifCond .eq 17, 3) := by decide +kernel
theorem dX3_isPlace_7 : decode cX3_isPlace 7 = .ok (.iload_n 1, 1) := by decide +kernel
theorem dX3_isPlace_8 : decode cX3_isPlace 8 = .ok (.ifCond .lt 13, 3) := by decide +kernel
theorem dX3_isPlace_11 : decode cX3_isPlace 11 = .ok (.iload_n 1, 1) := by decide +kernel
theorem dX3_isPlace_12 : decode cX3_isPlace 12 = .ok (.bipush 10, 2) := by decide +kernel
theorem dX3_isPlace_14 : decode cX3_isPlace 14 = .ok (.if_icmp .ge 7, 3) := by decide +kernel
theorem dX3_isPlace_17 : decode cX3_isPlace 17 = .ok (.iconst 1, 1) := by decide +kernel
theorem dX3_isPlace_18 : decode cX3_isPlace 18 = .ok (.goto 4, 3) := by decide +kernel
theorem dX3_isPlace_21 : decode cX3_isPlace 21 = .ok (.iconst 0, 1) := by decide +kernel
theorem dX3_isPlace_22 : decode cX3_isPlace 22 = .ok (.ireturn, 1) := by decide +kernel
set_option maxRecDepth 20000 in
theorem ggX3_note_X3_isPlace : GoodIn wsX3_note wsX3_isPlace := goodIn_r _ [6, 7, 8, 9] (by decide +kernel) (by decide +kernel)
set_option maxRecDepth 20000 in
theorem gX3_note_X3_isPlace : GoodIn wsX3_note (va_wsS RX3 22 yX3_isPlace wsX3_isPlace) := goodIn_app (goodIn_of _ (by decide +kernel)) ggX3_note_X3_isPlace
theorem dX3_note_0 : decode cX3_note 0 = .ok (.iload_n 1, 1) := by decide +kernel
theorem dX3_note_1 : decode cX3_note 1 = .ok (.iload_n 2, 1) := by decide +kernel
theorem dX3_note_2 : decode cX3_note 2 = .ok (.invokestatic 22, 3) := by decide +kernel
theorem dX3_note_5 : decode cX3_note 5 = .ok (.ifCond .eq 70, 3) := by decide +kernel
theorem dX3_note_8 : decode cX3_note 8 = .ok (.iconst 1, 1) := by decide +kernel
theorem dX3_note_9 : decode cX3_note 9 = .ok (.iload_n 2, 1) := by decide +kernel
theorem dX3_note_10 : decode cX3_note 10 = .ok (.ishl, 1) := by decide +kernel
theorem dX3_note_11 : decode cX3_note 11 = .ok (.istore 5, 2) := by decide +kernel
theorem dX3_note_13 : decode cX3_note 13 = .ok (.aload_n 0, 1) := by decide +kernel
theorem dX3_note_14 : decode cX3_note 14 = .ok (.getfield 9, 3) := by decide +kernel
theorem dX3_note_17 : decode cX3_note 17 = .ok (.iload_n 1, 1) := by decide +kernel
theorem dX3_note_18 : decode cX3_note 18 = .ok (.bipush 10, 2) := by decide +kernel
theorem dX3_note_20 : decode cX3_note 20 = .ok (.imul, 1) := by decide +kernel
theorem dX3_note_21 : decode cX3_note 21 = .ok (.iload_n 2, 1) := by decide +kernel
theorem dX3_note_22 : decode cX3_note 22 = .ok (.iadd, 1) := by decide +kernel
theorem dX3_note_23 : decode cX3_note 23 = .ok (.iload_n 3, 1) := by decide +kernel
theorem dX3_note_24 : decode cX3_note 24 = .ok (.iastore, 1) := by decide +kernel
theorem dX3_note_25 : decode cX3_note 25 = .ok (.iload_n 3, 1) := by decide +kernel
theorem dX3_note_26 : decode cX3_note 26 = .ok (.ifCond .le 12, 3) := by decide +kernel
theorem dX3_note_29 : decode cX3_note 29 = .ok (.iload 4, 2) := by decide +kernel
theorem dX3_note_31 : decode cX3_note 31 = .ok (.ifCond .ne 7, 3) := by decide +kernel
theorem dX3_note_34 : decode cX3_note 34 = .ok (.iconst 1, 1) := by decide +kernel
theorem dX3_note_35 : decode cX3_note 35 = .ok (.goto 4, 3) := by decide +kernel
theorem dX3_note_38 : decode cX3_note 38 = .ok (.iconst 0, 1) := by decide +kernel
theorem dX3_note_39 : decode cX3_note 39 = .ok (.istore 6, 2) := by decide +kernel
theorem dX3_note_41 : decode cX3_note 41 = .ok (.aload_n 0, 1) := by decide +kernel
theorem dX3_note_42 : decode cX3_note 42 = .ok (.getfield 15, 3) := by decide +kernel
theorem dX3_note_45 : decode cX3_note 45 = .ok (.iload_n 1, 1) := by decide +kernel
theorem dX3_note_46 : decode cX3_note 46 = .ok (.iload 6, 2) := by decide +kernel
theorem dX3_note_48 : decode cX3_note 48 = .ok (.ifCond .eq 15, 3) := by decide +kernel
theorem dX3_note_51 : decode cX3_note 51 = .ok (.aload_n 0, 1) := by decide +kernel
theorem dX3_note_52 : decode cX3_note 52 = .ok (.getfield 15, 3) := by decide +kernel
theorem dX3_note_55 : decode cX3_note 55 = .ok (.iload_n 1, 1) := by decide +kernel
theorem dX3_note_56 : decode cX3_note 56 = .ok (.iaload, 1) := by decide +kernel
theorem dX3_note_57 : decode cX3_note 57 = .ok (.iload 5, 2) := by decide +kernel
theorem dX3_note_59 : decode cX3_note 59 = .ok (.ior, 1) := by decide +kernel
theorem dX3_note_60 : decode cX3_note 60 = .ok (.goto 14, 3) := by decide +kernel
theorem dX3_note_63 : decode cX3_note 63 = .ok (.aload_n 0, 1) := by decide +kernel
theorem dX3_note_64 : decode cX3_note 64 = .ok (.getfield 15, 3) := by decide +kernel
theorem dX3_note_67 : decode cX3_note 67 = .ok (.iload_n 1, 1) := by decide +kernel
theorem dX3_note_68 : decode cX3_note 68 = .ok (.iaload, 1) := by decide +kernel
theorem dX3_note_69 : decode cX3_note 69 = .ok (.iload 5, 2) := by decide +kernel
theorem dX3_note_71 : decode cX3_note 71 = .ok (.iconst (-1), 1) := by decide +kernel
theorem dX3_note_72 : decode cX3_note 72 = .ok (.ixor, 1) := by decide +kernel
theorem dX3_note_73 : decode cX3_note 73 = .ok (.iand, 1) := by decide +kernel
theorem dX3_note_74 : decode cX3_note 74 = .ok (.iastore, 1) := by decide +kernel
theorem dX3_note_75 : decode cX3_note 75 = .ok (.return_, 1) := by decide +kernel
set_option maxRecDepth 20000 in
theorem ggX3_isWellCovered_X4_isColumn : GoodIn wsX3_isWellCovered wsX4_isColumn := goodIn_r _ [5] (by decide +kernel) (by decide +kernel)
set_option maxRecDepth 20000 in
theorem gX3_isWellCovered_X4_isColumn_n18 : GoodIn wsX3_isWellCovered (wsX4_isColumn) := ggX3_isWellCovered_X4_isColumn
theorem dX3_isWellCovered_0 : decode cX3_isWellCovered 0 = .ok (.iload_n 1, 1) := by decide +kernel
theorem dX3_isWellCovered_1 : decode cX3_isWellCovered 1 = .ok (.invokestatic 18, 3) := by decide +kernel
theorem dX3_isWellCovered_4 : decode cX3_isWellCovered 4 = .ok (.ifCond .eq 14, 3) := by decide +kernel
theorem dX3_isWellCovered_7 : decode cX3_isWellCovered 7 = .ok (.aload_n 0, 1) := by decide +kernel
theorem dX3_isWellCovered_8 : decode cX3_isWellCovered 8 = .ok (.getfield 15, 3) := by decide +kernel
theorem dX3_isWellCovered_11 : decode cX3_isWellCovered 11 = .ok (.iload_n 1, 1) := by decide +kernel
theorem dX3_isWellCovered_12 : decode cX3_isWellCovered 12 = .ok (.iaload, 1) := by decide +kernel
theorem dX3_isWellCovered_13 : decode cX3_isWellCovered 13 = .ok (.iload_n 2, 1) := by decide +kernel
theorem dX3_isWellCovered_14 : decode cX3_isWellCovered 14 = .ok (.iand, 1) := by decide +kernel
theorem dX3_isWellCovered_15 : decode cX3_isWellCovered 15 = .ok (.ifCond .eq 5, 3) := by decide +kernel
theorem dX3_isWellCovered_18 : decode cX3_isWellCovered 18 = .ok (.iconst 0, 1) := by decide +kernel
theorem dX3_isWellCovered_19 : decode cX3_isWellCovered 19 = .ok (.ireturn, 1) := by decide +kernel
theorem dX3_isWellCovered_20 : decode cX3_isWellCovered 20 = .ok (.iconst 0, 1) := by decide +kernel
theorem dX3_isWellCovered_21 : decode cX3_isWellCovered 21 = .ok (.istore 4, 2) := by decide +kernel
theorem dX3_isWellCovered_23 : decode cX3_isWellCovered 23 = .ok (.iconst 0, 1) := by decide +kernel
theorem dX3_isWellCovered_24 : decode cX3_isWellCovered 24 = .ok (.istore 5, 2) := by decide +kernel
theorem dX3_isWellCovered_26 : decode cX3_isWellCovered 26 = .ok (.iload 5, 2) := by decide +kernel
theorem dX3_isWellCovered_28 : decode cX3_isWellCovered 28 = .ok (.bipush 10, 2) := by decide +kernel
theorem dX3_isWellCovered_30 : decode cX3_isWellCovered 30 = .ok (.if_icmp .ge 35, 3) := by decide +kernel
theorem dX3_isWellCovered_33 : decode cX3_isWellCovered 33 = .ok (.iload_n 2, 1) := by decide +kernel
theorem dX3_isWellCovered_34 : decode cX3_isWellCovered 34 = .ok (.iload 5, 2) := by decide +kernel
theorem dX3_isWellCovered_36 : decode cX3_isWellCovered 36 = .ok (.ishr, 1) := by decide +kernel
theorem dX3_isWellCovered_37 : decode cX3_isWellCovered 37 = .ok (.iconst 1, 1) := by decide +kernel
theorem dX3_isWellCovered_38 : decode cX3_isWellCovered 38 = .ok (.iand, 1) := by decide +kernel
theorem dX3_isWellCovered_39 : decode cX3_isWellCovered 39 = .ok (.ifCond .eq 20, 3) := by decide +kernel
theorem dX3_isWellCovered_42 : decode cX3_isWellCovered 42 = .ok (.iload 4, 2) := by decide +kernel
theorem dX3_isWellCovered_44 : decode cX3_isWellCovered 44 = .ok (.aload_n 0, 1) := by decide +kernel
theorem dX3_isWellCovered_45 : decode cX3_isWellCovered 45 = .ok (.getfield 9, 3) := by decide +kernel
theorem dX3_isWellCovered_48 : decode cX3_isWellCovered 48 = .ok (.iload_n 1, 1) := by decide +kernel
theorem dX3_isWellCovered_49 : decode cX3_isWellCovered 49 = .ok (.bipush 10, 2) := by decide +kernel
theorem dX3_isWellCovered_51 : decode cX3_isWellCovered 51 = .ok (.imul, 1) := by decide +kernel
theorem dX3_isWellCovered_52 : decode cX3_isWellCovered 52 = .ok (.iload 5, 2) := by decide +kernel
theorem dX3_isWellCovered_54 : decode cX3_isWellCovered 54 = .ok (.iadd, 1) := by decide +kernel
theorem dX3_isWellCovered_55 : decode cX3_isWellCovered 55 = .ok (.iaload, 1) := by decide +kernel
theorem dX3_isWellCovered_56 : decode cX3_isWellCovered 56 = .ok (.iadd, 1) := by decide +kernel
theorem dX3_isWellCovered_57 : decode cX3_isWellCovered 57 = .ok (.istore 4, 2) := by decide +kernel
theorem dX3_isWellCovered_59 : decode cX3_isWellCovered 59 = .ok (.iinc 5 1, 3) := by decide +kernel
theorem dX3_isWellCovered_62 : decode cX3_isWellCovered 62 = .ok (.goto (-36), 3) := by decide +kernel
theorem dX3_isWellCovered_65 : decode cX3_isWellCovered 65 = .ok (.iload 4, 2) := by decide +kernel
theorem dX3_isWellCovered_67 : decode cX3_isWellCovered 67 = .ok (.iload_n 3, 1) := by decide +kernel
theorem dX3_isWellCovered_68 : decode cX3_isWellCovered 68 = .ok (.if_icmp .lt 7, 3) := by decide +kernel
theorem dX3_isWellCovered_71 : decode cX3_isWellCovered 71 = .ok (.iconst 1, 1) := by decide +kernel
theorem dX3_isWellCovered_72 : decode cX3_isWellCovered 72 = .ok (.goto 4, 3) := by decide +kernel
theorem dX3_isWellCovered_75 : decode cX3_isWellCovered 75 = .ok (.iconst 0, 1) := by decide +kernel
theorem dX3_isWellCovered_76 : decode cX3_isWellCovered 76 = .ok (.ireturn, 1) := by decide +kernel
set_option maxRecDepth 20000 in
theorem ggX3_coversAll_X3_isWellCovered : GoodIn wsX3_coversAll wsX3_isWellCovered := goodIn_r _ [5, 6, 7, 8, 9, 10, 11, 12] (by decide +kernel) (by decide +kernel)
set_option maxRecDepth 20000 in
theorem gX3_coversAll_X3_isWellCovered : GoodIn wsX3_coversAll (wsV RX3 26 RX3 yX3_isWellCovered wsX3_isWellCovered) := goodIn_app (goodIn_of _ (by decide +kernel)) ggX3_coversAll_X3_isWellCovered
theorem dX3_coversAll_0 : decode cX3_coversAll 0 = .ok (.iconst 0, 1) := by decide +kernel
theorem dX3_coversAll_1 : decode cX3_coversAll 1 = .ok (.istore 4, 2) := by decide +kernel
theorem dX3_coversAll_3 : decode cX3_coversAll 3 = .ok (.iload 4, 2) := by decide +kernel
theorem dX3_coversAll_5 : decode cX3_coversAll 5 = .ok (.bipush 16, 2) := by decide +kernel
theorem dX3_coversAll_7 : decode cX3_coversAll 7 = .ok (.if_icmp .ge 31, 3) := by decide +kernel
theorem dX3_coversAll_10 : decode cX3_coversAll 10 = .ok (.iload_n 1, 1) := by decide +kernel
theorem dX3_coversAll_11 : decode cX3_coversAll 11 = .ok (.iload 4, 2) := by decide +kernel
theorem dX3_coversAll_13 : decode cX3_coversAll 13 = .ok (.ishr, 1) := by decide +kernel
theorem dX3_coversAll_14 : decode cX3_coversAll 14 = .ok (.iconst 1, 1) := by decide +kernel
theorem dX3_coversAll_15 : decode cX3_coversAll 15 = .ok (.iand, 1) := by decide +kernel
theorem dX3_coversAll_16 : decode cX3_coversAll 16 = .ok (.ifCond .eq 16, 3) := by decide +kernel
theorem dX3_coversAll_19 : decode cX3_coversAll 19 = .ok (.aload_n 0, 1) := by decide +kernel
theorem dX3_coversAll_20 : decode cX3_coversAll 20 = .ok (.iload 4, 2) := by decide +kernel
theorem dX3_coversAll_22 : decode cX3_coversAll 22 = .ok (.iload_n 2, 1) := by decide +kernel
theorem dX3_coversAll_23 : decode cX3_coversAll 23 = .ok (.iload_n 3, 1) := by decide +kernel
theorem dX3_coversAll_24 : decode cX3_coversAll 24 = .ok (.invokevirtual 26, 3) := by decide +kernel
theorem dX3_coversAll_27 : decode cX3_coversAll 27 = .ok (.ifCond .ne 5, 3) := by decide +kernel
theorem dX3_coversAll_30 : decode cX3_coversAll 30 = .ok (.iconst 0, 1) := by decide +kernel
theorem dX3_coversAll_31 : decode cX3_coversAll 31 = .ok (.ireturn, 1) := by decide +kernel
theorem dX3_coversAll_32 : decode cX3_coversAll 32 = .ok (.iinc 4 1, 3) := by decide +kernel
theorem dX3_coversAll_35 : decode cX3_coversAll 35 = .ok (.goto (-32), 3) := by decide +kernel
theorem dX3_coversAll_38 : decode cX3_coversAll 38 = .ok (.iconst 1, 1) := by decide +kernel
theorem dX3_coversAll_39 : decode cX3_coversAll 39 = .ok (.ireturn, 1) := by decide +kernel
end
section
set_option maxRecDepth 20000 in
theorem ggX4_init_X2_init : GoodIn wsX4_init wsX2_init := goodIn_r _ [32, 33, 2, 3, 11, 34, 35, 36, 47, 48, 49] (by decide +kernel) (by decide +kernel)
set_option maxRecDepth 20000 in
theorem gX4_init_X2_init_n9 : GoodIn wsX4_init (wsX2_init) := ggX4_init_X2_init
set_option maxRecDepth 20000 in
theorem ggX4_init_X3_init : GoodIn wsX4_init wsX3_init := goodIn_r _ [38, 39, 2, 3, 11, 40, 41, 66, 67] (by decide +kernel) (by decide +kernel)
set_option maxRecDepth 20000 in
theorem gX4_init_X3_init_n41 : GoodIn wsX4_init (wsX3_init) := ggX4_init_X3_init
set_option maxRecDepth 20000 in
theorem ggX4_init_X1_init : GoodIn wsX4_init wsX1_init := goodIn_r _ [43, 44, 2, 3, 45, 46, 68, 69] (by decide +kernel) (by decide +kernel)
set_option maxRecDepth 20000 in
theorem gX4_init_X1_init_n54 : GoodIn wsX4_init (wsX1_init) := ggX4_init_X1_init
theorem dX4_init_0 : decode cX4_init 0 = .ok (.aload_n 0, 1) := by decide +kernel
theorem dX4_init_1 : decode cX4_init 1 = .ok (.invokespecial 1, 3) := by decide +kernel
theorem dX4_init_4 : decode cX4_init 4 = .ok (.aload_n 0, 1) := by decide +kernel
theorem dX4_init_5 : decode cX4_init 5 = .ok (.new 7, 3) := by decide +kernel
theorem dX4_init_8 : decode cX4_init 8 = .ok (.dup, 1) := by decide +kernel
theorem dX4_init_9 : decode cX4_init 9 = .ok (.invokespecial 9, 3) := by decide +kernel
theorem dX4_init_12 : decode cX4_init 12 = .ok (.putfield 10, 3) := by decide +kernel
theorem dX4_init_15 : decode cX4_init 15 = .ok (.aload_n 0, 1) := by decide +kernel
theorem dX4_init_16 : decode cX4_init 16 = .ok (.bipush 10, 2) := by decide +kernel
theorem dX4_init_18 : decode cX4_init 18 = .ok (.anewarray 16, 3) := by decide +kernel
theorem dX4_init_21 : decode cX4_init 21 = .ok (.putfield 18, 3) := by decide +kernel
theorem dX4_init_24 : decode cX4_init 24 = .ok (.aload_n 0, 1) := by decide +kernel
theorem dX4_init_25 : decode cX4_init 25 = .ok (.iconst 0, 1) := by decide +kernel
theorem dX4_init_26 : decode cX4_init 26 = .ok (.putfield 22, 3) := by decide +kernel
theorem dX4_init_29 : decode cX4_init 29 = .ok (.aload_n 0, 1) := by decide +kernel
theorem dX4_init_30 : decode cX4_init 30 = .ok (.iconst 3, 1) := by decide +kernel
theorem dX4_init_31 : decode cX4_init 31 = .ok (.newarray .int, 2) := by decide +kernel
theorem dX4_init_33 : decode cX4_init 33 = .ok (.dup, 1) := by decide +kernel
theorem dX4_init_34 : decode cX4_init 34 = .ok (.iconst 0, 1) := by decide +kernel
theorem dX4_init_35 : decode cX4_init 35 = .ok (.sipush 9999, 3) := by decide +kernel
theorem dX4_init_38 : decode cX4_init 38 = .ok (.iastore, 1) := by decide +kernel
theorem dX4_init_39 : decode cX4_init 39 = .ok (.dup, 1) := by decide +kernel
theorem dX4_init_40 : decode cX4_init 40 = .ok (.iconst 1, 1) := by decide +kernel
theorem dX4_init_41 : decode cX4_init 41 = .ok (.sipush 9999, 3) := by decide +kernel
theorem dX4_init_44 : decode cX4_init 44 = .ok (.iastore, 1) := by decide +kernel
theorem dX4_init_45 : decode cX4_init 45 = .ok (.dup, 1) := by decide +kernel
theorem dX4_init_46 : decode cX4_init 46 = .ok (.iconst 2, 1) := by decide +kernel
theorem dX4_init_47 : decode cX4_init 47 = .ok (.sipush 9999, 3) := by decide +kernel
theorem dX4_init_50 : decode cX4_init 50 = .ok (.iastore, 1) := by decide +kernel
theorem dX4_init_51 : decode cX4_init 51 = .ok (.putfield 26, 3) := by decide +kernel
theorem dX4_init_54 : decode cX4_init 54 = .ok (.aload_n 0, 1) := by decide +kernel
theorem dX4_init_55 : decode cX4_init 55 = .ok (.iconst 0, 1) := by decide +kernel
theorem dX4_init_56 : decode cX4_init 56 = .ok (.putfield 30, 3) := by decide +kernel
theorem dX4_init_59 : decode cX4_init 59 = .ok (.aload_n 0, 1) := by decide +kernel
theorem dX4_init_60 : decode cX4_init 60 = .ok (.iconst 0, 1) := by decide +kernel
theorem dX4_init_61 : decode cX4_init 61 = .ok (.putfield 33, 3) := by decide +kernel
theorem dX4_init_64 : decode cX4_init 64 = .ok (.aload_n 0, 1) := by decide +kernel
theorem dX4_init_65 : decode cX4_init 65 = .ok (.bipush 100, 2) := by decide +kernel
theorem dX4_init_67 : decode cX4_init 67 = .ok (.putfield 36, 3) := by decide +kernel
theorem dX4_init_70 : decode cX4_init 70 = .ok (.aload_n 0, 1) := by decide +kernel
theorem dX4_init_71 : decode cX4_init 71 = .ok (.new 39, 3) := by decide +kernel
theorem dX4_init_74 : decode cX4_init 74 = .ok (.dup, 1) := by decide +kernel
theorem dX4_init_75 : decode cX4_init 75 = .ok (.invokespecial 41, 3) := by decide +kernel
theorem dX4_init_78 : decode cX4_init 78 = .ok (.putfield 42, 3) := by decide +kernel
theorem dX4_init_81 : decode cX4_init 81 = .ok (.aload_n 0, 1) := by decide +kernel
theorem dX4_init_82 : decode cX4_init 82 = .ok (.iconst 0, 1) := by decide +kernel
theorem dX4_init_83 : decode cX4_init 83 = .ok (.putfield 46, 3) := by decide +kernel
theorem dX4_init_86 : decode cX4_init 86 = .ok (.aload_n 0, 1) := by decide +kernel
theorem dX4_init_87 : decode cX4_init 87 = .ok (.iconst 0, 1) := by decide +kernel
theorem dX4_init_88 : decode cX4_init 88 = .ok (.putfield 49, 3) := by decide +kernel
theorem dX4_init_91 : decode cX4_init 91 = .ok (.aload_n 0, 1) := by decide +kernel
theorem dX4_init_92 : decode cX4_init 92 = .ok (.iconst 4, 1) := by decide +kernel
theorem dX4_init_93 : decode cX4_init 93 = .ok (.anewarray 52, 3) := by decide +kernel
theorem dX4_init_96 : decode cX4_init 96 = .ok (.dup, 1) := by decide +kernel
theorem dX4_init_97 : decode cX4_init 97 = .ok (.iconst 0, 1) := by decide +kernel
theorem dX4_init_98 : decode cX4_init 98 = .ok (.new 52, 3) := by decide +kernel
theorem dX4_init_101 : decode cX4_init 101 = .ok (.dup, 1) := by decide +kernel
theorem dX4_init_102 : decode cX4_init 102 = .ok (.invokespecial 54, 3) := by decide +kernel
theorem dX4_init_105 : decode cX4_init 105 = .ok (.aastore, 1) := by decide +kernel
theorem dX4_init_106 : decode cX4_init 106 = .ok (.dup, 1) := by decide +kernel
theorem dX4_init_107 : decode cX4_init 107 = .ok (.iconst 1, 1) := by decide +kernel
theorem dX4_init_108 : decode cX4_init 108 = .ok (.new 52, 3) := by decide +kernel
theorem dX4_init_111 : decode cX4_init 111 = .ok (.dup, 1) := by decide +kernel
theorem dX4_init_112 : decode cX4_init 112 = .ok (.invokespecial 54, 3) := by decide +kernel
theorem dX4_init_115 : decode cX4_init 115 = .ok (.aastore, 1) := by decide +kernel
theorem dX4_init_116 : decode cX4_init 116 = .ok (.dup, 1) := by decide +kernel
theorem dX4_init_117 : decode cX4_init 117 = .ok (.iconst 2, 1) := by decide +kernel
theorem dX4_init_118 : decode cX4_init 118 = .ok (.new 52, 3) := by decide +kernel
theorem dX4_init_121 : decode cX4_init 121 = .ok (.dup, 1) := by decide +kernel
theorem dX4_init_122 : decode cX4_init 122 = .ok (.invokespecial 54, 3) := by decide +kernel
theorem dX4_init_125 : decode cX4_init 125 = .ok (.aastore, 1) := by decide +kernel
theorem dX4_init_126 : decode cX4_init 126 = .ok (.dup, 1) := by decide +kernel
theorem dX4_init_127 : decode cX4_init 127 = .ok (.iconst 3, 1) := by decide +kernel
theorem dX4_init_128 : decode cX4_init 128 = .ok (.new 52, 3) := by decide +kernel
theorem dX4_init_131 : decode cX4_init 131 = .ok (.dup, 1) := by decide +kernel
theorem dX4_init_132 : decode cX4_init 132 = .ok (.invokespecial 54, 3) := by decide +kernel
theorem dX4_init_135 : decode cX4_init 135 = .ok (.aastore, 1) := by decide +kernel
theorem dX4_init_136 : decode cX4_init 136 = .ok (.putfield 55, 3) := by decide +kernel
theorem dX4_init_139 : decode cX4_init 139 = .ok (.aload_n 0, 1) := by decide +kernel
theorem dX4_init_140 : decode cX4_init 140 = .ok (.iconst 0, 1) := by decide +kernel
theorem dX4_init_141 : decode cX4_init 141 = .ok (.putfield 59, 3) := by decide +kernel
theorem dX4_init_144 : decode cX4_init 144 = .ok (.aload_n 0, 1) := by decide +kernel
theorem dX4_init_145 : decode cX4_init 145 = .ok (.iconst 0, 1) := by decide +kernel
theorem dX4_init_146 : decode cX4_init 146 = .ok (.putfield 62, 3) := by decide +kernel
theorem dX4_init_149 : decode cX4_init 149 = .ok (.aload_n 0, 1) := by decide +kernel
theorem dX4_init_150 : decode cX4_init 150 = .ok (.lconst 0, 1) := by decide +kernel
theorem dX4_init_151 : decode cX4_init 151 = .ok (.putfield 65, 3) := by decide +kernel
theorem dX4_init_154 : decode cX4_init 154 = .ok (.aload_n 0, 1) := by decide +kernel
theorem dX4_init_155 : decode cX4_init 155 = .ok (.lconst 0, 1) := by decide +kernel
theorem dX4_init_156 : decode cX4_init 156 = .ok (.putfield 69, 3) := by decide +kernel
theorem dX4_init_159 : decode cX4_init 159 = .ok (.aload_n 0, 1) := by decide +kernel
theorem dX4_init_160 : decode cX4_init 160 = .ok (.iconst 0, 1) := by decide +kernel
theorem dX4_init_161 : decode cX4_init 161 = .ok (.putfield 72, 3) := by decide +kernel
theorem dX4_init_164 : decode cX4_init 164 = .ok (.return_, 1) := by decide +kernel
set_option maxRecDepth 20000 in
theorem ggX4_column_X4_isColumn : GoodIn wsX4_column wsX4_isColumn := goodIn_r _ [9] (by decide +kernel) (by decide +kernel)
set_option maxRecDepth 20000 in
theorem gX4_column_X4_isColumn : GoodIn wsX4_column (va_wsS RX4 75 yX4_isColumn wsX4_isColumn) := goodIn_app (goodIn_of _ (by decide +kernel)) ggX4_column_X4_isColumn
set_option maxRecDepth 20000 in
theorem ggX4_column_X2_build : GoodIn wsX4_column wsX2_build := goodIn_r _ [13, 14, 15, 7, 8, 9, 32, 33, 34] (by decide +kernel) (by decide +kernel)
set_option maxRecDepth 20000 in
theorem gX4_column_X2_build_n93 : GoodIn wsX4_column (wsX2_build) := ggX4_column_X2_build
theorem dX4_column_0 : decode cX4_column 0 = .ok (.iload_n 1, 1) := by decide +kernel
theorem dX4_column_1 : decode cX4_column 1 = .ok (.invokestatic 75, 3) := by decide +kernel
theorem dX4_column_4 : decode cX4_column 4 = .ok (.ifCond .ne 13, 3) := by decide +kernel
theorem dX4_column_7 : decode cX4_column 7 = .ok (.new 79, 3) := by decide +kernel
theorem dX4_column_10 : decode cX4_column 10 = .ok (.dup, 1) := by decide +kernel
theorem dX4_column_11 : decode cX4_column 11 = .ok (.ldc 81, 2) := by decide +kernel
theorem dX4_column_13 : decode cX4_column 13 = .ok (.invokespecial 83, 3) := by decide +kernel
theorem dX4_column_16 : decode cX4_column 16 = .ok (.athrow, 1) := by decide +kernel
theorem dX4_column_17 : decode cX4_column 17 = .ok (.iload_n 2, 1) := by decide +kernel
theorem dX4_column_18 : decode cX4_column 18 = .ok (.ifCond .lt 8, 3) := by decide +kernel
theorem dX4_column_21 : decode cX4_column 21 = .ok (.iload_n 2, 1) := by decide +kernel
theorem dX4_column_22 : decode cX4_column 22 = .ok (.iconst 2, 1) := by decide +kernel
theorem dX4_column_23 : decode cX4_column 23 = .ok (.if_icmp .le 13, 3) := by decide +kernel
theorem dX4_column_26 : decode cX4_column 26 = .ok (.new 86, 3) := by decide +kernel
theorem dX4_column_29 : decode cX4_column 29 = .ok (.dup, 1) := by decide +kernel
theorem dX4_column_30 : decode cX4_column 30 = .ok (.ldc 88, 2) := by decide +kernel
theorem dX4_column_32 : decode cX4_column 32 = .ok (.invokespecial 90, 3) := by decide +kernel
theorem dX4_column_35 : decode cX4_column 35 = .ok (.athrow, 1) := by decide +kernel
theorem dX4_column_36 : decode cX4_column 36 = .ok (.iload_n 3, 1) := by decide +kernel
theorem dX4_column_37 : decode cX4_column 37 = .ok (.ifCond .lt 8, 3) := by decide +kernel
theorem dX4_column_40 : decode cX4_column 40 = .ok (.iload_n 3, 1) := by decide +kernel
theorem dX4_column_41 : decode cX4_column 41 = .ok (.iconst 2, 1) := by decide +kernel
theorem dX4_column_42 : decode cX4_column 42 = .ok (.if_icmp .le 13, 3) := by decide +kernel
theorem dX4_column_45 : decode cX4_column 45 = .ok (.new 86, 3) := by decide +kernel
theorem dX4_column_48 : decode cX4_column 48 = .ok (.dup, 1) := by decide +kernel
theorem dX4_column_49 : decode cX4_column 49 = .ok (.ldc 91, 2) := by decide +kernel
theorem dX4_column_51 : decode cX4_column 51 = .ok (.invokespecial 90, 3) := by decide +kernel
theorem dX4_column_54 : decode cX4_column 54 = .ok (.athrow, 1) := by decide +kernel
theorem dX4_column_55 : decode cX4_column 55 = .ok (.aload_n 0, 1) := by decide +kernel
theorem dX4_column_56 : decode cX4_column 56 = .ok (.getfield 10, 3) := by decide +kernel
theorem dX4_column_59 : decode cX4_column 59 = .ok (.iload_n 1, 1) := by decide +kernel
theorem dX4_column_60 : decode cX4_column 60 = .ok (.iload_n 2, 1) := by decide +kernel
theorem dX4_column_61 : decode cX4_column 61 = .ok (.iload_n 3, 1) := by decide +kernel
theorem dX4_column_62 : decode cX4_column 62 = .ok (.invokevirtual 93, 3) := by decide +kernel
theorem dX4_column_65 : decode cX4_column 65 = .ok (.return_, 1) := by decide +kernel
set_option maxRecDepth 20000 in
theorem ggX4_cell_X4_isColumn : GoodIn wsX4_cell wsX4_isColumn := goodIn_r _ [11] (by decide +kernel) (by decide +kernel)
set_option maxRecDepth 20000 in
theorem gX4_cell_X4_isColumn : GoodIn wsX4_cell (va_wsS RX4 75 yX4_isColumn wsX4_isColumn) := goodIn_app (goodIn_of _ (by decide +kernel)) ggX4_cell_X4_isColumn
set_option maxRecDepth 20000 in
theorem ggX4_cell_X4_isOpenRow : GoodIn wsX4_cell wsX4_isOpenRow := goodIn_r _ [14] (by decide +kernel) (by decide +kernel)
set_option maxRecDepth 20000 in
theorem gX4_cell_X4_isOpenRow : GoodIn wsX4_cell (va_wsS RX4 97 yX4_isOpenRow wsX4_isOpenRow) := goodIn_app (goodIn_of _ (by decide +kernel)) ggX4_cell_X4_isOpenRow
set_option maxRecDepth 20000 in
theorem ggX4_cell_X2_contentOf : GoodIn wsX4_cell wsX2_contentOf := goodIn_r _ [18, 19, 20, 21, 16, 22, 42, 43, 44] (by decide +kernel) (by decide +kernel)
set_option maxRecDepth 20000 in
theorem gX4_cell_X2_contentOf_n104 : GoodIn wsX4_cell (wsX2_contentOf) := ggX4_cell_X2_contentOf
set_option maxRecDepth 20000 in
theorem ggX4_cell_X2_put : GoodIn wsX4_cell wsX2_put := goodIn_r _ [25, 19, 20, 21, 16, 22, 42, 43, 44] (by decide +kernel) (by decide +kernel)
set_option maxRecDepth 20000 in
theorem gX4_cell_X2_put_n113 : GoodIn wsX4_cell (wsX2_put) := ggX4_cell_X2_put
theorem dX4_cell_0 : decode cX4_cell 0 = .ok (.iload_n 1, 1) := by decide +kernel
theorem dX4_cell_1 : decode cX4_cell 1 = .ok (.invokestatic 75, 3) := by decide +kernel
theorem dX4_cell_4 : decode cX4_cell 4 = .ok (.ifCond .eq 10, 3) := by decide +kernel
theorem dX4_cell_7 : decode cX4_cell 7 = .ok (.iload_n 2, 1) := by decide +kernel
theorem dX4_cell_8 : decode cX4_cell 8 = .ok (.invokestatic 97, 3) := by decide +kernel
theorem dX4_cell_11 : decode cX4_cell 11 = .ok (.ifCond .ne 13, 3) := by decide +kernel
theorem dX4_cell_14 : decode cX4_cell 14 = .ok (.new 79, 3) := by decide +kernel
theorem dX4_cell_17 : decode cX4_cell 17 = .ok (.dup, 1) := by decide +kernel
theorem dX4_cell_18 : decode cX4_cell 18 = .ok (.ldc 100, 2) := by decide +kernel
theorem dX4_cell_20 : decode cX4_cell 20 = .ok (.invokespecial 83, 3) := by decide +kernel
theorem dX4_cell_23 : decode cX4_cell 23 = .ok (.athrow, 1) := by decide +kernel
theorem dX4_cell_24 : decode cX4_cell 24 = .ok (.iload_n 3, 1) := by decide +kernel
theorem dX4_cell_25 : decode cX4_cell 25 = .ok (.ifCond .lt 8, 3) := by decide +kernel
theorem dX4_cell_28 : decode cX4_cell 28 = .ok (.iload_n 3, 1) := by decide +kernel
theorem dX4_cell_29 : decode cX4_cell 29 = .ok (.iconst 3, 1) := by decide +kernel
theorem dX4_cell_30 : decode cX4_cell 30 = .ok (.if_icmp .le 13, 3) := by decide +kernel
theorem dX4_cell_33 : decode cX4_cell 33 = .ok (.new 86, 3) := by decide +kernel
theorem dX4_cell_36 : decode cX4_cell 36 = .ok (.dup, 1) := by decide +kernel
theorem dX4_cell_37 : decode cX4_cell 37 = .ok (.ldc 102, 2) := by decide +kernel
theorem dX4_cell_39 : decode cX4_cell 39 = .ok (.invokespecial 90, 3) := by decide +kernel
theorem dX4_cell_42 : decode cX4_cell 42 = .ok (.athrow, 1) := by decide +kernel
theorem dX4_cell_43 : decode cX4_cell 43 = .ok (.aload_n 0, 1) := by decide +kernel
theorem dX4_cell_44 : decode cX4_cell 44 = .ok (.getfield 10, 3) := by decide +kernel
theorem dX4_cell_47 : decode cX4_cell 47 = .ok (.iload_n 1, 1) := by decide +kernel
theorem dX4_cell_48 : decode cX4_cell 48 = .ok (.iload_n 2, 1) := by decide +kernel
theorem dX4_cell_49 : decode cX4_cell 49 = .ok (.invokevirtual 104, 3) := by decide +kernel
theorem dX4_cell_52 : decode cX4_cell 52 = .ok (.istore 4, 2) := by decide +kernel
theorem dX4_cell_54 : decode cX4_cell 54 = .ok (.iload 4, 2) := by decide +kernel
theorem dX4_cell_56 : decode cX4_cell 56 = .ok (.iconst 4, 1) := by decide +kernel
theorem dX4_cell_57 : decode cX4_cell 57 = .ok (.if_icmp .ne 13, 3) := by decide +kernel
theorem dX4_cell_60 : decode cX4_cell 60 = .ok (.new 108, 3) := by decide +kernel
theorem dX4_cell_63 : decode cX4_cell 63 = .ok (.dup, 1) := by decide +kernel
theorem dX4_cell_64 : decode cX4_cell 64 = .ok (.ldc 110, 2) := by decide +kernel
theorem dX4_cell_66 : decode cX4_cell 66 = .ok (.invokespecial 112, 3) := by decide +kernel
theorem dX4_cell_69 : decode cX4_cell 69 = .ok (.athrow, 1) := by decide +kernel
theorem dX4_cell_70 : decode cX4_cell 70 = .ok (.aload_n 0, 1) := by decide +kernel
theorem dX4_cell_71 : decode cX4_cell 71 = .ok (.getfield 10, 3) := by decide +kernel
theorem dX4_cell_74 : decode cX4_cell 74 = .ok (.iload_n 1, 1) := by decide +kernel
theorem dX4_cell_75 : decode cX4_cell 75 = .ok (.iload_n 2, 1) := by decide +kernel
theorem dX4_cell_76 : decode cX4_cell 76 = .ok (.iload_n 3, 1) := by decide +kernel
theorem dX4_cell_77 : decode cX4_cell 77 = .ok (.invokevirtual 113, 3) := by decide +kernel
theorem dX4_cell_80 : decode cX4_cell 80 = .ok (.iload 4, 2) := by decide +kernel
theorem dX4_cell_82 : decode cX4_cell 82 = .ok (.ireturn, 1) := by decide +kernel
theorem dX4_need_0 : decode cX4_need 0 = .ok (.iload_n 1, 1) := by decide +kernel
theorem dX4_need_1 : decode cX4_need 1 = .ok (.ifCond .lt 9, 3) := by decide +kernel
theorem dX4_need_4 : decode cX4_need 4 = .ok (.iload_n 1, 1) := by decide +kernel
theorem dX4_need_5 : decode cX4_need 5 = .ok (.ldc 116, 2) := by decide +kernel
theorem dX4_need_7 : decode cX4_need 7 = .ok (.if_icmp .le 13, 3) := by decide +kernel
theorem dX4_need_10 : decode cX4_need 10 = .ok (.new 86, 3) := by decide +kernel
theorem dX4_need_13 : decode cX4_need 13 = .ok (.dup, 1) := by decide +kernel
theorem dX4_need_14 : decode cX4_need 14 = .ok (.ldc 117, 2) := by decide +kernel
theorem dX4_need_16 : decode cX4_need 16 = .ok (.invokespecial 90, 3) := by decide +kernel
theorem dX4_need_19 : decode cX4_need 19 = .ok (.athrow, 1) := by decide +kernel
theorem dX4_need_20 : decode cX4_need 20 = .ok (.iload_n 2, 1) := by decide +kernel
theorem dX4_need_21 : decode cX4_need 21 = .ok (.iconst 1, 1) := by decide +kernel
theorem dX4_need_22 : decode cX4_need 22 = .ok (.if_icmp .lt 10, 3) := by decide +kernel
theorem dX4_need_25 : decode cX4_need 25 = .ok (.iload_n 2, 1) := by decide +kernel
theorem dX4_need_26 : decode cX4_need 26 = .ok (.sipush 9999, 3) := by decide +kernel
theorem dX4_need_29 : decode cX4_need 29 = .ok (.if_icmp .le 13, 3) := by decide +kernel
theorem dX4_need_32 : decode cX4_need 32 = .ok (.new 86, 3) := by decide +kernel
theorem dX4_need_35 : decode cX4_need 35 = .ok (.dup, 1) := by decide +kernel
theorem dX4_need_36 : decode cX4_need 36 = .ok (.ldc 119, 2) := by decide +kernel
theorem dX4_need_38 : decode cX4_need 38 = .ok (.invokespecial 90, 3) := by decide +kernel
theorem dX4_need_41 : decode cX4_need 41 = .ok (.athrow, 1) := by decide +kernel
theorem dX4_need_42 : decode cX4_need 42 = .ok (.aload_n 0, 1) := by decide +kernel
theorem dX4_need_43 : decode cX4_need 43 = .ok (.iload_n 1, 1) := by decide +kernel
theorem dX4_need_44 : decode cX4_need 44 = .ok (.putfield 33, 3) := by decide +kernel
theorem dX4_need_47 : decode cX4_need 47 = .ok (.aload_n 0, 1) := by decide +kernel
theorem dX4_need_48 : decode cX4_need 48 = .ok (.iload_n 2, 1) := by decide +kernel
theorem dX4_need_49 : decode cX4_need 49 = .ok (.putfield 36, 3) := by decide +kernel
theorem dX4_need_52 : decode cX4_need 52 = .ok (.return_, 1) := by decide +kernel
set_option maxRecDepth 20000 in
theorem ggX4_projector_X4_isColumn : GoodIn wsX4_projector wsX4_isColumn := goodIn_r _ [16] (by decide +kernel) (by decide +kernel)
set_option maxRecDepth 20000 in
theorem gX4_projector_X4_isColumn : GoodIn wsX4_projector (va_wsS RX4 75 yX4_isColumn wsX4_isColumn) := goodIn_app (goodIn_of _ (by decide +kernel)) ggX4_projector_X4_isColumn
set_option maxRecDepth 20000 in
theorem ggX4_projector_X4_isOpenRow : GoodIn wsX4_projector wsX4_isOpenRow := goodIn_r _ [19] (by decide +kernel) (by decide +kernel)
set_option maxRecDepth 20000 in
theorem gX4_projector_X4_isOpenRow : GoodIn wsX4_projector (va_wsS RX4 97 yX4_isOpenRow wsX4_isOpenRow) := goodIn_app (goodIn_of _ (by decide +kernel)) ggX4_projector_X4_isOpenRow
set_option maxRecDepth 20000 in
theorem ggX4_projector_X4_isPhase : GoodIn wsX4_projector wsX4_isPhase := goodIn_r _ [22] (by decide +kernel) (by decide +kernel)
set_option maxRecDepth 20000 in
theorem gX4_projector_X4_isPhase : GoodIn wsX4_projector (va_wsS RX4 123 yX4_isPhase wsX4_isPhase) := goodIn_app (goodIn_of _ (by decide +kernel)) ggX4_projector_X4_isPhase
set_option maxRecDepth 20000 in
theorem ggX4_projector_X2_contentOf : GoodIn wsX4_projector wsX2_contentOf := goodIn_r _ [26, 27, 28, 29, 24, 30, 72, 73, 74] (by decide +kernel) (by decide +kernel)
set_option maxRecDepth 20000 in
theorem gX4_projector_X2_contentOf_n104 : GoodIn wsX4_projector (wsX2_contentOf) := ggX4_projector_X2_contentOf
set_option maxRecDepth 20000 in
theorem ggX4_projector_X2_put : GoodIn wsX4_projector wsX2_put := goodIn_r _ [33, 27, 28, 29, 24, 30, 72, 73, 74] (by decide +kernel) (by decide +kernel)
set_option maxRecDepth 20000 in
theorem gX4_projector_X2_put_n113 : GoodIn wsX4_projector (wsX2_put) := ggX4_projector_X2_put
set_option maxRecDepth 20000 in
theorem ggX4_projector_X0_init : GoodIn wsX4_projector wsX0_init := goodIn_r _ [35, 36, 37, 38, 39, 40, 41, 42, 43, 44, 45, 62, 63, 64, 65, 66, 67, 68, 69, 70, 71] (by decide +kernel) (by decide +kernel)
set_option maxRecDepth 20000 in
theorem gX4_projector_X0_init_n134 : GoodIn wsX4_projector (wsX0_init) := ggX4_projector_X0_init
theorem dX4_projector_0 : decode cX4_projector 0 = .ok (.iload_n 1, 1) := by decide +kernel
theorem dX4_projector_1 : decode cX4_projector 1 = .ok (.invokestatic 75, 3) := by decide +kernel
theorem dX4_projector_4 : decode cX4_projector 4 = .ok (.ifCond .eq 10, 3) := by decide +kernel
theorem dX4_projector_7 : decode cX4_projector 7 = .ok (.iload_n 2, 1) := by decide +kernel
theorem dX4_projector_8 : decode cX4_projector 8 = .ok (.invokestatic 97, 3) := by decide +kernel
theorem dX4_projector_11 : decode cX4_projector 11 = .ok (.ifCond .ne 13, 3) := by decide +kernel
theorem dX4_projector_14 : decode cX4_projector 14 = .ok (.new 79, 3) := by decide +kernel
theorem dX4_projector_17 : decode cX4_projector 17 = .ok (.dup, 1) := by decide +kernel
theorem dX4_projector_18 : decode cX4_projector 18 = .ok (.ldc 100, 2) := by decide +kernel
theorem dX4_projector_20 : decode cX4_projector 20 = .ok (.invokespecial 83, 3) := by decide +kernel
theorem dX4_projector_23 : decode cX4_projector 23 = .ok (.athrow, 1) := by decide +kernel
theorem dX4_projector_24 : decode cX4_projector 24 = .ok (.iload_n 3, 1) := by decide +kernel
theorem dX4_projector_25 : decode cX4_projector 25 = .ok (.iconst 1, 1) := by decide +kernel
theorem dX4_projector_26 : decode cX4_projector 26 = .ok (.if_icmp .lt 10, 3) := by decide +kernel
theorem dX4_projector_29 : decode cX4_projector 29 = .ok (.iload_n 3, 1) := by decide +kernel
theorem dX4_projector_30 : decode cX4_projector 30 = .ok (.sipush 9999, 3) := by decide +kernel
theorem dX4_projector_33 : decode cX4_projector 33 = .ok (.if_icmp .le 13, 3) := by decide +kernel
theorem dX4_projector_36 : decode cX4_projector 36 = .ok (.new 86, 3) := by decide +kernel
theorem dX4_projector_39 : decode cX4_projector 39 = .ok (.dup, 1) := by decide +kernel
theorem dX4_projector_40 : decode cX4_projector 40 = .ok (.ldc 121, 2) := by decide +kernel
theorem dX4_projector_42 : decode cX4_projector 42 = .ok (.invokespecial 90, 3) := by decide +kernel
theorem dX4_projector_45 : decode cX4_projector 45 = .ok (.athrow, 1) := by decide +kernel
theorem dX4_projector_46 : decode cX4_projector 46 = .ok (.iload 4, 2) := by decide +kernel
theorem dX4_projector_48 : decode cX4_projector 48 = .ok (.invokestatic 123, 3) := by decide +kernel
theorem dX4_projector_51 : decode cX4_projector 51 = .ok (.ifCond .ne 13, 3) := by decide +kernel
theorem dX4_projector_54 : decode cX4_projector 54 = .ok (.new 86, 3) := by decide +kernel
theorem dX4_projector_57 : decode cX4_projector 57 = .ok (.dup, 1) := by decide +kernel
theorem dX4_projector_58 : decode cX4_projector 58 = .ok (.ldc 126, 2) := by decide +kernel
theorem dX4_projector_60 : decode cX4_projector 60 = .ok (.invokespecial 90, 3) := by decide +kernel
theorem dX4_projector_63 : decode cX4_projector 63 = .ok (.athrow, 1) := by decide +kernel
theorem dX4_projector_64 : decode cX4_projector 64 = .ok (.iload 5, 2) := by decide +kernel
theorem dX4_projector_66 : decode cX4_projector 66 = .ok (.iconst 1, 1) := by decide +kernel
theorem dX4_projector_67 : decode cX4_projector 67 = .ok (.if_icmp .lt 10, 3) := by decide +kernel
theorem dX4_projector_70 : decode cX4_projector 70 = .ok (.iload 5, 2) := by decide +kernel
theorem dX4_projector_72 : decode cX4_projector 72 = .ok (.bipush 11, 2) := by decide +kernel
theorem dX4_projector_74 : decode cX4_projector 74 = .ok (.if_icmp .le 13, 3) := by decide +kernel
theorem dX4_projector_77 : decode cX4_projector 77 = .ok (.new 86, 3) := by decide +kernel
theorem dX4_projector_80 : decode cX4_projector 80 = .ok (.dup, 1) := by decide +kernel
theorem dX4_projector_81 : decode cX4_projector 81 = .ok (.ldc 128, 2) := by decide +kernel
theorem dX4_projector_83 : decode cX4_projector 83 = .ok (.invokespecial 90, 3) := by decide +kernel
theorem dX4_projector_86 : decode cX4_projector 86 = .ok (.athrow, 1) := by decide +kernel
theorem dX4_projector_87 : decode cX4_projector 87 = .ok (.aload_n 0, 1) := by decide +kernel
theorem dX4_projector_88 : decode cX4_projector 88 = .ok (.getfield 10, 3) := by decide +kernel
theorem dX4_projector_91 : decode cX4_projector 91 = .ok (.iload_n 1, 1) := by decide +kernel
theorem dX4_projector_92 : decode cX4_projector 92 = .ok (.iload_n 2, 1) := by decide +kernel
theorem dX4_projector_93 : decode cX4_projector 93 = .ok (.invokevirtual 104, 3) := by decide +kernel
theorem dX4_projector_96 : decode cX4_projector 96 = .ok (.ifCond .eq 13, 3) := by decide +kernel
theorem dX4_projector_99 : decode cX4_projector 99 = .ok (.new 108, 3) := by decide +kernel
theorem dX4_projector_102 : decode cX4_projector 102 = .ok (.dup, 1) := by decide +kernel
theorem dX4_projector_103 : decode cX4_projector 103 = .ok (.ldc 130, 2) := by decide +kernel
theorem dX4_projector_105 : decode cX4_projector 105 = .ok (.invokespecial 112, 3) := by decide +kernel
theorem dX4_projector_108 : decode cX4_projector 108 = .ok (.athrow, 1) := by decide +kernel
theorem dX4_projector_109 : decode cX4_projector 109 = .ok (.aload_n 0, 1) := by decide +kernel
theorem dX4_projector_110 : decode cX4_projector 110 = .ok (.getfield 22, 3) := by decide +kernel
theorem dX4_projector_113 : decode cX4_projector 113 = .ok (.istore 6, 2) := by decide +kernel
theorem dX4_projector_115 : decode cX4_projector 115 = .ok (.iload 6, 2) := by decide +kernel
theorem dX4_projector_117 : decode cX4_projector 117 = .ok (.ifCond .lt 13, 3) := by decide +kernel
theorem dX4_projector_120 : decode cX4_projector 120 = .ok (.iload 6, 2) := by decide +kernel
theorem dX4_projector_122 : decode cX4_projector 122 = .ok (.aload_n 0, 1) := by decide +kernel
theorem dX4_projector_123 : decode cX4_projector 123 = .ok (.getfield 18, 3) := by decide +kernel
theorem dX4_projector_126 : decode cX4_projector 126 = .ok (.arraylength, 1) := by decide +kernel
theorem dX4_projector_127 : decode cX4_projector 127 = .ok (.if_icmp .lt 13, 3) := by decide +kernel
theorem dX4_projector_130 : decode cX4_projector 130 = .ok (.new 108, 3) := by decide +kernel
theorem dX4_projector_133 : decode cX4_projector 133 = .ok (.dup, 1) := by decide +kernel
theorem dX4_projector_134 : decode cX4_projector 134 = .ok (.ldc 132, 2) := by decide +kernel
theorem dX4_projector_136 : decode cX4_projector 136 = .ok (.invokespecial 112, 3) := by decide +kernel
theorem dX4_projector_139 : decode cX4_projector 139 = .ok (.athrow, 1) := by decide +kernel
theorem dX4_projector_140 : decode cX4_projector 140 = .ok (.aload_n 0, 1) := by decide +kernel
theorem dX4_projector_141 : decode cX4_projector 141 = .ok (.getfield 10, 3) := by decide +kernel
theorem dX4_projector_144 : decode cX4_projector 144 = .ok (.iload_n 1, 1) := by decide +kernel
theorem dX4_projector_145 : decode cX4_projector 145 = .ok (.iload_n 2, 1) := by decide +kernel
theorem dX4_projector_146 : decode cX4_projector 146 = .ok (.iconst 4, 1) := by decide +kernel
theorem dX4_projector_147 : decode cX4_projector 147 = .ok (.invokevirtual 113, 3) := by decide +kernel
theorem dX4_projector_150 : decode cX4_projector 150 = .ok (.aload_n 0, 1) := by decide +kernel
theorem dX4_projector_151 : decode cX4_projector 151 = .ok (.getfield 18, 3) := by decide +kernel
theorem dX4_projector_154 : decode cX4_projector 154 = .ok (.iload 6, 2) := by decide +kernel
theorem dX4_projector_156 : decode cX4_projector 156 = .ok (.new 16, 3) := by decide +kernel
theorem dX4_projector_159 : decode cX4_projector 159 = .ok (.dup, 1) := by decide +kernel
theorem dX4_projector_160 : decode cX4_projector 160 = .ok (.iload_n 1, 1) := by decide +kernel
theorem dX4_projector_161 : decode cX4_projector 161 = .ok (.iload_n 2, 1) := by decide +kernel
theorem dX4_projector_162 : decode cX4_projector 162 = .ok (.iload_n 3, 1) := by decide +kernel
theorem dX4_projector_163 : decode cX4_projector 163 = .ok (.iload 4, 2) := by decide +kernel
theorem dX4_projector_165 : decode cX4_projector 165 = .ok (.iload 5, 2) := by decide +kernel
theorem dX4_projector_167 : decode cX4_projector 167 = .ok (.invokespecial 134, 3) := by decide +kernel
theorem dX4_projector_170 : decode cX4_projector 170 = .ok (.aastore, 1) := by decide +kernel
theorem dX4_projector_171 : decode cX4_projector 171 = .ok (.aload_n 0, 1) := by decide +kernel
theorem dX4_projector_172 : decode cX4_projector 172 = .ok (.iload 6, 2) := by decide +kernel
theorem dX4_projector_174 : decode cX4_projector 174 = .ok (.iconst 1, 1) := by decide +kernel
theorem dX4_projector_175 : decode cX4_projector 175 = .ok (.iadd, 1) := by decide +kernel
theorem dX4_projector_176 : decode cX4_projector 176 = .ok (.putfield 22, 3) := by decide +kernel
theorem dX4_projector_179 : decode cX4_projector 179 = .ok (.iload 6, 2) := by decide +kernel
theorem dX4_projector_181 : decode cX4_projector 181 = .ok (.ireturn, 1) := by decide +kernel
set_option maxRecDepth 20000 in
theorem ggX4_aim_X4_find : GoodIn wsX4_aim wsX4_find := goodIn_r _ [9, 10, 11, 25, 26, 27, 28, 29, 30, 31, 32, 33, 34, 35, 36, 37, 38, 39, 40] (by decide +kernel) (by decide +kernel)
set_option maxRecDepth 20000 in
theorem gX4_aim_X4_find : GoodIn wsX4_aim (wsV RX4 137 RX4 yX4_find wsX4_find) := goodIn_app (goodIn_of _ (by decide +kernel)) ggX4_aim_X4_find
set_option maxRecDepth 20000 in
theorem ggX4_aim_X4_isColumn : GoodIn wsX4_aim wsX4_isColumn := goodIn_r _ [14] (by decide +kernel) (by decide +kernel)
set_option maxRecDepth 20000 in
theorem gX4_aim_X4_isColumn : GoodIn wsX4_aim (va_wsS RX4 75 yX4_isColumn wsX4_isColumn) := goodIn_app (goodIn_of _ (by decide +kernel)) ggX4_aim_X4_isColumn
theorem dX4_aim_0 : decode cX4_aim 0 = .ok (.aload_n 0, 1) := by decide +kernel
theorem dX4_aim_1 : decode cX4_aim 1 = .ok (.iload_n 1, 1) := by decide +kernel
theorem dX4_aim_2 : decode cX4_aim 2 = .ok (.invokevirtual 137, 3) := by decide +kernel
theorem dX4_aim_5 : decode cX4_aim 5 = .ok (.astore 4, 2) := by decide +kernel
theorem dX4_aim_7 : decode cX4_aim 7 = .ok (.aload 4, 2) := by decide +kernel
theorem dX4_aim_9 : decode cX4_aim 9 = .ok (.ifnonnull 13, 3) := by decide +kernel
theorem dX4_aim_12 : decode cX4_aim 12 = .ok (.new 79, 3) := by decide +kernel
theorem dX4_aim_15 : decode cX4_aim 15 = .ok (.dup, 1) := by decide +kernel
theorem dX4_aim_16 : decode cX4_aim 16 = .ok (.ldc 141, 2) := by decide +kernel
theorem dX4_aim_18 : decode cX4_aim 18 = .ok (.invokespecial 83, 3) := by decide +kernel
theorem dX4_aim_21 : decode cX4_aim 21 = .ok (.athrow, 1) := by decide +kernel
theorem dX4_aim_22 : decode cX4_aim 22 = .ok (.iload_n 2, 1) := by decide +kernel
theorem dX4_aim_23 : decode cX4_aim 23 = .ok (.invokestatic 75, 3) := by decide +kernel
theorem dX4_aim_26 : decode cX4_aim 26 = .ok (.ifCond .eq 10, 3) := by decide +kernel
theorem dX4_aim_29 : decode cX4_aim 29 = .ok (.iload_n 3, 1) := by decide +kernel
theorem dX4_aim_30 : decode cX4_aim 30 = .ok (.invokestatic 75, 3) := by decide +kernel
theorem dX4_aim_33 : decode cX4_aim 33 = .ok (.ifCond .ne 13, 3) := by decide +kernel
theorem dX4_aim_36 : decode cX4_aim 36 = .ok (.new 79, 3) := by decide +kernel
theorem dX4_aim_39 : decode cX4_aim 39 = .ok (.dup, 1) := by decide +kernel
theorem dX4_aim_40 : decode cX4_aim 40 = .ok (.ldc 81, 2) := by decide +kernel
theorem dX4_aim_42 : decode cX4_aim 42 = .ok (.invokespecial 83, 3) := by decide +kernel
theorem dX4_aim_45 : decode cX4_aim 45 = .ok (.athrow, 1) := by decide +kernel
theorem dX4_aim_46 : decode cX4_aim 46 = .ok (.iload_n 3, 1) := by decide +kernel
theorem dX4_aim_47 : decode cX4_aim 47 = .ok (.iload_n 2, 1) := by decide +kernel
theorem dX4_aim_48 : decode cX4_aim 48 = .ok (.if_icmp .lt 11, 3) := by decide +kernel
theorem dX4_aim_51 : decode cX4_aim 51 = .ok (.iload_n 3, 1) := by decide +kernel
theorem dX4_aim_52 : decode cX4_aim 52 = .ok (.iload_n 2, 1) := by decide +kernel
theorem dX4_aim_53 : decode cX4_aim 53 = .ok (.bipush 7, 2) := by decide +kernel
theorem dX4_aim_55 : decode cX4_aim 55 = .ok (.iadd, 1) := by decide +kernel
theorem dX4_aim_56 : decode cX4_aim 56 = .ok (.if_icmp .le 13, 3) := by decide +kernel
theorem dX4_aim_59 : decode cX4_aim 59 = .ok (.new 86, 3) := by decide +kernel
theorem dX4_aim_62 : decode cX4_aim 62 = .ok (.dup, 1) := by decide +kernel
theorem dX4_aim_63 : decode cX4_aim 63 = .ok (.ldc 143, 2) := by decide +kernel
theorem dX4_aim_65 : decode cX4_aim 65 = .ok (.invokespecial 90, 3) := by decide +kernel
theorem dX4_aim_68 : decode cX4_aim 68 = .ok (.athrow, 1) := by decide +kernel
theorem dX4_aim_69 : decode cX4_aim 69 = .ok (.aload 4, 2) := by decide +kernel
theorem dX4_aim_71 : decode cX4_aim 71 = .ok (.iload_n 2, 1) := by decide +kernel
theorem dX4_aim_72 : decode cX4_aim 72 = .ok (.putfield 145, 3) := by decide +kernel
theorem dX4_aim_75 : decode cX4_aim 75 = .ok (.aload 4, 2) := by decide +kernel
theorem dX4_aim_77 : decode cX4_aim 77 = .ok (.iload_n 3, 1) := by decide +kernel
theorem dX4_aim_78 : decode cX4_aim 78 = .ok (.putfield 148, 3) := by decide +kernel
theorem dX4_aim_81 : decode cX4_aim 81 = .ok (.return_, 1) := by decide +kernel
set_option maxRecDepth 20000 in
theorem ggX4_turn_X4_find : GoodIn wsX4_turn wsX4_find := goodIn_r _ [9, 10, 11, 34, 35, 36, 37, 38, 39, 40, 41, 42, 43, 44, 45, 46, 47, 48, 49] (by decide +kernel) (by decide +kernel)
set_option maxRecDepth 20000 in
theorem gX4_turn_X4_find : GoodIn wsX4_turn (wsV RX4 137 RX4 yX4_find wsX4_find) := goodIn_app (goodIn_of _ (by decide +kernel)) ggX4_turn_X4_find
set_option maxRecDepth 20000 in
theorem ggX4_turn_X4_loadOf : GoodIn wsX4_turn wsX4_loadOf := goodIn_r _ [15, 5, 6, 7, 8, 9, 10, 11, 24, 25, 26, 27, 28, 29, 30, 31, 32, 33, 34, 35, 36, 37, 38, 39, 40, 41, 42, 43, 44, 45, 46, 47, 48, 49] (by decide +kernel) (by decide +kernel)
set_option maxRecDepth 20000 in
theorem gX4_turn_X4_loadOf : GoodIn wsX4_turn (wsV RX4 158 RX4 yX4_loadOf wsX4_loadOf) := goodIn_app (goodIn_of _ (by decide +kernel)) ggX4_turn_X4_loadOf
set_option maxRecDepth 20000 in
theorem ggX4_turn_X4_borneBy : GoodIn wsX4_turn wsX4_borneBy := goodIn_r _ [19, 20, 21, 22, 8, 23, 34, 35, 36, 37, 38, 39, 40, 41, 42, 43, 44, 45, 46, 47, 48, 49] (by decide +kernel) (by decide +kernel)
set_option maxRecDepth 20000 in
theorem gX4_turn_X4_borneBy : GoodIn wsX4_turn (wsV RX4 165 RX4 yX4_borneBy wsX4_borneBy) := goodIn_app (goodIn_of _ (by decide +kernel)) ggX4_turn_X4_borneBy
theorem dX4_turn_0 : decode cX4_turn 0 = .ok (.aload_n 0, 1) := by decide +kernel
theorem dX4_turn_1 : decode cX4_turn 1 = .ok (.iload_n 1, 1) := by decide +kernel
theorem dX4_turn_2 : decode cX4_turn 2 = .ok (.invokevirtual 137, 3) := by decide +kernel
theorem dX4_turn_5 : decode cX4_turn 5 = .ok (.astore_n 3, 1) := by decide +kernel
theorem dX4_turn_6 : decode cX4_turn 6 = .ok (.aload_n 3, 1) := by decide +kernel
theorem dX4_turn_7 : decode cX4_turn 7 = .ok (.ifnonnull 13, 3) := by decide +kernel
theorem dX4_turn_10 : decode cX4_turn 10 = .ok (.new 79, 3) := by decide +kernel
theorem dX4_turn_13 : decode cX4_turn 13 = .ok (.dup, 1) := by decide +kernel
theorem dX4_turn_14 : decode cX4_turn 14 = .ok (.ldc 141, 2) := by decide +kernel
theorem dX4_turn_16 : decode cX4_turn 16 = .ok (.invokespecial 83, 3) := by decide +kernel
theorem dX4_turn_19 : decode cX4_turn 19 = .ok (.athrow, 1) := by decide +kernel
theorem dX4_turn_20 : decode cX4_turn 20 = .ok (.aload_n 3, 1) := by decide +kernel
theorem dX4_turn_21 : decode cX4_turn 21 = .ok (.getfield 151, 3) := by decide +kernel
theorem dX4_turn_24 : decode cX4_turn 24 = .ok (.istore 4, 2) := by decide +kernel
theorem dX4_turn_26 : decode cX4_turn 26 = .ok (.iload_n 2, 1) := by decide +kernel
theorem dX4_turn_27 : decode cX4_turn 27 = .ok (.ifCond .eq 42, 3) := by decide +kernel
theorem dX4_turn_30 : decode cX4_turn 30 = .ok (.iload 4, 2) := by decide +kernel
theorem dX4_turn_32 : decode cX4_turn 32 = .ok (.ifCond .ne 37, 3) := by decide +kernel
theorem dX4_turn_35 : decode cX4_turn 35 = .ok (.aload_n 0, 1) := by decide +kernel
theorem dX4_turn_36 : decode cX4_turn 36 = .ok (.aload_n 3, 1) := by decide +kernel
theorem dX4_turn_37 : decode cX4_turn 37 = .ok (.getfield 155, 3) := by decide +kernel
theorem dX4_turn_40 : decode cX4_turn 40 = .ok (.invokevirtual 158, 3) := by decide +kernel
theorem dX4_turn_43 : decode cX4_turn 43 = .ok (.aload_n 3, 1) := by decide +kernel
theorem dX4_turn_44 : decode cX4_turn 44 = .ok (.getfield 162, 3) := by decide +kernel
theorem dX4_turn_47 : decode cX4_turn 47 = .ok (.iadd, 1) := by decide +kernel
theorem dX4_turn_48 : decode cX4_turn 48 = .ok (.aload_n 0, 1) := by decide +kernel
theorem dX4_turn_49 : decode cX4_turn 49 = .ok (.aload_n 3, 1) := by decide +kernel
theorem dX4_turn_50 : decode cX4_turn 50 = .ok (.getfield 155, 3) := by decide +kernel
theorem dX4_turn_53 : decode cX4_turn 53 = .ok (.invokevirtual 165, 3) := by decide +kernel
theorem dX4_turn_56 : decode cX4_turn 56 = .ok (.if_icmp .le 13, 3) := by decide +kernel
theorem dX4_turn_59 : decode cX4_turn 59 = .ok (.new 108, 3) := by decide +kernel
theorem dX4_turn_62 : decode cX4_turn 62 = .ok (.dup, 1) := by decide +kernel
theorem dX4_turn_63 : decode cX4_turn 63 = .ok (.ldc 168, 2) := by decide +kernel
theorem dX4_turn_65 : decode cX4_turn 65 = .ok (.invokespecial 112, 3) := by decide +kernel
theorem dX4_turn_68 : decode cX4_turn 68 = .ok (.athrow, 1) := by decide +kernel
theorem dX4_turn_69 : decode cX4_turn 69 = .ok (.aload_n 3, 1) := by decide +kernel
theorem dX4_turn_70 : decode cX4_turn 70 = .ok (.iload_n 2, 1) := by decide +kernel
theorem dX4_turn_71 : decode cX4_turn 71 = .ok (.putfield 151, 3) := by decide +kernel
theorem dX4_turn_74 : decode cX4_turn 74 = .ok (.iload 4, 2) := by decide +kernel
theorem dX4_turn_76 : decode cX4_turn 76 = .ok (.ireturn, 1) := by decide +kernel
set_option maxRecDepth 20000 in
theorem ggX4_fail_X4_find : GoodIn wsX4_fail wsX4_find := goodIn_r _ [7, 8, 9, 20, 21, 22, 23, 24, 25, 26, 27, 28, 29, 30, 31, 32, 33, 34, 35] (by decide +kernel) (by decide +kernel)
set_option maxRecDepth 20000 in
theorem gX4_fail_X4_find : GoodIn wsX4_fail (wsV RX4 137 RX4 yX4_find wsX4_find) := goodIn_app (goodIn_of _ (by decide +kernel)) ggX4_fail_X4_find
theorem dX4_fail_0 : decode cX4_fail 0 = .ok (.aload_n 0, 1) := by decide +kernel
theorem dX4_fail_1 : decode cX4_fail 1 = .ok (.iload_n 1, 1) := by decide +kernel
theorem dX4_fail_2 : decode cX4_fail 2 = .ok (.invokevirtual 137, 3) := by decide +kernel
theorem dX4_fail_5 : decode cX4_fail 5 = .ok (.astore_n 3, 1) := by decide +kernel
theorem dX4_fail_6 : decode cX4_fail 6 = .ok (.aload_n 3, 1) := by decide +kernel
theorem dX4_fail_7 : decode cX4_fail 7 = .ok (.ifnonnull 13, 3) := by decide +kernel
theorem dX4_fail_10 : decode cX4_fail 10 = .ok (.new 79, 3) := by decide +kernel
theorem dX4_fail_13 : decode cX4_fail 13 = .ok (.dup, 1) := by decide +kernel
theorem dX4_fail_14 : decode cX4_fail 14 = .ok (.ldc 141, 2) := by decide +kernel
theorem dX4_fail_16 : decode cX4_fail 16 = .ok (.invokespecial 83, 3) := by decide +kernel
theorem dX4_fail_19 : decode cX4_fail 19 = .ok (.athrow, 1) := by decide +kernel
theorem dX4_fail_20 : decode cX4_fail 20 = .ok (.aload_n 3, 1) := by decide +kernel
theorem dX4_fail_21 : decode cX4_fail 21 = .ok (.getfield 170, 3) := by decide +kernel
theorem dX4_fail_24 : decode cX4_fail 24 = .ok (.istore 4, 2) := by decide +kernel
theorem dX4_fail_26 : decode cX4_fail 26 = .ok (.aload_n 3, 1) := by decide +kernel
theorem dX4_fail_27 : decode cX4_fail 27 = .ok (.iload_n 2, 1) := by decide +kernel
theorem dX4_fail_28 : decode cX4_fail 28 = .ok (.putfield 170, 3) := by decide +kernel
theorem dX4_fail_31 : decode cX4_fail 31 = .ok (.iload 4, 2) := by decide +kernel
theorem dX4_fail_33 : decode cX4_fail 33 = .ok (.ireturn, 1) := by decide +kernel
set_option maxRecDepth 20000 in
theorem ggX4_phase_X4_isPhase : GoodIn wsX4_phase wsX4_isPhase := goodIn_r _ [8] (by decide +kernel) (by decide +kernel)
set_option maxRecDepth 20000 in
theorem gX4_phase_X4_isPhase : GoodIn wsX4_phase (va_wsS RX4 123 yX4_isPhase wsX4_isPhase) := goodIn_app (goodIn_of _ (by decide +kernel)) ggX4_phase_X4_isPhase
theorem dX4_phase_0 : decode cX4_phase 0 = .ok (.iload_n 1, 1) := by decide +kernel
theorem dX4_phase_1 : decode cX4_phase 1 = .ok (.invokestatic 123, 3) := by decide +kernel
theorem dX4_phase_4 : decode cX4_phase 4 = .ok (.ifCond .ne 13, 3) := by decide +kernel
theorem dX4_phase_7 : decode cX4_phase 7 = .ok (.new 86, 3) := by decide +kernel
theorem dX4_phase_10 : decode cX4_phase 10 = .ok (.dup, 1) := by decide +kernel
theorem dX4_phase_11 : decode cX4_phase 11 = .ok (.ldc 126, 2) := by decide +kernel
theorem dX4_phase_13 : decode cX4_phase 13 = .ok (.invokespecial 90, 3) := by decide +kernel
theorem dX4_phase_16 : decode cX4_phase 16 = .ok (.athrow, 1) := by decide +kernel
theorem dX4_phase_17 : decode cX4_phase 17 = .ok (.iload_n 2, 1) := by decide +kernel
theorem dX4_phase_18 : decode cX4_phase 18 = .ok (.ifCond .lt 9, 3) := by decide +kernel
theorem dX4_phase_21 : decode cX4_phase 21 = .ok (.iload_n 2, 1) := by decide +kernel
theorem dX4_phase_22 : decode cX4_phase 22 = .ok (.ldc 173, 2) := by decide +kernel
theorem dX4_phase_24 : decode cX4_phase 24 = .ok (.if_icmp .le 13, 3) := by decide +kernel
theorem dX4_phase_27 : decode cX4_phase 27 = .ok (.new 86, 3) := by decide +kernel
theorem dX4_phase_30 : decode cX4_phase 30 = .ok (.dup, 1) := by decide +kernel
theorem dX4_phase_31 : decode cX4_phase 31 = .ok (.ldc 121, 2) := by decide +kernel
theorem dX4_phase_33 : decode cX4_phase 33 = .ok (.invokespecial 90, 3) := by decide +kernel
theorem dX4_phase_36 : decode cX4_phase 36 = .ok (.athrow, 1) := by decide +kernel
theorem dX4_phase_37 : decode cX4_phase 37 = .ok (.aload_n 0, 1) := by decide +kernel
theorem dX4_phase_38 : decode cX4_phase 38 = .ok (.getfield 26, 3) := by decide +kernel
theorem dX4_phase_41 : decode cX4_phase 41 = .ok (.iload_n 1, 1) := by decide +kernel
theorem dX4_phase_42 : decode cX4_phase 42 = .ok (.iaload, 1) := by decide +kernel
theorem dX4_phase_43 : decode cX4_phase 43 = .ok (.istore_n 3, 1) := by decide +kernel
theorem dX4_phase_44 : decode cX4_phase 44 = .ok (.aload_n 0, 1) := by decide +kernel
theorem dX4_phase_45 : decode cX4_phase 45 = .ok (.getfield 26, 3) := by decide +kernel
theorem dX4_phase_48 : decode cX4_phase 48 = .ok (.iload_n 1, 1) := by decide +kernel
theorem dX4_phase_49 : decode cX4_phase 49 = .ok (.iload_n 2, 1) := by decide +kernel
theorem dX4_phase_50 : decode cX4_phase 50 = .ok (.iastore, 1) := by decide +kernel
theorem dX4_phase_51 : decode cX4_phase 51 = .ok (.iload_n 3, 1) := by decide +kernel
theorem dX4_phase_52 : decode cX4_phase 52 = .ok (.ireturn, 1) := by decide +kernel
theorem dX4_wind_0 : decode cX4_wind 0 = .ok (.iload_n 1, 1) := by decide +kernel
theorem dX4_wind_1 : decode cX4_wind 1 = .ok (.ifCond .lt 9, 3) := by decide +kernel
theorem dX4_wind_4 : decode cX4_wind 4 = .ok (.iload_n 1, 1) := by decide +kernel
theorem dX4_wind_5 : decode cX4_wind 5 = .ok (.bipush 8, 2) := by decide +kernel
theorem dX4_wind_7 : decode cX4_wind 7 = .ok (.if_icmp .le 13, 3) := by decide +kernel
theorem dX4_wind_10 : decode cX4_wind 10 = .ok (.new 86, 3) := by decide +kernel
theorem dX4_wind_13 : decode cX4_wind 13 = .ok (.dup, 1) := by decide +kernel
theorem dX4_wind_14 : decode cX4_wind 14 = .ok (.ldc 174, 2) := by decide +kernel
theorem dX4_wind_16 : decode cX4_wind 16 = .ok (.invokespecial 90, 3) := by decide +kernel
theorem dX4_wind_19 : decode cX4_wind 19 = .ok (.athrow, 1) := by decide +kernel
theorem dX4_wind_20 : decode cX4_wind 20 = .ok (.aload_n 0, 1) := by decide +kernel
theorem dX4_wind_21 : decode cX4_wind 21 = .ok (.getfield 30, 3) := by decide +kernel
theorem dX4_wind_24 : decode cX4_wind 24 = .ok (.istore_n 2, 1) := by decide +kernel
theorem dX4_wind_25 : decode cX4_wind 25 = .ok (.aload_n 0, 1) := by decide +kernel
theorem dX4_wind_26 : decode cX4_wind 26 = .ok (.iload_n 1, 1) := by decide +kernel
theorem dX4_wind_27 : decode cX4_wind 27 = .ok (.putfield 30, 3) := by decide +kernel
theorem dX4_wind_30 : decode cX4_wind 30 = .ok (.iload_n 2, 1) := by decide +kernel
theorem dX4_wind_31 : decode cX4_wind 31 = .ok (.ireturn, 1) := by decide +kernel
set_option maxRecDepth 20000 in
theorem ggX4_through_X4_find : GoodIn wsX4_through wsX4_find := goodIn_r _ [7, 8, 9, 23, 24, 25, 26, 27, 28, 29, 30, 31, 32, 33, 34, 35, 36, 37, 38] (by decide +kernel) (by decide +kernel)
set_option maxRecDepth 20000 in
theorem gX4_through_X4_find : GoodIn wsX4_through (wsV RX4 137 RX4 yX4_find wsX4_find) := goodIn_app (goodIn_of _ (by decide +kernel)) ggX4_through_X4_find
set_option maxRecDepth 20000 in
theorem ggX4_through_X4_isColumn : GoodIn wsX4_through wsX4_isColumn := goodIn_r _ [12] (by decide +kernel) (by decide +kernel)
set_option maxRecDepth 20000 in
theorem gX4_through_X4_isColumn : GoodIn wsX4_through (va_wsS RX4 75 yX4_isColumn wsX4_isColumn) := goodIn_app (goodIn_of _ (by decide +kernel)) ggX4_through_X4_isColumn
set_option maxRecDepth 20000 in
theorem ggX4_through_X4_crossing : GoodIn wsX4_through wsX4_crossing := goodIn_r _ [16, 17, 18, 19, 20, 21, 22, 11, 6, 12, 23, 24, 25, 26, 27, 28, 29, 30, 31, 32, 33, 34, 35, 36, 37, 38, 39, 40, 41, 42, 43, 44, 45, 46, 47, 48, 49, 50, 51] (by decide +kernel) (by decide +kernel)
set_option maxRecDepth 20000 in
theorem gX4_through_X4_crossing : GoodIn wsX4_through (wsV RX4 178 RX4 yX4_crossing wsX4_crossing) := goodIn_app (goodIn_of _ (by decide +kernel)) ggX4_through_X4_crossing
theorem dX4_through_0 : decode cX4_through 0 = .ok (.aload_n 0, 1) := by decide +kernel
theorem dX4_through_1 : decode cX4_through 1 = .ok (.iload_n 1, 1) := by decide +kernel
theorem dX4_through_2 : decode cX4_through 2 = .ok (.invokevirtual 137, 3) := by decide +kernel
theorem dX4_through_5 : decode cX4_through 5 = .ok (.astore 4, 2) := by decide +kernel
theorem dX4_through_7 : decode cX4_through 7 = .ok (.aload 4, 2) := by decide +kernel
theorem dX4_through_9 : decode cX4_through 9 = .ok (.ifnonnull 13, 3) := by decide +kernel
theorem dX4_through_12 : decode cX4_through 12 = .ok (.new 79, 3) := by decide +kernel
theorem dX4_through_15 : decode cX4_through 15 = .ok (.dup, 1) := by decide +kernel
theorem dX4_through_16 : decode cX4_through 16 = .ok (.ldc 141, 2) := by decide +kernel
theorem dX4_through_18 : decode cX4_through 18 = .ok (.invokespecial 83, 3) := by decide +kernel
theorem dX4_through_21 : decode cX4_through 21 = .ok (.athrow, 1) := by decide +kernel
theorem dX4_through_22 : decode cX4_through 22 = .ok (.iload_n 2, 1) := by decide +kernel
theorem dX4_through_23 : decode cX4_through 23 = .ok (.invokestatic 75, 3) := by decide +kernel
theorem dX4_through_26 : decode cX4_through 26 = .ok (.ifCond .ne 13, 3) := by decide +kernel
theorem dX4_through_29 : decode cX4_through 29 = .ok (.new 79, 3) := by decide +kernel
theorem dX4_through_32 : decode cX4_through 32 = .ok (.dup, 1) := by decide +kernel
theorem dX4_through_33 : decode cX4_through 33 = .ok (.ldc 81, 2) := by decide +kernel
theorem dX4_through_35 : decode cX4_through 35 = .ok (.invokespecial 83, 3) := by decide +kernel
theorem dX4_through_38 : decode cX4_through 38 = .ok (.athrow, 1) := by decide +kernel
theorem dX4_through_39 : decode cX4_through 39 = .ok (.iload_n 3, 1) := by decide +kernel
theorem dX4_through_40 : decode cX4_through 40 = .ok (.ifCond .lt 9, 3) := by decide +kernel
theorem dX4_through_43 : decode cX4_through 43 = .ok (.iload_n 3, 1) := by decide +kernel
theorem dX4_through_44 : decode cX4_through 44 = .ok (.bipush 12, 2) := by decide +kernel
theorem dX4_through_46 : decode cX4_through 46 = .ok (.if_icmp .lt 13, 3) := by decide +kernel
theorem dX4_through_49 : decode cX4_through 49 = .ok (.new 79, 3) := by decide +kernel
theorem dX4_through_52 : decode cX4_through 52 = .ok (.dup, 1) := by decide +kernel
theorem dX4_through_53 : decode cX4_through 53 = .ok (.ldc 176, 2) := by decide +kernel
theorem dX4_through_55 : decode cX4_through 55 = .ok (.invokespecial 83, 3) := by decide +kernel
theorem dX4_through_58 : decode cX4_through 58 = .ok (.athrow, 1) := by decide +kernel
theorem dX4_through_59 : decode cX4_through 59 = .ok (.aload_n 0, 1) := by decide +kernel
theorem dX4_through_60 : decode cX4_through 60 = .ok (.aload 4, 2) := by decide +kernel
theorem dX4_through_62 : decode cX4_through 62 = .ok (.iload_n 2, 1) := by decide +kernel
theorem dX4_through_63 : decode cX4_through 63 = .ok (.iload_n 3, 1) := by decide +kernel
theorem dX4_through_64 : decode cX4_through 64 = .ok (.invokevirtual 178, 3) := by decide +kernel
theorem dX4_through_67 : decode cX4_through 67 = .ok (.ireturn, 1) := by decide +kernel
set_option maxRecDepth 20000 in
theorem ggX4_gives_X4_find : GoodIn wsX4_gives wsX4_find := goodIn_r _ [7, 8, 9, 52, 53, 54, 55, 56, 57, 58, 59, 60, 61, 62, 63, 64, 65, 66, 67] (by decide +kernel) (by decide +kernel)
set_option maxRecDepth 20000 in
theorem gX4_gives_X4_find : GoodIn wsX4_gives (wsV RX4 137 RX4 yX4_find wsX4_find) := goodIn_app (goodIn_of _ (by decide +kernel)) ggX4_gives_X4_find
set_option maxRecDepth 20000 in
theorem ggX4_gives_X4_isColumn : GoodIn wsX4_gives wsX4_isColumn := goodIn_r _ [12] (by decide +kernel) (by decide +kernel)
set_option maxRecDepth 20000 in
theorem gX4_gives_X4_isColumn : GoodIn wsX4_gives (va_wsS RX4 75 yX4_isColumn wsX4_isColumn) := goodIn_app (goodIn_of _ (by decide +kernel)) ggX4_gives_X4_isColumn
set_option maxRecDepth 20000 in
theorem ggX4_gives_X4_lightFrom : GoodIn wsX4_gives wsX4_lightFrom := goodIn_r _ [16, 17, 18, 19, 20, 6, 21, 22, 23, 24, 25, 26, 27, 28, 29, 30, 31, 11, 12, 32, 33, 34, 35, 36, 37, 38, 39, 40, 41, 42, 43, 44, 45, 46, 47, 48, 49, 50, 51, 68, 69, 70, 71, 72, 73, 74, 75, 76, 77, 52, 53, 54, 55, 56, 57, 58, 59, 60, 61, 62, 63, 64, 65, 66, 67, 78, 79, 80] (by decide +kernel) (by decide +kernel)
set_option maxRecDepth 20000 in
theorem gX4_gives_X4_lightFrom : GoodIn wsX4_gives (wsV RX4 182 RX4 yX4_lightFrom wsX4_lightFrom) := goodIn_app (goodIn_of _ (by decide +kernel)) ggX4_gives_X4_lightFrom
theorem dX4_gives_0 : decode cX4_gives 0 = .ok (.aload_n 0, 1) := by decide +kernel
theorem dX4_gives_1 : decode cX4_gives 1 = .ok (.iload_n 1, 1) := by decide +kernel
theorem dX4_gives_2 : decode cX4_gives 2 = .ok (.invokevirtual 137, 3) := by decide +kernel
theorem dX4_gives_5 : decode cX4_gives 5 = .ok (.astore_n 3, 1) := by decide +kernel
theorem dX4_gives_6 : decode cX4_gives 6 = .ok (.aload_n 3, 1) := by decide +kernel
theorem dX4_gives_7 : decode cX4_gives 7 = .ok (.ifnonnull 13, 3) := by decide +kernel
theorem dX4_gives_10 : decode cX4_gives 10 = .ok (.new 79, 3) := by decide +kernel
theorem dX4_gives_13 : decode cX4_gives 13 = .ok (.dup, 1) := by decide +kernel
theorem dX4_gives_14 : decode cX4_gives 14 = .ok (.ldc 141, 2) := by decide +kernel
theorem dX4_gives_16 : decode cX4_gives 16 = .ok (.invokespecial 83, 3) := by decide +kernel
theorem dX4_gives_19 : decode cX4_gives 19 = .ok (.athrow, 1) := by decide +kernel
theorem dX4_gives_20 : decode cX4_gives 20 = .ok (.iload_n 2, 1) := by decide +kernel
theorem dX4_gives_21 : decode cX4_gives 21 = .ok (.invokestatic 75, 3) := by decide +kernel
theorem dX4_gives_24 : decode cX4_gives 24 = .ok (.ifCond .ne 13, 3) := by decide +kernel
theorem dX4_gives_27 : decode cX4_gives 27 = .ok (.new 79, 3) := by decide +kernel
theorem dX4_gives_30 : decode cX4_gives 30 = .ok (.dup, 1) := by decide +kernel
theorem dX4_gives_31 : decode cX4_gives 31 = .ok (.ldc 81, 2) := by decide +kernel
theorem dX4_gives_33 : decode cX4_gives 33 = .ok (.invokespecial 83, 3) := by decide +kernel
theorem dX4_gives_36 : decode cX4_gives 36 = .ok (.athrow, 1) := by decide +kernel
theorem dX4_gives_37 : decode cX4_gives 37 = .ok (.aload_n 0, 1) := by decide +kernel
theorem dX4_gives_38 : decode cX4_gives 38 = .ok (.aload_n 3, 1) := by decide +kernel
theorem dX4_gives_39 : decode cX4_gives 39 = .ok (.iload_n 2, 1) := by decide +kernel
theorem dX4_gives_40 : decode cX4_gives 40 = .ok (.invokevirtual 182, 3) := by decide +kernel
theorem dX4_gives_43 : decode cX4_gives 43 = .ok (.ireturn, 1) := by decide +kernel
set_option maxRecDepth 20000 in
theorem ggX4_isSharp_X4_find : GoodIn wsX4_isSharp wsX4_find := goodIn_r _ [7, 8, 9, 23, 24, 25, 26, 27, 28, 29, 30, 31, 32, 33, 34, 35, 36, 37, 38] (by decide +kernel) (by decide +kernel)
set_option maxRecDepth 20000 in
theorem gX4_isSharp_X4_find : GoodIn wsX4_isSharp (wsV RX4 137 RX4 yX4_find wsX4_find) := goodIn_app (goodIn_of _ (by decide +kernel)) ggX4_isSharp_X4_find
set_option maxRecDepth 20000 in
theorem ggX4_isSharp_X4_isColumn : GoodIn wsX4_isSharp wsX4_isColumn := goodIn_r _ [12] (by decide +kernel) (by decide +kernel)
set_option maxRecDepth 20000 in
theorem gX4_isSharp_X4_isColumn : GoodIn wsX4_isSharp (va_wsS RX4 75 yX4_isColumn wsX4_isColumn) := goodIn_app (goodIn_of _ (by decide +kernel)) ggX4_isSharp_X4_isColumn
set_option maxRecDepth 20000 in
theorem ggX4_isSharp_X4_isInFocus : GoodIn wsX4_isSharp wsX4_isInFocus := goodIn_r _ [16, 17, 18, 19, 20, 21, 22, 11, 6, 12, 39, 40, 41, 42, 43, 44, 45, 46, 47, 48, 23, 24, 25, 26, 27, 28, 29, 30, 31, 32, 33, 34, 35, 36, 37, 38, 49, 50, 51] (by decide +kernel) (by decide +kernel)
set_option maxRecDepth 20000 in
theorem gX4_isSharp_X4_isInFocus : GoodIn wsX4_isSharp (wsV RX4 186 RX4 yX4_isInFocus wsX4_isInFocus) := goodIn_app (goodIn_of _ (by decide +kernel)) ggX4_isSharp_X4_isInFocus
theorem dX4_isSharp_0 : decode cX4_isSharp 0 = .ok (.aload_n 0, 1) := by decide +kernel
theorem dX4_isSharp_1 : decode cX4_isSharp 1 = .ok (.iload_n 1, 1) := by decide +kernel
theorem dX4_isSharp_2 : decode cX4_isSharp 2 = .ok (.invokevirtual 137, 3) := by decide +kernel
theorem dX4_isSharp_5 : decode cX4_isSharp 5 = .ok (.astore_n 3, 1) := by decide +kernel
theorem dX4_isSharp_6 : decode cX4_isSharp 6 = .ok (.aload_n 3, 1) := by decide +kernel
theorem dX4_isSharp_7 : decode cX4_isSharp 7 = .ok (.ifnonnull 13, 3) := by decide +kernel
theorem dX4_isSharp_10 : decode cX4_isSharp 10 = .ok (.new 79, 3) := by decide +kernel
theorem dX4_isSharp_13 : decode cX4_isSharp 13 = .ok (.dup, 1) := by decide +kernel
theorem dX4_isSharp_14 : decode cX4_isSharp 14 = .ok (.ldc 141, 2) := by decide +kernel
theorem dX4_isSharp_16 : decode cX4_isSharp 16 = .ok (.invokespecial 83, 3) := by decide +kernel
theorem dX4_isSharp_19 : decode cX4_isSharp 19 = .ok (.athrow, 1) := by decide +kernel
theorem dX4_isSharp_20 : decode cX4_isSharp 20 = .ok (.iload_n 2, 1) := by decide +kernel
theorem dX4_isSharp_21 : decode cX4_isSharp 21 = .ok (.invokestatic 75, 3) := by decide +kernel
theorem dX4_isSharp_24 : decode cX4_isSharp 24 = .ok (.ifCond .ne 13, 3) := by decide +kernel
theorem dX4_isSharp_27 : decode cX4_isSharp 27 = .ok (.new 79, 3) := by decide +kernel
theorem dX4_isSharp_30 : decode cX4_isSharp 30 = .ok (.dup, 1) := by decide +kernel
theorem dX4_isSharp_31 : decode cX4_isSharp 31 = .ok (.ldc 81, 2) := by decide +kernel
theorem dX4_isSharp_33 : decode cX4_isSharp 33 = .ok (.invokespecial 83, 3) := by decide +kernel
theorem dX4_isSharp_36 : decode cX4_isSharp 36 = .ok (.athrow, 1) := by decide +kernel
theorem dX4_isSharp_37 : decode cX4_isSharp 37 = .ok (.aload_n 0, 1) := by decide +kernel
theorem dX4_isSharp_38 : decode cX4_isSharp 38 = .ok (.aload_n 3, 1) := by decide +kernel
theorem dX4_isSharp_39 : decode cX4_isSharp 39 = .ok (.iload_n 2, 1) := by decide +kernel
theorem dX4_isSharp_40 : decode cX4_isSharp 40 = .ok (.invokevirtual 186, 3) := by decide +kernel
theorem dX4_isSharp_43 : decode cX4_isSharp 43 = .ok (.ireturn, 1) := by decide +kernel
set_option maxRecDepth 20000 in
theorem ggX4_light_X4_isColumn : GoodIn wsX4_light wsX4_isColumn := goodIn_r _ [6] (by decide +kernel) (by decide +kernel)
set_option maxRecDepth 20000 in
theorem gX4_light_X4_isColumn : GoodIn wsX4_light (va_wsS RX4 75 yX4_isColumn wsX4_isColumn) := goodIn_app (goodIn_of _ (by decide +kernel)) ggX4_light_X4_isColumn
set_option maxRecDepth 20000 in
theorem ggX4_light_X4_lightOf : GoodIn wsX4_light wsX4_lightOf := goodIn_r _ [10, 11, 12, 13, 5, 14, 15, 16, 17, 18, 19, 20, 21, 22, 23, 24, 25, 26, 27, 28, 29, 30, 31, 32, 33, 34, 35, 36, 37, 38, 39, 40, 41, 4, 6, 42, 43, 44, 45, 46, 47, 48, 49, 50, 51, 52, 53, 54, 55, 56, 57, 58, 59, 60, 61, 62, 63, 64, 65, 66, 67, 68, 69, 70, 71, 72, 73, 74, 75, 76, 77, 78, 79, 80, 81, 82, 83, 84, 85, 86, 87, 88, 89, 90] (by decide +kernel) (by decide +kernel)
set_option maxRecDepth 20000 in
theorem gX4_light_X4_lightOf : GoodIn wsX4_light (wsV RX4 190 RX4 yX4_lightOf wsX4_lightOf) := goodIn_app (goodIn_of _ (by decide +kernel)) ggX4_light_X4_lightOf
theorem dX4_light_0 : decode cX4_light 0 = .ok (.iload_n 1, 1) := by decide +kernel
theorem dX4_light_1 : decode cX4_light 1 = .ok (.invokestatic 75, 3) := by decide +kernel
theorem dX4_light_4 : decode cX4_light 4 = .ok (.ifCond .ne 13, 3) := by decide +kernel
theorem dX4_light_7 : decode cX4_light 7 = .ok (.new 79, 3) := by decide +kernel
theorem dX4_light_10 : decode cX4_light 10 = .ok (.dup, 1) := by decide +kernel
theorem dX4_light_11 : decode cX4_light 11 = .ok (.ldc 81, 2) := by decide +kernel
theorem dX4_light_13 : decode cX4_light 13 = .ok (.invokespecial 83, 3) := by decide +kernel
theorem dX4_light_16 : decode cX4_light 16 = .ok (.athrow, 1) := by decide +kernel
theorem dX4_light_17 : decode cX4_light 17 = .ok (.aload_n 0, 1) := by decide +kernel
theorem dX4_light_18 : decode cX4_light 18 = .ok (.iload_n 1, 1) := by decide +kernel
theorem dX4_light_19 : decode cX4_light 19 = .ok (.invokevirtual 190, 3) := by decide +kernel
theorem dX4_light_22 : decode cX4_light 22 = .ok (.ireturn, 1) := by decide +kernel
set_option maxRecDepth 20000 in
theorem ggX4_blended_X4_find : GoodIn wsX4_blended wsX4_find := goodIn_r _ [8, 9, 10, 63, 64, 65, 66, 67, 68, 69, 70, 71, 72, 73, 74, 75, 76, 77, 78] (by decide +kernel) (by decide +kernel)
set_option maxRecDepth 20000 in
theorem gX4_blended_X4_find : GoodIn wsX4_blended (wsV RX4 137 RX4 yX4_find wsX4_find) := goodIn_app (goodIn_of _ (by decide +kernel)) ggX4_blended_X4_find
set_option maxRecDepth 20000 in
theorem ggX4_blended_X4_isColumn : GoodIn wsX4_blended wsX4_isColumn := goodIn_r _ [13] (by decide +kernel) (by decide +kernel)
set_option maxRecDepth 20000 in
theorem gX4_blended_X4_isColumn : GoodIn wsX4_blended (va_wsS RX4 75 yX4_isColumn wsX4_isColumn) := goodIn_app (goodIn_of _ (by decide +kernel)) ggX4_blended_X4_isColumn
set_option maxRecDepth 20000 in
theorem ggX4_blended_X0_shines : GoodIn wsX4_blended wsX0_shines := goodIn_r _ [17, 18, 19, 79, 80, 81, 82, 83, 84, 85, 86, 87, 88] (by decide +kernel) (by decide +kernel)
set_option maxRecDepth 20000 in
theorem gX4_blended_X0_shines_n193 : GoodIn wsX4_blended (wsX0_shines) := ggX4_blended_X0_shines
set_option maxRecDepth 20000 in
theorem ggX4_blended_X4_lightFrom : GoodIn wsX4_blended wsX4_lightFrom := goodIn_r _ [23, 24, 25, 26, 27, 7, 28, 29, 30, 31, 32, 33, 34, 35, 36, 37, 38, 12, 13, 39, 40, 41, 42, 43, 44, 45, 46, 47, 48, 49, 50, 51, 52, 53, 54, 55, 56, 57, 58, 79, 80, 81, 82, 83, 84, 85, 86, 87, 88, 63, 64, 65, 66, 67, 68, 69, 70, 71, 72, 73, 74, 75, 76, 77, 78, 89, 90, 91] (by decide +kernel) (by decide +kernel)
set_option maxRecDepth 20000 in
theorem gX4_blended_X4_lightFrom : GoodIn wsX4_blended (wsV RX4 182 RX4 yX4_lightFrom wsX4_lightFrom) := goodIn_app (goodIn_of _ (by decide +kernel)) ggX4_blended_X4_lightFrom
set_option maxRecDepth 20000 in
theorem ggX4_blended_X4_lightOf : GoodIn wsX4_blended wsX4_lightOf := goodIn_r _ [62, 4, 5, 6, 7, 8, 9, 10, 14, 15, 16, 17, 18, 19, 20, 21, 22, 23, 24, 25, 26, 27, 28, 29, 30, 31, 32, 33, 34, 35, 36, 37, 38, 12, 13, 39, 40, 41, 42, 43, 44, 45, 46, 47, 48, 49, 50, 51, 52, 53, 54, 55, 56, 57, 58, 63, 64, 65, 66, 67, 68, 69, 70, 71, 72, 73, 74, 75, 76, 77, 78, 79, 80, 81, 82, 83, 84, 85, 86, 87, 88, 89, 90, 91] (by decide +kernel) (by decide +kernel)
set_option maxRecDepth 20000 in
theorem gX4_blended_X4_lightOf : GoodIn wsX4_blended (wsV RX4 190 RX4 yX4_lightOf wsX4_lightOf) := goodIn_app (goodIn_of _ (by decide +kernel)) ggX4_blended_X4_lightOf
theorem dX4_blended_0 : decode cX4_blended 0 = .ok (.aload_n 0, 1) := by decide +kernel
theorem dX4_blended_1 : decode cX4_blended 1 = .ok (.iload_n 1, 1) := by decide +kernel
theorem dX4_blended_2 : decode cX4_blended 2 = .ok (.invokevirtual 137, 3) := by decide +kernel
theorem dX4_blended_5 : decode cX4_blended 5 = .ok (.astore_n 3, 1) := by decide +kernel
theorem dX4_blended_6 : decode cX4_blended 6 = .ok (.aload_n 3, 1) := by decide +kernel
theorem dX4_blended_7 : decode cX4_blended 7 = .ok (.ifnonnull 13, 3) := by decide +kernel
theorem dX4_blended_10 : decode cX4_blended 10 = .ok (.new 79, 3) := by decide +kernel
theorem dX4_blended_13 : decode cX4_blended 13 = .ok (.dup, 1) := by decide +kernel
theorem dX4_blended_14 : decode cX4_blended 14 = .ok (.ldc 141, 2) := by decide +kernel
theorem dX4_blended_16 : decode cX4_blended 16 = .ok (.invokespecial 83, 3) := by decide +kernel
theorem dX4_blended_19 : decode cX4_blended 19 = .ok (.athrow, 1) := by decide +kernel
theorem dX4_blended_20 : decode cX4_blended 20 = .ok (.iload_n 2, 1) := by decide +kernel
theorem dX4_blended_21 : decode cX4_blended 21 = .ok (.invokestatic 75, 3) := by decide +kernel
theorem dX4_blended_24 : decode cX4_blended 24 = .ok (.ifCond .ne 13, 3) := by decide +kernel
theorem dX4_blended_27 : decode cX4_blended 27 = .ok (.new 79, 3) := by decide +kernel
theorem dX4_blended_30 : decode cX4_blended 30 = .ok (.dup, 1) := by decide +kernel
theorem dX4_blended_31 : decode cX4_blended 31 = .ok (.ldc 81, 2) := by decide +kernel
theorem dX4_blended_33 : decode cX4_blended 33 = .ok (.invokespecial 83, 3) := by decide +kernel
theorem dX4_blended_36 : decode cX4_blended 36 = .ok (.athrow, 1) := by decide +kernel
theorem dX4_blended_37 : decode cX4_blended 37 = .ok (.aload_n 3, 1) := by decide +kernel
theorem dX4_blended_38 : decode cX4_blended 38 = .ok (.invokevirtual 193, 3) := by decide +kernel
theorem dX4_blended_41 : decode cX4_blended 41 = .ok (.ifCond .ne 5, 3) := by decide +kernel
theorem dX4_blended_44 : decode cX4_blended 44 = .ok (.iconst 0, 1) := by decide +kernel
theorem dX4_blended_45 : decode cX4_blended 45 = .ok (.ireturn, 1) := by decide +kernel
theorem dX4_blended_46 : decode cX4_blended 46 = .ok (.aload_n 0, 1) := by decide +kernel
theorem dX4_blended_47 : decode cX4_blended 47 = .ok (.aload_n 3, 1) := by decide +kernel
theorem dX4_blended_48 : decode cX4_blended 48 = .ok (.iload_n 2, 1) := by decide +kernel
theorem dX4_blended_49 : decode cX4_blended 49 = .ok (.invokevirtual 182, 3) := by decide +kernel
theorem dX4_blended_52 : decode cX4_blended 52 = .ok (.istore 4, 2) := by decide +kernel
theorem dX4_blended_54 : decode cX4_blended 54 = .ok (.aload_n 0, 1) := by decide +kernel
theorem dX4_blended_55 : decode cX4_blended 55 = .ok (.iload_n 2, 1) := by decide +kernel
theorem dX4_blended_56 : decode cX4_blended 56 = .ok (.invokevirtual 190, 3) := by decide +kernel
theorem dX4_blended_59 : decode cX4_blended 59 = .ok (.istore 5, 2) := by decide +kernel
theorem dX4_blended_61 : decode cX4_blended 61 = .ok (.iload 5, 2) := by decide +kernel
theorem dX4_blended_63 : decode cX4_blended 63 = .ok (.ifCond .le 12, 3) := by decide +kernel
theorem dX4_blended_66 : decode cX4_blended 66 = .ok (.iload 5, 2) := by decide +kernel
theorem dX4_blended_68 : decode cX4_blended 68 = .ok (.aload_n 0, 1) := by decide +kernel
theorem dX4_blended_69 : decode cX4_blended 69 = .ok (.getfield 36, 3) := by decide +kernel
theorem dX4_blended_72 : decode cX4_blended 72 = .ok (.if_icmp .gt 6, 3) := by decide +kernel
theorem dX4_blended_75 : decode cX4_blended 75 = .ok (.iload 4, 2) := by decide +kernel
theorem dX4_blended_77 : decode cX4_blended 77 = .ok (.ireturn, 1) := by decide +kernel
theorem dX4_blended_78 : decode cX4_blended 78 = .ok (.iload 4, 2) := by decide +kernel
theorem dX4_blended_80 : decode cX4_blended 80 = .ok (.i2l, 1) := by decide +kernel
theorem dX4_blended_81 : decode cX4_blended 81 = .ok (.aload_n 0, 1) := by decide +kernel
theorem dX4_blended_82 : decode cX4_blended 82 = .ok (.getfield 36, 3) := by decide +kernel
theorem dX4_blended_85 : decode cX4_blended 85 = .ok (.i2l, 1) := by decide +kernel
theorem dX4_blended_86 : decode cX4_blended 86 = .ok (.lmul, 1) := by decide +kernel
theorem dX4_blended_87 : decode cX4_blended 87 = .ok (.iload 5, 2) := by decide +kernel
theorem dX4_blended_89 : decode cX4_blended 89 = .ok (.i2l, 1) := by decide +kernel
theorem dX4_blended_90 : decode cX4_blended 90 = .ok (.ldiv, 1) := by decide +kernel
theorem dX4_blended_91 : decode cX4_blended 91 = .ok (.l2i, 1) := by decide +kernel
theorem dX4_blended_92 : decode cX4_blended 92 = .ok (.ireturn, 1) := by decide +kernel
set_option maxRecDepth 20000 in
theorem ggX4_covered_X4_isSetOfProjectors : GoodIn wsX4_covered wsX4_isSetOfProjectors := goodIn_r _ [9, 10, 77, 78, 79, 80, 81, 82, 83, 84, 85, 86, 87, 88, 89, 90, 91, 92] (by decide +kernel) (by decide +kernel)
set_option maxRecDepth 20000 in
theorem gX4_covered_X4_isSetOfProjectors : GoodIn wsX4_covered (wsV RX4 197 RX4 yX4_isSetOfProjectors wsX4_isSetOfProjectors) := goodIn_app (goodIn_of _ (by decide +kernel)) ggX4_covered_X4_isSetOfProjectors
set_option maxRecDepth 20000 in
theorem ggX4_covered_X4_surveyLights : GoodIn wsX4_covered wsX4_surveyLights := goodIn_r _ [14, 3, 15, 16, 17, 8, 18, 10, 19, 20, 21, 22, 23, 24, 25, 26, 27, 28, 29, 30, 31, 32, 33, 34, 35, 36, 37, 38, 39, 40, 41, 42, 43, 44, 45, 46, 47, 48, 49, 50, 51, 52, 53, 54, 55, 56, 57, 58, 59, 60, 61, 62, 63, 64, 65, 66, 67, 68, 69, 70, 71, 72, 73, 93, 94, 95, 96, 97, 98, 99, 100, 101, 102, 77, 78, 79, 80, 81, 82, 83, 84, 85, 86, 87, 88, 89, 90, 91, 92, 103, 104, 105, 106, 107] (by decide +kernel) (by decide +kernel)
set_option maxRecDepth 20000 in
theorem gX4_covered_X4_surveyLights : GoodIn wsX4_covered (wsV RX4 202 RX4 yX4_surveyLights wsX4_surveyLights) := goodIn_app (goodIn_of _ (by decide +kernel)) ggX4_covered_X4_surveyLights
set_option maxRecDepth 20000 in
theorem ggX4_covered_X3_isWellCovered : GoodIn wsX4_covered wsX3_isWellCovered := goodIn_r _ [76, 25, 24, 29, 8, 30, 103, 104] (by decide +kernel) (by decide +kernel)
set_option maxRecDepth 20000 in
theorem gX4_covered_X3_isWellCovered_n205 : GoodIn wsX4_covered (wsX3_isWellCovered) := ggX4_covered_X3_isWellCovered
theorem dX4_covered_0 : decode cX4_covered 0 = .ok (.aload_n 0, 1) := by decide +kernel
theorem dX4_covered_1 : decode cX4_covered 1 = .ok (.iload_n 1, 1) := by decide +kernel
theorem dX4_covered_2 : decode cX4_covered 2 = .ok (.invokevirtual 197, 3) := by decide +kernel
theorem dX4_covered_5 : decode cX4_covered 5 = .ok (.ifCond .ne 13, 3) := by decide +kernel
theorem dX4_covered_8 : decode cX4_covered 8 = .ok (.new 86, 3) := by decide +kernel
theorem dX4_covered_11 : decode cX4_covered 11 = .ok (.dup, 1) := by decide +kernel
theorem dX4_covered_12 : decode cX4_covered 12 = .ok (.ldc 200, 2) := by decide +kernel
theorem dX4_covered_14 : decode cX4_covered 14 = .ok (.invokespecial 90, 3) := by decide +kernel
theorem dX4_covered_17 : decode cX4_covered 17 = .ok (.athrow, 1) := by decide +kernel
theorem dX4_covered_18 : decode cX4_covered 18 = .ok (.aload_n 0, 1) := by decide +kernel
theorem dX4_covered_19 : decode cX4_covered 19 = .ok (.invokevirtual 202, 3) := by decide +kernel
theorem dX4_covered_22 : decode cX4_covered 22 = .ok (.iconst 0, 1) := by decide +kernel
theorem dX4_covered_23 : decode cX4_covered 23 = .ok (.istore_n 2, 1) := by decide +kernel
theorem dX4_covered_24 : decode cX4_covered 24 = .ok (.iconst 0, 1) := by decide +kernel
theorem dX4_covered_25 : decode cX4_covered 25 = .ok (.istore_n 3, 1) := by decide +kernel
theorem dX4_covered_26 : decode cX4_covered 26 = .ok (.iload_n 3, 1) := by decide +kernel
theorem dX4_covered_27 : decode cX4_covered 27 = .ok (.bipush 16, 2) := by decide +kernel
theorem dX4_covered_29 : decode cX4_covered 29 = .ok (.if_icmp .ge 31, 3) := by decide +kernel
theorem dX4_covered_32 : decode cX4_covered 32 = .ok (.aload_n 0, 1) := by decide +kernel
theorem dX4_covered_33 : decode cX4_covered 33 = .ok (.getfield 42, 3) := by decide +kernel
theorem dX4_covered_36 : decode cX4_covered 36 = .ok (.iload_n 3, 1) := by decide +kernel
theorem dX4_covered_37 : decode cX4_covered 37 = .ok (.iload_n 1, 1) := by decide +kernel
theorem dX4_covered_38 : decode cX4_covered 38 = .ok (.aload_n 0, 1) := by decide +kernel
theorem dX4_covered_39 : decode cX4_covered 39 = .ok (.getfield 36, 3) := by decide +kernel
theorem dX4_covered_42 : decode cX4_covered 42 = .ok (.invokevirtual 205, 3) := by decide +kernel
theorem dX4_covered_45 : decode cX4_covered 45 = .ok (.ifCond .eq 9, 3) := by decide +kernel
theorem dX4_covered_48 : decode cX4_covered 48 = .ok (.iload_n 2, 1) := by decide +kernel
theorem dX4_covered_49 : decode cX4_covered 49 = .ok (.iconst 1, 1) := by decide +kernel
theorem dX4_covered_50 : decode cX4_covered 50 = .ok (.iload_n 3, 1) := by decide +kernel
theorem dX4_covered_51 : decode cX4_covered 51 = .ok (.ishl, 1) := by decide +kernel
theorem dX4_covered_52 : decode cX4_covered 52 = .ok (.ior, 1) := by decide +kernel
theorem dX4_covered_53 : decode cX4_covered 53 = .ok (.istore_n 2, 1) := by decide +kernel
theorem dX4_covered_54 : decode cX4_covered 54 = .ok (.iinc 3 1, 3) := by decide +kernel
theorem dX4_covered_57 : decode cX4_covered 57 = .ok (.goto (-31), 3) := by decide +kernel
theorem dX4_covered_60 : decode cX4_covered 60 = .ok (.iload_n 2, 1) := by decide +kernel
theorem dX4_covered_61 : decode cX4_covered 61 = .ok (.ireturn, 1) := by decide +kernel
set_option maxRecDepth 20000 in
theorem ggX4_least_X4_surveyLights : GoodIn wsX4_least wsX4_surveyLights := goodIn_r _ [9, 2, 10, 11, 12, 8, 13, 1, 14, 15, 16, 17, 18, 19, 20, 21, 22, 23, 24, 25, 26, 27, 28, 29, 30, 31, 32, 33, 34, 35, 36, 37, 38, 39, 40, 41, 42, 43, 44, 45, 46, 47, 48, 49, 50, 51, 52, 53, 54, 55, 56, 57, 58, 59, 60, 61, 62, 63, 64, 65, 66, 67, 68, 103, 104, 105, 106, 107, 108, 109, 110, 111, 112, 87, 88, 89, 90, 91, 92, 93, 94, 95, 96, 97, 98, 99, 100, 101, 102, 113, 114, 115, 116, 117] (by decide +kernel) (by decide +kernel)
set_option maxRecDepth 20000 in
theorem gX4_least_X4_surveyLights : GoodIn wsX4_least (wsV RX4 202 RX4 yX4_surveyLights wsX4_surveyLights) := goodIn_app (goodIn_of _ (by decide +kernel)) ggX4_least_X4_surveyLights
set_option maxRecDepth 20000 in
theorem ggX4_least_X4_unfailedProjectors : GoodIn wsX4_least wsX4_unfailedProjectors := goodIn_r _ [72, 10, 11, 12, 8, 13, 1, 14, 103, 104, 105, 106, 107, 108, 109, 110, 111, 112, 87, 88, 89, 90, 91, 92, 93, 94, 95, 96, 97, 98, 99, 100, 101, 102] (by decide +kernel) (by decide +kernel)
set_option maxRecDepth 20000 in
theorem gX4_least_X4_unfailedProjectors : GoodIn wsX4_least (wsV RX4 209 RX4 yX4_unfailedProjectors wsX4_unfailedProjectors) := goodIn_app (goodIn_of _ (by decide +kernel)) ggX4_least_X4_unfailedProjectors
set_option maxRecDepth 20000 in
theorem ggX4_least_J6_bitCount_0f7a4 : GoodIn wsX4_least wsJ6_bitCount_0f7a4 := goodIn_r _ [76, 77, 78, 79] (by decide +kernel) (by decide +kernel)
set_option maxRecDepth 20000 in
theorem gX4_least_J6_bitCount_0f7a4 : GoodIn wsX4_least (va_wsS RX4 213 yJ6_bitCount_0f7a4 wsJ6_bitCount_0f7a4) := goodIn_app (goodIn_of _ (by decide +kernel)) ggX4_least_J6_bitCount_0f7a4
set_option maxRecDepth 20000 in
theorem ggX4_least_X3_coversAll : GoodIn wsX4_least wsX3_coversAll := goodIn_r _ [82, 83, 84, 85, 16, 86, 20, 19, 24, 8, 25, 113, 114] (by decide +kernel) (by decide +kernel)
set_option maxRecDepth 20000 in
theorem gX4_least_X3_coversAll_n218 : GoodIn wsX4_least (wsX3_coversAll) := ggX4_least_X3_coversAll
theorem dX4_least_0 : decode cX4_least 0 = .ok (.aload_n 0, 1) := by decide +kernel
theorem dX4_least_1 : decode cX4_least 1 = .ok (.invokevirtual 202, 3) := by decide +kernel
theorem dX4_least_4 : decode cX4_least 4 = .ok (.aload_n 0, 1) := by decide +kernel
theorem dX4_least_5 : decode cX4_least 5 = .ok (.invokevirtual 209, 3) := by decide +kernel
theorem dX4_least_8 : decode cX4_least 8 = .ok (.istore_n 1, 1) := by decide +kernel
theorem dX4_least_9 : decode cX4_least 9 = .ok (.iconst (-1), 1) := by decide +kernel
theorem dX4_least_10 : decode cX4_least 10 = .ok (.istore_n 2, 1) := by decide +kernel
theorem dX4_least_11 : decode cX4_least 11 = .ok (.aload_n 0, 1) := by decide +kernel
theorem dX4_least_12 : decode cX4_least 12 = .ok (.getfield 22, 3) := by decide +kernel
theorem dX4_least_15 : decode cX4_least 15 = .ok (.iconst 1, 1) := by decide +kernel
theorem dX4_least_16 : decode cX4_least 16 = .ok (.iadd, 1) := by decide +kernel
theorem dX4_least_17 : decode cX4_least 17 = .ok (.istore_n 3, 1) := by decide +kernel
theorem dX4_least_18 : decode cX4_least 18 = .ok (.iconst 0, 1) := by decide +kernel
theorem dX4_least_19 : decode cX4_least 19 = .ok (.istore 4, 2) := by decide +kernel
theorem dX4_least_21 : decode cX4_least 21 = .ok (.iload 4, 2) := by decide +kernel
theorem dX4_least_23 : decode cX4_least 23 = .ok (.iload_n 1, 1) := by decide +kernel
theorem dX4_least_24 : decode cX4_least 24 = .ok (.if_icmp .gt 57, 3) := by decide +kernel
theorem dX4_least_27 : decode cX4_least 27 = .ok (.iload 4, 2) := by decide +kernel
theorem dX4_least_29 : decode cX4_least 29 = .ok (.invokestatic 213, 3) := by decide +kernel
theorem dX4_least_32 : decode cX4_least 32 = .ok (.istore 5, 2) := by decide +kernel
theorem dX4_least_34 : decode cX4_least 34 = .ok (.iload 4, 2) := by decide +kernel
theorem dX4_least_36 : decode cX4_least 36 = .ok (.iload_n 1, 1) := by decide +kernel
theorem dX4_least_37 : decode cX4_least 37 = .ok (.iconst (-1), 1) := by decide +kernel
theorem dX4_least_38 : decode cX4_least 38 = .ok (.ixor, 1) := by decide +kernel
theorem dX4_least_39 : decode cX4_least 39 = .ok (.iand, 1) := by decide +kernel
theorem dX4_least_40 : decode cX4_least 40 = .ok (.ifCond .ne 35, 3) := by decide +kernel
theorem dX4_least_43 : decode cX4_least 43 = .ok (.iload 5, 2) := by decide +kernel
theorem dX4_least_45 : decode cX4_least 45 = .ok (.iload_n 3, 1) := by decide +kernel
theorem dX4_least_46 : decode cX4_least 46 = .ok (.if_icmp .ge 29, 3) := by decide +kernel
theorem dX4_least_49 : decode cX4_least 49 = .ok (.aload_n 0, 1) := by decide +kernel
theorem dX4_least_50 : decode cX4_least 50 = .ok (.getfield 42, 3) := by decide +kernel
theorem dX4_least_53 : decode cX4_least 53 = .ok (.aload_n 0, 1) := by decide +kernel
theorem dX4_least_54 : decode cX4_least 54 = .ok (.getfield 33, 3) := by decide +kernel
theorem dX4_least_57 : decode cX4_least 57 = .ok (.iload 4, 2) := by decide +kernel
theorem dX4_least_59 : decode cX4_least 59 = .ok (.aload_n 0, 1) := by decide +kernel
theorem dX4_least_60 : decode cX4_least 60 = .ok (.getfield 36, 3) := by decide +kernel
theorem dX4_least_63 : decode cX4_least 63 = .ok (.invokevirtual 218, 3) := by decide +kernel
theorem dX4_least_66 : decode cX4_least 66 = .ok (.ifCond .eq 9, 3) := by decide +kernel
theorem dX4_least_69 : decode cX4_least 69 = .ok (.iload 4, 2) := by decide +kernel
theorem dX4_least_71 : decode cX4_least 71 = .ok (.istore_n 2, 1) := by decide +kernel
theorem dX4_least_72 : decode cX4_least 72 = .ok (.iload 5, 2) := by decide +kernel
theorem dX4_least_74 : decode cX4_least 74 = .ok (.istore_n 3, 1) := by decide +kernel
theorem dX4_least_75 : decode cX4_least 75 = .ok (.iinc 4 1, 3) := by decide +kernel
theorem dX4_least_78 : decode cX4_least 78 = .ok (.goto (-57), 3) := by decide +kernel
theorem dX4_least_81 : decode cX4_least 81 = .ok (.iload_n 2, 1) := by decide +kernel
theorem dX4_least_82 : decode cX4_least 82 = .ok (.ireturn, 1) := by decide +kernel
set_option maxRecDepth 20000 in
theorem ggX4_leastAnew_X4_surveyLights : GoodIn wsX4_leastAnew wsX4_surveyLights := goodIn_r _ [9, 2, 10, 11, 12, 8, 13, 1, 14, 15, 16, 17, 18, 19, 20, 21, 22, 23, 24, 25, 26, 27, 28, 29, 30, 31, 32, 33, 34, 35, 36, 37, 38, 39, 40, 41, 42, 43, 44, 45, 46, 47, 48, 49, 50, 51, 52, 53, 54, 55, 56, 57, 58, 59, 60, 61, 62, 63, 64, 65, 66, 67, 68, 103, 104, 105, 106, 107, 108, 109, 110, 111, 112, 87, 88, 89, 90, 91, 92, 93, 94, 95, 96, 97, 98, 99, 100, 101, 102, 113, 114, 115, 116, 117] (by decide +kernel) (by decide +kernel)
set_option maxRecDepth 20000 in
theorem gX4_leastAnew_X4_surveyLights : GoodIn wsX4_leastAnew (wsV RX4 202 RX4 yX4_surveyLights wsX4_surveyLights) := goodIn_app (goodIn_of _ (by decide +kernel)) ggX4_leastAnew_X4_surveyLights
set_option maxRecDepth 20000 in
theorem ggX4_leastAnew_X4_unfailedProjectors : GoodIn wsX4_leastAnew wsX4_unfailedProjectors := goodIn_r _ [72, 10, 11, 12, 8, 13, 1, 14, 103, 104, 105, 106, 107, 108, 109, 110, 111, 112, 87, 88, 89, 90, 91, 92, 93, 94, 95, 96, 97, 98, 99, 100, 101, 102] (by decide +kernel) (by decide +kernel)
set_option maxRecDepth 20000 in
theorem gX4_leastAnew_X4_unfailedProjectors : GoodIn wsX4_leastAnew (wsV RX4 209 RX4 yX4_unfailedProjectors wsX4_unfailedProjectors) := goodIn_app (goodIn_of _ (by decide +kernel)) ggX4_leastAnew_X4_unfailedProjectors
set_option maxRecDepth 20000 in
theorem ggX4_leastAnew_J6_bitCount_0f7a4 : GoodIn wsX4_leastAnew wsJ6_bitCount_0f7a4 := goodIn_r _ [76, 77, 78, 79] (by decide +kernel) (by decide +kernel)
set_option maxRecDepth 20000 in
theorem gX4_leastAnew_J6_bitCount_0f7a4 : GoodIn wsX4_leastAnew (va_wsS RX4 213 yJ6_bitCount_0f7a4 wsJ6_bitCount_0f7a4) := goodIn_app (goodIn_of _ (by decide +kernel)) ggX4_leastAnew_J6_bitCount_0f7a4
set_option maxRecDepth 20000 in
theorem ggX4_leastAnew_X3_coversAll : GoodIn wsX4_leastAnew wsX3_coversAll := goodIn_r _ [82, 83, 84, 85, 16, 86, 20, 19, 24, 8, 25, 113, 114] (by decide +kernel) (by decide +kernel)
set_option maxRecDepth 20000 in
theorem gX4_leastAnew_X3_coversAll_n218 : GoodIn wsX4_leastAnew (wsX3_coversAll) := ggX4_leastAnew_X3_coversAll
theorem dX4_leastAnew_0 : decode cX4_leastAnew 0 = .ok (.aload_n 0, 1) := by decide +kernel
theorem dX4_leastAnew_1 : decode cX4_leastAnew 1 = .ok (.invokevirtual 202, 3) := by decide +kernel
theorem dX4_leastAnew_4 : decode cX4_leastAnew 4 = .ok (.aload_n 0, 1) := by decide +kernel
theorem dX4_leastAnew_5 : decode cX4_leastAnew 5 = .ok (.invokevirtual 209, 3) := by decide +kernel
theorem dX4_leastAnew_8 : decode cX4_leastAnew 8 = .ok (.istore_n 1, 1) := by decide +kernel
theorem dX4_leastAnew_9 : decode cX4_leastAnew 9 = .ok (.iconst 0, 1) := by decide +kernel
theorem dX4_leastAnew_10 : decode cX4_leastAnew 10 = .ok (.istore_n 2, 1) := by decide +kernel
theorem dX4_leastAnew_11 : decode cX4_leastAnew 11 = .ok (.iload_n 2, 1) := by decide +kernel
theorem dX4_leastAnew_12 : decode cX4_leastAnew 12 = .ok (.aload_n 0, 1) := by decide +kernel
theorem dX4_leastAnew_13 : decode cX4_leastAnew 13 = .ok (.getfield 22, 3) := by decide +kernel
theorem dX4_leastAnew_16 : decode cX4_leastAnew 16 = .ok (.if_icmp .gt 59, 3) := by decide +kernel
theorem dX4_leastAnew_19 : decode cX4_leastAnew 19 = .ok (.iconst 0, 1) := by decide +kernel
theorem dX4_leastAnew_20 : decode cX4_leastAnew 20 = .ok (.istore_n 3, 1) := by decide +kernel
theorem dX4_leastAnew_21 : decode cX4_leastAnew 21 = .ok (.iload_n 3, 1) := by decide +kernel
theorem dX4_leastAnew_22 : decode cX4_leastAnew 22 = .ok (.iload_n 1, 1) := by decide +kernel
theorem dX4_leastAnew_23 : decode cX4_leastAnew 23 = .ok (.if_icmp .gt 46, 3) := by decide +kernel
theorem dX4_leastAnew_26 : decode cX4_leastAnew 26 = .ok (.iload_n 3, 1) := by decide +kernel
theorem dX4_leastAnew_27 : decode cX4_leastAnew 27 = .ok (.iload_n 1, 1) := by decide +kernel
theorem dX4_leastAnew_28 : decode cX4_leastAnew 28 = .ok (.iconst (-1), 1) := by decide +kernel
theorem dX4_leastAnew_29 : decode cX4_leastAnew 29 = .ok (.ixor, 1) := by decide +kernel
theorem dX4_leastAnew_30 : decode cX4_leastAnew 30 = .ok (.iand, 1) := by decide +kernel
theorem dX4_leastAnew_31 : decode cX4_leastAnew 31 = .ok (.ifCond .ne 32, 3) := by decide +kernel
theorem dX4_leastAnew_34 : decode cX4_leastAnew 34 = .ok (.iload_n 3, 1) := by decide +kernel
theorem dX4_leastAnew_35 : decode cX4_leastAnew 35 = .ok (.invokestatic 213, 3) := by decide +kernel
theorem dX4_leastAnew_38 : decode cX4_leastAnew 38 = .ok (.iload_n 2, 1) := by decide +kernel
theorem dX4_leastAnew_39 : decode cX4_leastAnew 39 = .ok (.if_icmp .ne 24, 3) := by decide +kernel
theorem dX4_leastAnew_42 : decode cX4_leastAnew 42 = .ok (.aload_n 0, 1) := by decide +kernel
theorem dX4_leastAnew_43 : decode cX4_leastAnew 43 = .ok (.getfield 42, 3) := by decide +kernel
theorem dX4_leastAnew_46 : decode cX4_leastAnew 46 = .ok (.aload_n 0, 1) := by decide +kernel
theorem dX4_leastAnew_47 : decode cX4_leastAnew 47 = .ok (.getfield 33, 3) := by decide +kernel
theorem dX4_leastAnew_50 : decode cX4_leastAnew 50 = .ok (.iload_n 3, 1) := by decide +kernel
theorem dX4_leastAnew_51 : decode cX4_leastAnew 51 = .ok (.aload_n 0, 1) := by decide +kernel
theorem dX4_leastAnew_52 : decode cX4_leastAnew 52 = .ok (.getfield 36, 3) := by decide +kernel
theorem dX4_leastAnew_55 : decode cX4_leastAnew 55 = .ok (.invokevirtual 218, 3) := by decide +kernel
theorem dX4_leastAnew_58 : decode cX4_leastAnew 58 = .ok (.ifCond .eq 5, 3) := by decide +kernel
theorem dX4_leastAnew_61 : decode cX4_leastAnew 61 = .ok (.iload_n 2, 1) := by decide +kernel
theorem dX4_leastAnew_62 : decode cX4_leastAnew 62 = .ok (.ireturn, 1) := by decide +kernel
theorem dX4_leastAnew_63 : decode cX4_leastAnew 63 = .ok (.iinc 3 1, 3) := by decide +kernel
theorem dX4_leastAnew_66 : decode cX4_leastAnew 66 = .ok (.goto (-45), 3) := by decide +kernel
theorem dX4_leastAnew_69 : decode cX4_leastAnew 69 = .ok (.iinc 2 1, 3) := by decide +kernel
theorem dX4_leastAnew_72 : decode cX4_leastAnew 72 = .ok (.goto (-61), 3) := by decide +kernel
theorem dX4_leastAnew_75 : decode cX4_leastAnew 75 = .ok (.iconst (-1), 1) := by decide +kernel
theorem dX4_leastAnew_76 : decode cX4_leastAnew 76 = .ok (.ireturn, 1) := by decide +kernel
set_option maxRecDepth 20000 in
theorem ggX4_bears_X4_isSetOfProjectors : GoodIn wsX4_bears wsX4_isSetOfProjectors := goodIn_r _ [10, 11, 82, 83, 84, 85, 86, 87, 88, 89, 90, 91, 92, 93, 94, 95, 96, 97] (by decide +kernel) (by decide +kernel)
set_option maxRecDepth 20000 in
theorem gX4_bears_X4_isSetOfProjectors : GoodIn wsX4_bears (wsV RX4 197 RX4 yX4_isSetOfProjectors wsX4_isSetOfProjectors) := goodIn_app (goodIn_of _ (by decide +kernel)) ggX4_bears_X4_isSetOfProjectors
set_option maxRecDepth 20000 in
theorem ggX4_bears_X4_surveyLights : GoodIn wsX4_bears wsX4_surveyLights := goodIn_r _ [15, 3, 16, 17, 18, 9, 19, 11, 20, 21, 22, 23, 24, 25, 26, 27, 28, 29, 30, 31, 32, 33, 34, 35, 36, 37, 38, 39, 40, 41, 42, 43, 44, 45, 46, 47, 48, 49, 50, 51, 52, 53, 54, 55, 56, 57, 58, 59, 60, 61, 62, 63, 64, 65, 66, 67, 68, 69, 70, 71, 72, 73, 74, 98, 99, 100, 101, 102, 103, 104, 105, 106, 107, 82, 83, 84, 85, 86, 87, 88, 89, 90, 91, 92, 93, 94, 95, 96, 97, 108, 109, 110, 111, 112] (by decide +kernel) (by decide +kernel)
set_option maxRecDepth 20000 in
theorem gX4_bears_X4_surveyLights : GoodIn wsX4_bears (wsV RX4 202 RX4 yX4_surveyLights wsX4_surveyLights) := goodIn_app (goodIn_of _ (by decide +kernel)) ggX4_bears_X4_surveyLights
set_option maxRecDepth 20000 in
theorem ggX4_bears_X3_coversAll : GoodIn wsX4_bears wsX3_coversAll := goodIn_r _ [77, 78, 79, 80, 22, 81, 26, 25, 30, 9, 31, 108, 109] (by decide +kernel) (by decide +kernel)
set_option maxRecDepth 20000 in
theorem gX4_bears_X3_coversAll_n218 : GoodIn wsX4_bears (wsX3_coversAll) := ggX4_bears_X3_coversAll
theorem dX4_bears_0 : decode cX4_bears 0 = .ok (.aload_n 0, 1) := by decide +kernel
theorem dX4_bears_1 : decode cX4_bears 1 = .ok (.iload_n 1, 1) := by decide +kernel
theorem dX4_bears_2 : decode cX4_bears 2 = .ok (.invokevirtual 197, 3) := by decide +kernel
theorem dX4_bears_5 : decode cX4_bears 5 = .ok (.ifCond .ne 13, 3) := by decide +kernel
theorem dX4_bears_8 : decode cX4_bears 8 = .ok (.new 86, 3) := by decide +kernel
theorem dX4_bears_11 : decode cX4_bears 11 = .ok (.dup, 1) := by decide +kernel
theorem dX4_bears_12 : decode cX4_bears 12 = .ok (.ldc 200, 2) := by decide +kernel
theorem dX4_bears_14 : decode cX4_bears 14 = .ok (.invokespecial 90, 3) := by decide +kernel
theorem dX4_bears_17 : decode cX4_bears 17 = .ok (.athrow, 1) := by decide +kernel
theorem dX4_bears_18 : decode cX4_bears 18 = .ok (.aload_n 0, 1) := by decide +kernel
theorem dX4_bears_19 : decode cX4_bears 19 = .ok (.invokevirtual 202, 3) := by decide +kernel
theorem dX4_bears_22 : decode cX4_bears 22 = .ok (.aload_n 0, 1) := by decide +kernel
theorem dX4_bears_23 : decode cX4_bears 23 = .ok (.getfield 42, 3) := by decide +kernel
theorem dX4_bears_26 : decode cX4_bears 26 = .ok (.aload_n 0, 1) := by decide +kernel
theorem dX4_bears_27 : decode cX4_bears 27 = .ok (.getfield 33, 3) := by decide +kernel
theorem dX4_bears_30 : decode cX4_bears 30 = .ok (.iload_n 1, 1) := by decide +kernel
theorem dX4_bears_31 : decode cX4_bears 31 = .ok (.aload_n 0, 1) := by decide +kernel
theorem dX4_bears_32 : decode cX4_bears 32 = .ok (.getfield 36, 3) := by decide +kernel
theorem dX4_bears_35 : decode cX4_bears 35 = .ok (.invokevirtual 218, 3) := by decide +kernel
theorem dX4_bears_38 : decode cX4_bears 38 = .ok (.istore_n 2, 1) := by decide +kernel
theorem dX4_bears_39 : decode cX4_bears 39 = .ok (.iconst 0, 1) := by decide +kernel
theorem dX4_bears_40 : decode cX4_bears 40 = .ok (.istore_n 3, 1) := by decide +kernel
theorem dX4_bears_41 : decode cX4_bears 41 = .ok (.iload_n 2, 1) := by decide +kernel
theorem dX4_bears_42 : decode cX4_bears 42 = .ok (.ifCond .eq 49, 3) := by decide +kernel
theorem dX4_bears_45 : decode cX4_bears 45 = .ok (.iload_n 3, 1) := by decide +kernel
theorem dX4_bears_46 : decode cX4_bears 46 = .ok (.bipush 10, 2) := by decide +kernel
theorem dX4_bears_48 : decode cX4_bears 48 = .ok (.if_icmp .ge 43, 3) := by decide +kernel
theorem dX4_bears_51 : decode cX4_bears 51 = .ok (.iconst 1, 1) := by decide +kernel
theorem dX4_bears_52 : decode cX4_bears 52 = .ok (.iload_n 3, 1) := by decide +kernel
theorem dX4_bears_53 : decode cX4_bears 53 = .ok (.ishl, 1) := by decide +kernel
theorem dX4_bears_54 : decode cX4_bears 54 = .ok (.istore 4, 2) := by decide +kernel
theorem dX4_bears_56 : decode cX4_bears 56 = .ok (.iload_n 1, 1) := by decide +kernel
theorem dX4_bears_57 : decode cX4_bears 57 = .ok (.iload 4, 2) := by decide +kernel
theorem dX4_bears_59 : decode cX4_bears 59 = .ok (.iand, 1) := by decide +kernel
theorem dX4_bears_60 : decode cX4_bears 60 = .ok (.ifCond .eq 25, 3) := by decide +kernel
theorem dX4_bears_63 : decode cX4_bears 63 = .ok (.aload_n 0, 1) := by decide +kernel
theorem dX4_bears_64 : decode cX4_bears 64 = .ok (.getfield 42, 3) := by decide +kernel
theorem dX4_bears_67 : decode cX4_bears 67 = .ok (.aload_n 0, 1) := by decide +kernel
theorem dX4_bears_68 : decode cX4_bears 68 = .ok (.getfield 33, 3) := by decide +kernel
theorem dX4_bears_71 : decode cX4_bears 71 = .ok (.iload_n 1, 1) := by decide +kernel
theorem dX4_bears_72 : decode cX4_bears 72 = .ok (.iload 4, 2) := by decide +kernel
theorem dX4_bears_74 : decode cX4_bears 74 = .ok (.iconst (-1), 1) := by decide +kernel
theorem dX4_bears_75 : decode cX4_bears 75 = .ok (.ixor, 1) := by decide +kernel
theorem dX4_bears_76 : decode cX4_bears 76 = .ok (.iand, 1) := by decide +kernel
theorem dX4_bears_77 : decode cX4_bears 77 = .ok (.aload_n 0, 1) := by decide +kernel
theorem dX4_bears_78 : decode cX4_bears 78 = .ok (.getfield 36, 3) := by decide +kernel
theorem dX4_bears_81 : decode cX4_bears 81 = .ok (.invokevirtual 218, 3) := by decide +kernel
theorem dX4_bears_84 : decode cX4_bears 84 = .ok (.istore_n 2, 1) := by decide +kernel
theorem dX4_bears_85 : decode cX4_bears 85 = .ok (.iinc 3 1, 3) := by decide +kernel
theorem dX4_bears_88 : decode cX4_bears 88 = .ok (.goto (-47), 3) := by decide +kernel
theorem dX4_bears_91 : decode cX4_bears 91 = .ok (.iload_n 2, 1) := by decide +kernel
theorem dX4_bears_92 : decode cX4_bears 92 = .ok (.ireturn, 1) := by decide +kernel
set_option maxRecDepth 20000 in
theorem ggX4_breaches_X4_find : GoodIn wsX4_breaches wsX4_find := goodIn_r _ [5, 6, 7, 58, 59, 60, 61, 62, 63, 64, 65, 66, 67, 68, 69, 70, 71, 72, 73] (by decide +kernel) (by decide +kernel)
set_option maxRecDepth 20000 in
theorem gX4_breaches_X4_find : GoodIn wsX4_breaches (wsV RX4 137 RX4 yX4_find wsX4_find) := goodIn_app (goodIn_of _ (by decide +kernel)) ggX4_breaches_X4_find
set_option maxRecDepth 20000 in
theorem ggX4_breaches_X0_shines : GoodIn wsX4_breaches wsX0_shines := goodIn_r _ [11, 12, 13, 74, 75, 76, 77, 78, 79, 80, 81, 82, 83] (by decide +kernel) (by decide +kernel)
set_option maxRecDepth 20000 in
theorem gX4_breaches_X0_shines_n193 : GoodIn wsX4_breaches (wsX0_shines) := ggX4_breaches_X0_shines
set_option maxRecDepth 20000 in
theorem ggX4_breaches_X4_breachesBy : GoodIn wsX4_breaches wsX4_breachesBy := goodIn_r _ [17, 18, 19, 20, 4, 21, 22, 23, 24, 25, 26, 27, 28, 29, 30, 31, 32, 33, 34, 35, 36, 37, 38, 39, 40, 41, 42, 43, 44, 45, 46, 47, 48, 49, 50, 51, 52, 53, 54, 55, 56, 57, 74, 75, 76, 77, 78, 79, 80, 81, 82, 83, 58, 59, 60, 61, 62, 63, 64, 65, 66, 67, 68, 69, 70, 71, 72, 73, 84, 85, 86] (by decide +kernel) (by decide +kernel)
set_option maxRecDepth 20000 in
theorem gX4_breaches_X4_breachesBy : GoodIn wsX4_breaches (wsV RX4 221 RX4 yX4_breachesBy wsX4_breachesBy) := goodIn_app (goodIn_of _ (by decide +kernel)) ggX4_breaches_X4_breachesBy
theorem dX4_breaches_0 : decode cX4_breaches 0 = .ok (.iconst 0, 1) := by decide +kernel
theorem dX4_breaches_1 : decode cX4_breaches 1 = .ok (.istore_n 1, 1) := by decide +kernel
theorem dX4_breaches_2 : decode cX4_breaches 2 = .ok (.iconst 0, 1) := by decide +kernel
theorem dX4_breaches_3 : decode cX4_breaches 3 = .ok (.istore_n 2, 1) := by decide +kernel
theorem dX4_breaches_4 : decode cX4_breaches 4 = .ok (.iload_n 2, 1) := by decide +kernel
theorem dX4_breaches_5 : decode cX4_breaches 5 = .ok (.bipush 10, 2) := by decide +kernel
theorem dX4_breaches_7 : decode cX4_breaches 7 = .ok (.if_icmp .ge 34, 3) := by decide +kernel
theorem dX4_breaches_10 : decode cX4_breaches 10 = .ok (.aload_n 0, 1) := by decide +kernel
theorem dX4_breaches_11 : decode cX4_breaches 11 = .ok (.iload_n 2, 1) := by decide +kernel
theorem dX4_breaches_12 : decode cX4_breaches 12 = .ok (.invokevirtual 137, 3) := by decide +kernel
theorem dX4_breaches_15 : decode cX4_breaches 15 = .ok (.astore_n 3, 1) := by decide +kernel
theorem dX4_breaches_16 : decode cX4_breaches 16 = .ok (.aload_n 3, 1) := by decide +kernel
theorem dX4_breaches_17 : decode cX4_breaches 17 = .ok (.ifnull 18, 3) := by decide +kernel
theorem dX4_breaches_20 : decode cX4_breaches 20 = .ok (.aload_n 3, 1) := by decide +kernel
theorem dX4_breaches_21 : decode cX4_breaches 21 = .ok (.invokevirtual 193, 3) := by decide +kernel
theorem dX4_breaches_24 : decode cX4_breaches 24 = .ok (.ifCond .eq 11, 3) := by decide +kernel
theorem dX4_breaches_27 : decode cX4_breaches 27 = .ok (.iload_n 1, 1) := by decide +kernel
theorem dX4_breaches_28 : decode cX4_breaches 28 = .ok (.aload_n 0, 1) := by decide +kernel
theorem dX4_breaches_29 : decode cX4_breaches 29 = .ok (.aload_n 3, 1) := by decide +kernel
theorem dX4_breaches_30 : decode cX4_breaches 30 = .ok (.invokevirtual 221, 3) := by decide +kernel
theorem dX4_breaches_33 : decode cX4_breaches 33 = .ok (.iadd, 1) := by decide +kernel
theorem dX4_breaches_34 : decode cX4_breaches 34 = .ok (.istore_n 1, 1) := by decide +kernel
theorem dX4_breaches_35 : decode cX4_breaches 35 = .ok (.iinc 2 1, 3) := by decide +kernel
theorem dX4_breaches_38 : decode cX4_breaches 38 = .ok (.goto (-34), 3) := by decide +kernel
theorem dX4_breaches_41 : decode cX4_breaches 41 = .ok (.iload_n 1, 1) := by decide +kernel
theorem dX4_breaches_42 : decode cX4_breaches 42 = .ok (.ireturn, 1) := by decide +kernel
theorem dX4_curfew_0 : decode cX4_curfew 0 = .ok (.iload_n 1, 1) := by decide +kernel
theorem dX4_curfew_1 : decode cX4_curfew 1 = .ok (.ifCond .lt 10, 3) := by decide +kernel
theorem dX4_curfew_4 : decode cX4_curfew 4 = .ok (.iload_n 1, 1) := by decide +kernel
theorem dX4_curfew_5 : decode cX4_curfew 5 = .ok (.sipush 1440, 3) := by decide +kernel
theorem dX4_curfew_8 : decode cX4_curfew 8 = .ok (.if_icmp .lt 13, 3) := by decide +kernel
theorem dX4_curfew_11 : decode cX4_curfew 11 = .ok (.new 86, 3) := by decide +kernel
theorem dX4_curfew_14 : decode cX4_curfew 14 = .ok (.dup, 1) := by decide +kernel
theorem dX4_curfew_15 : decode cX4_curfew 15 = .ok (.ldc 225, 2) := by decide +kernel
theorem dX4_curfew_17 : decode cX4_curfew 17 = .ok (.invokespecial 90, 3) := by decide +kernel
theorem dX4_curfew_20 : decode cX4_curfew 20 = .ok (.athrow, 1) := by decide +kernel
theorem dX4_curfew_21 : decode cX4_curfew 21 = .ok (.iload_n 2, 1) := by decide +kernel
theorem dX4_curfew_22 : decode cX4_curfew 22 = .ok (.iload_n 1, 1) := by decide +kernel
theorem dX4_curfew_23 : decode cX4_curfew 23 = .ok (.if_icmp .lt 10, 3) := by decide +kernel
theorem dX4_curfew_26 : decode cX4_curfew 26 = .ok (.iload_n 2, 1) := by decide +kernel
theorem dX4_curfew_27 : decode cX4_curfew 27 = .ok (.sipush 1440, 3) := by decide +kernel
theorem dX4_curfew_30 : decode cX4_curfew 30 = .ok (.if_icmp .le 13, 3) := by decide +kernel
theorem dX4_curfew_33 : decode cX4_curfew 33 = .ok (.new 86, 3) := by decide +kernel
theorem dX4_curfew_36 : decode cX4_curfew 36 = .ok (.dup, 1) := by decide +kernel
theorem dX4_curfew_37 : decode cX4_curfew 37 = .ok (.ldc 227, 2) := by decide +kernel
theorem dX4_curfew_39 : decode cX4_curfew 39 = .ok (.invokespecial 90, 3) := by decide +kernel
theorem dX4_curfew_42 : decode cX4_curfew 42 = .ok (.athrow, 1) := by decide +kernel
theorem dX4_curfew_43 : decode cX4_curfew 43 = .ok (.aload_n 0, 1) := by decide +kernel
theorem dX4_curfew_44 : decode cX4_curfew 44 = .ok (.iload_n 1, 1) := by decide +kernel
theorem dX4_curfew_45 : decode cX4_curfew 45 = .ok (.putfield 46, 3) := by decide +kernel
theorem dX4_curfew_48 : decode cX4_curfew 48 = .ok (.aload_n 0, 1) := by decide +kernel
theorem dX4_curfew_49 : decode cX4_curfew 49 = .ok (.iload_n 2, 1) := by decide +kernel
theorem dX4_curfew_50 : decode cX4_curfew 50 = .ok (.putfield 49, 3) := by decide +kernel
theorem dX4_curfew_53 : decode cX4_curfew 53 = .ok (.return_, 1) := by decide +kernel
set_option maxRecDepth 20000 in
theorem ggX4_ready_X4_find : GoodIn wsX4_ready wsX4_find := goodIn_r _ [10, 11, 12, 23, 24, 25, 26, 27, 28, 29, 30, 31, 32, 33, 34, 35, 36, 37, 38] (by decide +kernel) (by decide +kernel)
set_option maxRecDepth 20000 in
theorem gX4_ready_X4_find : GoodIn wsX4_ready (wsV RX4 137 RX4 yX4_find wsX4_find) := goodIn_app (goodIn_of _ (by decide +kernel)) ggX4_ready_X4_find
theorem dX4_ready_0 : decode cX4_ready 0 = .ok (.aload_n 0, 1) := by decide +kernel
theorem dX4_ready_1 : decode cX4_ready 1 = .ok (.iload_n 1, 1) := by decide +kernel
theorem dX4_ready_2 : decode cX4_ready 2 = .ok (.invokevirtual 137, 3) := by decide +kernel
theorem dX4_ready_5 : decode cX4_ready 5 = .ok (.astore_n 3, 1) := by decide +kernel
theorem dX4_ready_6 : decode cX4_ready 6 = .ok (.aload_n 3, 1) := by decide +kernel
theorem dX4_ready_7 : decode cX4_ready 7 = .ok (.ifnonnull 13, 3) := by decide +kernel
theorem dX4_ready_10 : decode cX4_ready 10 = .ok (.new 79, 3) := by decide +kernel
theorem dX4_ready_13 : decode cX4_ready 13 = .ok (.dup, 1) := by decide +kernel
theorem dX4_ready_14 : decode cX4_ready 14 = .ok (.ldc 141, 2) := by decide +kernel
theorem dX4_ready_16 : decode cX4_ready 16 = .ok (.invokespecial 83, 3) := by decide +kernel
theorem dX4_ready_19 : decode cX4_ready 19 = .ok (.athrow, 1) := by decide +kernel
theorem dX4_ready_20 : decode cX4_ready 20 = .ok (.iload_n 2, 1) := by decide +kernel
theorem dX4_ready_21 : decode cX4_ready 21 = .ok (.ifCond .lt 9, 3) := by decide +kernel
theorem dX4_ready_24 : decode cX4_ready 24 = .ok (.iload_n 2, 1) := by decide +kernel
theorem dX4_ready_25 : decode cX4_ready 25 = .ok (.ldc 173, 2) := by decide +kernel
theorem dX4_ready_27 : decode cX4_ready 27 = .ok (.if_icmp .le 13, 3) := by decide +kernel
theorem dX4_ready_30 : decode cX4_ready 30 = .ok (.new 86, 3) := by decide +kernel
theorem dX4_ready_33 : decode cX4_ready 33 = .ok (.dup, 1) := by decide +kernel
theorem dX4_ready_34 : decode cX4_ready 34 = .ok (.ldc 229, 2) := by decide +kernel
theorem dX4_ready_36 : decode cX4_ready 36 = .ok (.invokespecial 90, 3) := by decide +kernel
theorem dX4_ready_39 : decode cX4_ready 39 = .ok (.athrow, 1) := by decide +kernel
theorem dX4_ready_40 : decode cX4_ready 40 = .ok (.aload_n 3, 1) := by decide +kernel
theorem dX4_ready_41 : decode cX4_ready 41 = .ok (.getfield 231, 3) := by decide +kernel
theorem dX4_ready_44 : decode cX4_ready 44 = .ok (.istore 4, 2) := by decide +kernel
theorem dX4_ready_46 : decode cX4_ready 46 = .ok (.aload_n 3, 1) := by decide +kernel
theorem dX4_ready_47 : decode cX4_ready 47 = .ok (.iload_n 2, 1) := by decide +kernel
theorem dX4_ready_48 : decode cX4_ready 48 = .ok (.putfield 231, 3) := by decide +kernel
theorem dX4_ready_51 : decode cX4_ready 51 = .ok (.iload 4, 2) := by decide +kernel
theorem dX4_ready_53 : decode cX4_ready 53 = .ok (.ireturn, 1) := by decide +kernel
set_option maxRecDepth 20000 in
theorem ggX4_propose_X4_findScene : GoodIn wsX4_propose wsX4_findScene := goodIn_r _ [9, 10, 13, 14, 15, 16, 17, 18, 19, 20, 21, 22, 23, 24, 25, 26, 27, 28] (by decide +kernel) (by decide +kernel)
set_option maxRecDepth 20000 in
theorem gX4_propose_X4_findScene : GoodIn wsX4_propose (wsV RX4 234 RX4 yX4_findScene wsX4_findScene) := goodIn_app (goodIn_of _ (by decide +kernel)) ggX4_propose_X4_findScene
theorem dX4_propose_0 : decode cX4_propose 0 = .ok (.aload_n 0, 1) := by decide +kernel
theorem dX4_propose_1 : decode cX4_propose 1 = .ok (.iload_n 1, 1) := by decide +kernel
theorem dX4_propose_2 : decode cX4_propose 2 = .ok (.invokevirtual 234, 3) := by decide +kernel
theorem dX4_propose_5 : decode cX4_propose 5 = .ok (.astore_n 3, 1) := by decide +kernel
theorem dX4_propose_6 : decode cX4_propose 6 = .ok (.aload_n 3, 1) := by decide +kernel
theorem dX4_propose_7 : decode cX4_propose 7 = .ok (.ifnonnull 13, 3) := by decide +kernel
theorem dX4_propose_10 : decode cX4_propose 10 = .ok (.new 79, 3) := by decide +kernel
theorem dX4_propose_13 : decode cX4_propose 13 = .ok (.dup, 1) := by decide +kernel
theorem dX4_propose_14 : decode cX4_propose 14 = .ok (.ldc 238, 2) := by decide +kernel
theorem dX4_propose_16 : decode cX4_propose 16 = .ok (.invokespecial 83, 3) := by decide +kernel
theorem dX4_propose_19 : decode cX4_propose 19 = .ok (.athrow, 1) := by decide +kernel
theorem dX4_propose_20 : decode cX4_propose 20 = .ok (.iload_n 2, 1) := by decide +kernel
theorem dX4_propose_21 : decode cX4_propose 21 = .ok (.ifCond .lt 10, 3) := by decide +kernel
theorem dX4_propose_24 : decode cX4_propose 24 = .ok (.iload_n 2, 1) := by decide +kernel
theorem dX4_propose_25 : decode cX4_propose 25 = .ok (.sipush 999, 3) := by decide +kernel
theorem dX4_propose_28 : decode cX4_propose 28 = .ok (.if_icmp .le 13, 3) := by decide +kernel
theorem dX4_propose_31 : decode cX4_propose 31 = .ok (.new 86, 3) := by decide +kernel
theorem dX4_propose_34 : decode cX4_propose 34 = .ok (.dup, 1) := by decide +kernel
theorem dX4_propose_35 : decode cX4_propose 35 = .ok (.ldc 240, 2) := by decide +kernel
theorem dX4_propose_37 : decode cX4_propose 37 = .ok (.invokespecial 90, 3) := by decide +kernel
theorem dX4_propose_40 : decode cX4_propose 40 = .ok (.athrow, 1) := by decide +kernel
theorem dX4_propose_41 : decode cX4_propose 41 = .ok (.aload_n 3, 1) := by decide +kernel
theorem dX4_propose_42 : decode cX4_propose 42 = .ok (.getfield 242, 3) := by decide +kernel
theorem dX4_propose_45 : decode cX4_propose 45 = .ok (.istore 4, 2) := by decide +kernel
theorem dX4_propose_47 : decode cX4_propose 47 = .ok (.aload_n 3, 1) := by decide +kernel
theorem dX4_propose_48 : decode cX4_propose 48 = .ok (.iload_n 2, 1) := by decide +kernel
theorem dX4_propose_49 : decode cX4_propose 49 = .ok (.putfield 242, 3) := by decide +kernel
theorem dX4_propose_52 : decode cX4_propose 52 = .ok (.iload 4, 2) := by decide +kernel
theorem dX4_propose_54 : decode cX4_propose 54 = .ok (.ireturn, 1) := by decide +kernel
set_option maxRecDepth 20000 in
theorem ggX4_answer_X4_findScene : GoodIn wsX4_answer wsX4_findScene := goodIn_r _ [9, 10, 13, 14, 15, 16, 17, 18, 19, 20, 21, 22, 23, 24, 25, 26, 27, 28] (by decide +kernel) (by decide +kernel)
set_option maxRecDepth 20000 in
theorem gX4_answer_X4_findScene : GoodIn wsX4_answer (wsV RX4 234 RX4 yX4_findScene wsX4_findScene) := goodIn_app (goodIn_of _ (by decide +kernel)) ggX4_answer_X4_findScene
theorem dX4_answer_0 : decode cX4_answer 0 = .ok (.aload_n 0, 1) := by decide +kernel
theorem dX4_answer_1 : decode cX4_answer 1 = .ok (.iload_n 1, 1) := by decide +kernel
theorem dX4_answer_2 : decode cX4_answer 2 = .ok (.invokevirtual 234, 3) := by decide +kernel
theorem dX4_answer_5 : decode cX4_answer 5 = .ok (.astore_n 3, 1) := by decide +kernel
theorem dX4_answer_6 : decode cX4_answer 6 = .ok (.aload_n 3, 1) := by decide +kernel
theorem dX4_answer_7 : decode cX4_answer 7 = .ok (.ifnonnull 13, 3) := by decide +kernel
theorem dX4_answer_10 : decode cX4_answer 10 = .ok (.new 79, 3) := by decide +kernel
theorem dX4_answer_13 : decode cX4_answer 13 = .ok (.dup, 1) := by decide +kernel
theorem dX4_answer_14 : decode cX4_answer 14 = .ok (.ldc 238, 2) := by decide +kernel
theorem dX4_answer_16 : decode cX4_answer 16 = .ok (.invokespecial 83, 3) := by decide +kernel
theorem dX4_answer_19 : decode cX4_answer 19 = .ok (.athrow, 1) := by decide +kernel
theorem dX4_answer_20 : decode cX4_answer 20 = .ok (.aload_n 3, 1) := by decide +kernel
theorem dX4_answer_21 : decode cX4_answer 21 = .ok (.getfield 242, 3) := by decide +kernel
theorem dX4_answer_24 : decode cX4_answer 24 = .ok (.iconst (-1), 1) := by decide +kernel
theorem dX4_answer_25 : decode cX4_answer 25 = .ok (.if_icmp .ne 13, 3) := by decide +kernel
theorem dX4_answer_28 : decode cX4_answer 28 = .ok (.new 108, 3) := by decide +kernel
theorem dX4_answer_31 : decode cX4_answer 31 = .ok (.dup, 1) := by decide +kernel
theorem dX4_answer_32 : decode cX4_answer 32 = .ok (.ldc 245, 2) := by decide +kernel
theorem dX4_answer_34 : decode cX4_answer 34 = .ok (.invokespecial 112, 3) := by decide +kernel
theorem dX4_answer_37 : decode cX4_answer 37 = .ok (.athrow, 1) := by decide +kernel
theorem dX4_answer_38 : decode cX4_answer 38 = .ok (.iload_n 2, 1) := by decide +kernel
theorem dX4_answer_39 : decode cX4_answer 39 = .ok (.ifCond .eq 11, 3) := by decide +kernel
theorem dX4_answer_42 : decode cX4_answer 42 = .ok (.aload_n 3, 1) := by decide +kernel
theorem dX4_answer_43 : decode cX4_answer 43 = .ok (.aload_n 3, 1) := by decide +kernel
theorem dX4_answer_44 : decode cX4_answer 44 = .ok (.getfield 242, 3) := by decide +kernel
theorem dX4_answer_47 : decode cX4_answer 47 = .ok (.putfield 247, 3) := by decide +kernel
theorem dX4_answer_50 : decode cX4_answer 50 = .ok (.aload_n 3, 1) := by decide +kernel
theorem dX4_answer_51 : decode cX4_answer 51 = .ok (.iconst (-1), 1) := by decide +kernel
theorem dX4_answer_52 : decode cX4_answer 52 = .ok (.putfield 242, 3) := by decide +kernel
theorem dX4_answer_55 : decode cX4_answer 55 = .ok (.aload_n 3, 1) := by decide +kernel
theorem dX4_answer_56 : decode cX4_answer 56 = .ok (.getfield 247, 3) := by decide +kernel
theorem dX4_answer_59 : decode cX4_answer 59 = .ok (.ireturn, 1) := by decide +kernel
set_option maxRecDepth 20000 in
theorem ggX4_scene_X4_findScene : GoodIn wsX4_scene wsX4_findScene := goodIn_r _ [7, 8, 11, 12, 13, 14, 15, 16, 17, 18, 19, 20, 21, 22, 23, 24, 25, 26] (by decide +kernel) (by decide +kernel)
set_option maxRecDepth 20000 in
theorem gX4_scene_X4_findScene : GoodIn wsX4_scene (wsV RX4 234 RX4 yX4_findScene wsX4_findScene) := goodIn_app (goodIn_of _ (by decide +kernel)) ggX4_scene_X4_findScene
theorem dX4_scene_0 : decode cX4_scene 0 = .ok (.aload_n 0, 1) := by decide +kernel
theorem dX4_scene_1 : decode cX4_scene 1 = .ok (.iload_n 1, 1) := by decide +kernel
theorem dX4_scene_2 : decode cX4_scene 2 = .ok (.invokevirtual 234, 3) := by decide +kernel
theorem dX4_scene_5 : decode cX4_scene 5 = .ok (.astore_n 3, 1) := by decide +kernel
theorem dX4_scene_6 : decode cX4_scene 6 = .ok (.aload_n 3, 1) := by decide +kernel
theorem dX4_scene_7 : decode cX4_scene 7 = .ok (.ifnonnull 13, 3) := by decide +kernel
theorem dX4_scene_10 : decode cX4_scene 10 = .ok (.new 79, 3) := by decide +kernel
theorem dX4_scene_13 : decode cX4_scene 13 = .ok (.dup, 1) := by decide +kernel
theorem dX4_scene_14 : decode cX4_scene 14 = .ok (.ldc 238, 2) := by decide +kernel
theorem dX4_scene_16 : decode cX4_scene 16 = .ok (.invokespecial 83, 3) := by decide +kernel
theorem dX4_scene_19 : decode cX4_scene 19 = .ok (.athrow, 1) := by decide +kernel
theorem dX4_scene_20 : decode cX4_scene 20 = .ok (.iload_n 2, 1) := by decide +kernel
theorem dX4_scene_21 : decode cX4_scene 21 = .ok (.ifCond .eq 10, 3) := by decide +kernel
theorem dX4_scene_24 : decode cX4_scene 24 = .ok (.aload_n 3, 1) := by decide +kernel
theorem dX4_scene_25 : decode cX4_scene 25 = .ok (.getfield 242, 3) := by decide +kernel
theorem dX4_scene_28 : decode cX4_scene 28 = .ok (.goto 7, 3) := by decide +kernel
theorem dX4_scene_31 : decode cX4_scene 31 = .ok (.aload_n 3, 1) := by decide +kernel
theorem dX4_scene_32 : decode cX4_scene 32 = .ok (.getfield 247, 3) := by decide +kernel
theorem dX4_scene_35 : decode cX4_scene 35 = .ok (.ireturn, 1) := by decide +kernel
set_option maxRecDepth 20000 in
theorem ggX4_show_X4_countOfOn : GoodIn wsX4_show wsX4_countOfOn := goodIn_r _ [12, 13, 14, 15, 11, 16, 17, 18, 35, 36, 37, 38, 39, 40, 41, 42, 43, 44, 19, 20, 21, 22, 23, 24, 25, 26, 27, 28, 29, 30, 31, 32, 33, 34] (by decide +kernel) (by decide +kernel)
set_option maxRecDepth 20000 in
theorem gX4_show_X4_countOfOn : GoodIn wsX4_show (wsV RX4 250 RX4 yX4_countOfOn wsX4_countOfOn) := goodIn_app (goodIn_of _ (by decide +kernel)) ggX4_show_X4_countOfOn
theorem dX4_show_0 : decode cX4_show 0 = .ok (.iload_n 1, 1) := by decide +kernel
theorem dX4_show_1 : decode cX4_show 1 = .ok (.tableswitch 73 0 5 #[39, 45, 51, 56, 61, 67], 39) := by decide +kernel
theorem dX4_show_40 : decode cX4_show 40 = .ok (.aload_n 0, 1) := by decide +kernel
theorem dX4_show_41 : decode cX4_show 41 = .ok (.getfield 59, 3) := by decide +kernel
theorem dX4_show_44 : decode cX4_show 44 = .ok (.i2l, 1) := by decide +kernel
theorem dX4_show_45 : decode cX4_show 45 = .ok (.lreturn, 1) := by decide +kernel
theorem dX4_show_46 : decode cX4_show 46 = .ok (.aload_n 0, 1) := by decide +kernel
theorem dX4_show_47 : decode cX4_show 47 = .ok (.getfield 62, 3) := by decide +kernel
theorem dX4_show_50 : decode cX4_show 50 = .ok (.i2l, 1) := by decide +kernel
theorem dX4_show_51 : decode cX4_show 51 = .ok (.lreturn, 1) := by decide +kernel
theorem dX4_show_52 : decode cX4_show 52 = .ok (.aload_n 0, 1) := by decide +kernel
theorem dX4_show_53 : decode cX4_show 53 = .ok (.getfield 65, 3) := by decide +kernel
theorem dX4_show_56 : decode cX4_show 56 = .ok (.lreturn, 1) := by decide +kernel
theorem dX4_show_57 : decode cX4_show 57 = .ok (.aload_n 0, 1) := by decide +kernel
theorem dX4_show_58 : decode cX4_show 58 = .ok (.getfield 69, 3) := by decide +kernel
theorem dX4_show_61 : decode cX4_show 61 = .ok (.lreturn, 1) := by decide +kernel
theorem dX4_show_62 : decode cX4_show 62 = .ok (.aload_n 0, 1) := by decide +kernel
theorem dX4_show_63 : decode cX4_show 63 = .ok (.getfield 72, 3) := by decide +kernel
theorem dX4_show_66 : decode cX4_show 66 = .ok (.i2l, 1) := by decide +kernel
theorem dX4_show_67 : decode cX4_show 67 = .ok (.lreturn, 1) := by decide +kernel
theorem dX4_show_68 : decode cX4_show 68 = .ok (.aload_n 0, 1) := by decide +kernel
theorem dX4_show_69 : decode cX4_show 69 = .ok (.invokevirtual 250, 3) := by decide +kernel
theorem dX4_show_72 : decode cX4_show 72 = .ok (.i2l, 1) := by decide +kernel
theorem dX4_show_73 : decode cX4_show 73 = .ok (.lreturn, 1) := by decide +kernel
theorem dX4_show_74 : decode cX4_show 74 = .ok (.new 86, 3) := by decide +kernel
theorem dX4_show_77 : decode cX4_show 77 = .ok (.dup, 1) := by decide +kernel
theorem dX4_show_78 : decode cX4_show 78 = .ok (.ldc 102, 2) := by decide +kernel
theorem dX4_show_80 : decode cX4_show 80 = .ok (.invokespecial 90, 3) := by decide +kernel
theorem dX4_show_83 : decode cX4_show 83 = .ok (.athrow, 1) := by decide +kernel
set_option maxRecDepth 20000 in
theorem ggX4_pass_X4_breaches : GoodIn wsX4_pass wsX4_breaches := goodIn_r _ [15, 16, 17, 18, 14, 19, 20, 21, 22, 23, 24, 25, 26, 27, 28, 29, 30, 31, 32, 33, 34, 35, 36, 37, 38, 39, 40, 41, 42, 43, 44, 45, 46, 47, 48, 49, 50, 51, 52, 53, 54, 55, 56, 57, 58, 59, 60, 61, 62, 63, 64, 65, 66, 67, 68, 69, 70, 71, 94, 95, 96, 97, 98, 99, 100, 101, 102, 103, 104, 105, 106, 107, 108, 109, 110, 111, 112, 113, 114, 115, 116, 117, 118, 119, 120, 121, 122] (by decide +kernel) (by decide +kernel)
set_option maxRecDepth 20000 in
theorem gX4_pass_X4_breaches : GoodIn wsX4_pass (wsV RX4 257 RX4 yX4_breaches wsX4_breaches) := goodIn_app (goodIn_of _ (by decide +kernel)) ggX4_pass_X4_breaches
set_option maxRecDepth 20000 in
theorem ggX4_pass_X4_countOfOn : GoodIn wsX4_pass wsX4_countOfOn := goodIn_r _ [75, 16, 17, 18, 14, 19, 20, 21, 110, 111, 112, 113, 114, 115, 116, 117, 118, 119, 94, 95, 96, 97, 98, 99, 100, 101, 102, 103, 104, 105, 106, 107, 108, 109] (by decide +kernel) (by decide +kernel)
set_option maxRecDepth 20000 in
theorem gX4_pass_X4_countOfOn : GoodIn wsX4_pass (wsV RX4 250 RX4 yX4_countOfOn wsX4_countOfOn) := goodIn_app (goodIn_of _ (by decide +kernel)) ggX4_pass_X4_countOfOn
set_option maxRecDepth 20000 in
theorem ggX4_pass_X4_powerOfOn : GoodIn wsX4_pass wsX4_powerOfOn := goodIn_r _ [79, 80, 81, 82, 14, 83, 16, 17, 18, 19, 20, 21, 110, 111, 112, 113, 114, 115, 116, 117, 118, 119, 94, 95, 96, 97, 98, 99, 100, 101, 102, 103, 104, 105, 106, 107, 108, 109] (by decide +kernel) (by decide +kernel)
set_option maxRecDepth 20000 in
theorem gX4_pass_X4_powerOfOn : GoodIn wsX4_pass (wsV RX4 260 RX4 yX4_powerOfOn wsX4_powerOfOn) := goodIn_app (goodIn_of _ (by decide +kernel)) ggX4_pass_X4_powerOfOn
set_option maxRecDepth 20000 in
theorem ggX4_pass_X4_lastFrameOfAll : GoodIn wsX4_pass wsX4_lastFrameOfAll := goodIn_r _ [87, 16, 17, 18, 14, 19, 20, 21, 22, 23, 24, 25, 26, 27, 110, 111, 112, 113, 114, 115, 116, 117, 118, 119, 94, 95, 96, 97, 98, 99, 100, 101, 102, 103, 104, 105, 106, 107, 108, 109] (by decide +kernel) (by decide +kernel)
set_option maxRecDepth 20000 in
theorem gX4_pass_X4_lastFrameOfAll : GoodIn wsX4_pass (wsV RX4 263 RX4 yX4_lastFrameOfAll wsX4_lastFrameOfAll) := goodIn_app (goodIn_of _ (by decide +kernel)) ggX4_pass_X4_lastFrameOfAll
set_option maxRecDepth 20000 in
theorem ggX4_pass_X4_isCurfewNow : GoodIn wsX4_pass wsX4_isCurfewNow := goodIn_r _ [91, 6, 92, 93, 94, 95, 96, 97, 98, 99, 100, 101, 102, 103, 104, 105, 106, 107, 108, 109] (by decide +kernel) (by decide +kernel)
set_option maxRecDepth 20000 in
theorem gX4_pass_X4_isCurfewNow : GoodIn wsX4_pass (wsV RX4 266 RX4 yX4_isCurfewNow wsX4_isCurfewNow) := goodIn_app (goodIn_of _ (by decide +kernel)) ggX4_pass_X4_isCurfewNow
theorem dX4_pass_0 : decode cX4_pass 0 = .ok (.iload_n 1, 1) := by decide +kernel
theorem dX4_pass_1 : decode cX4_pass 1 = .ok (.iconst 1, 1) := by decide +kernel
theorem dX4_pass_2 : decode cX4_pass 2 = .ok (.if_icmp .lt 10, 3) := by decide +kernel
theorem dX4_pass_5 : decode cX4_pass 5 = .ok (.iload_n 1, 1) := by decide +kernel
theorem dX4_pass_6 : decode cX4_pass 6 = .ok (.sipush 1440, 3) := by decide +kernel
theorem dX4_pass_9 : decode cX4_pass 9 = .ok (.if_icmp .le 13, 3) := by decide +kernel
theorem dX4_pass_12 : decode cX4_pass 12 = .ok (.new 86, 3) := by decide +kernel
theorem dX4_pass_15 : decode cX4_pass 15 = .ok (.dup, 1) := by decide +kernel
theorem dX4_pass_16 : decode cX4_pass 16 = .ok (.ldc 253, 2) := by decide +kernel
theorem dX4_pass_18 : decode cX4_pass 18 = .ok (.invokespecial 90, 3) := by decide +kernel
theorem dX4_pass_21 : decode cX4_pass 21 = .ok (.athrow, 1) := by decide +kernel
theorem dX4_pass_22 : decode cX4_pass 22 = .ok (.iload_n 1, 1) := by decide +kernel
theorem dX4_pass_23 : decode cX4_pass 23 = .ok (.ldc 173, 2) := by decide +kernel
theorem dX4_pass_25 : decode cX4_pass 25 = .ok (.aload_n 0, 1) := by decide +kernel
theorem dX4_pass_26 : decode cX4_pass 26 = .ok (.getfield 72, 3) := by decide +kernel
theorem dX4_pass_29 : decode cX4_pass 29 = .ok (.isub, 1) := by decide +kernel
theorem dX4_pass_30 : decode cX4_pass 30 = .ok (.if_icmp .le 13, 3) := by decide +kernel
theorem dX4_pass_33 : decode cX4_pass 33 = .ok (.new 108, 3) := by decide +kernel
theorem dX4_pass_36 : decode cX4_pass 36 = .ok (.dup, 1) := by decide +kernel
theorem dX4_pass_37 : decode cX4_pass 37 = .ok (.ldc 255, 2) := by decide +kernel
theorem dX4_pass_39 : decode cX4_pass 39 = .ok (.invokespecial 112, 3) := by decide +kernel
theorem dX4_pass_42 : decode cX4_pass 42 = .ok (.athrow, 1) := by decide +kernel
theorem dX4_pass_43 : decode cX4_pass 43 = .ok (.aload_n 0, 1) := by decide +kernel
theorem dX4_pass_44 : decode cX4_pass 44 = .ok (.invokevirtual 257, 3) := by decide +kernel
theorem dX4_pass_47 : decode cX4_pass 47 = .ok (.istore_n 2, 1) := by decide +kernel
theorem dX4_pass_48 : decode cX4_pass 48 = .ok (.aload_n 0, 1) := by decide +kernel
theorem dX4_pass_49 : decode cX4_pass 49 = .ok (.invokevirtual 250, 3) := by decide +kernel
theorem dX4_pass_52 : decode cX4_pass 52 = .ok (.istore_n 3, 1) := by decide +kernel
theorem dX4_pass_53 : decode cX4_pass 53 = .ok (.aload_n 0, 1) := by decide +kernel
theorem dX4_pass_54 : decode cX4_pass 54 = .ok (.invokevirtual 260, 3) := by decide +kernel
theorem dX4_pass_57 : decode cX4_pass 57 = .ok (.istore 4, 2) := by decide +kernel
theorem dX4_pass_59 : decode cX4_pass 59 = .ok (.aload_n 0, 1) := by decide +kernel
theorem dX4_pass_60 : decode cX4_pass 60 = .ok (.invokevirtual 263, 3) := by decide +kernel
theorem dX4_pass_63 : decode cX4_pass 63 = .ok (.istore 5, 2) := by decide +kernel
theorem dX4_pass_65 : decode cX4_pass 65 = .ok (.iconst 0, 1) := by decide +kernel
theorem dX4_pass_66 : decode cX4_pass 66 = .ok (.istore 6, 2) := by decide +kernel
theorem dX4_pass_68 : decode cX4_pass 68 = .ok (.iload 6, 2) := by decide +kernel
theorem dX4_pass_70 : decode cX4_pass 70 = .ok (.iload_n 1, 1) := by decide +kernel
theorem dX4_pass_71 : decode cX4_pass 71 = .ok (.if_icmp .ge 87, 3) := by decide +kernel
theorem dX4_pass_74 : decode cX4_pass 74 = .ok (.aload_n 0, 1) := by decide +kernel
theorem dX4_pass_75 : decode cX4_pass 75 = .ok (.dup, 1) := by decide +kernel
theorem dX4_pass_76 : decode cX4_pass 76 = .ok (.getfield 65, 3) := by decide +kernel
theorem dX4_pass_79 : decode cX4_pass 79 = .ok (.iload_n 2, 1) := by decide +kernel
theorem dX4_pass_80 : decode cX4_pass 80 = .ok (.aload_n 0, 1) := by decide +kernel
theorem dX4_pass_81 : decode cX4_pass 81 = .ok (.invokevirtual 266, 3) := by decide +kernel
theorem dX4_pass_84 : decode cX4_pass 84 = .ok (.ifCond .eq 7, 3) := by decide +kernel
theorem dX4_pass_87 : decode cX4_pass 87 = .ok (.iload_n 3, 1) := by decide +kernel
theorem dX4_pass_88 : decode cX4_pass 88 = .ok (.goto 4, 3) := by decide +kernel
theorem dX4_pass_91 : decode cX4_pass 91 = .ok (.iconst 0, 1) := by decide +kernel
theorem dX4_pass_92 : decode cX4_pass 92 = .ok (.iadd, 1) := by decide +kernel
theorem dX4_pass_93 : decode cX4_pass 93 = .ok (.i2l, 1) := by decide +kernel
theorem dX4_pass_94 : decode cX4_pass 94 = .ok (.ladd, 1) := by decide +kernel
theorem dX4_pass_95 : decode cX4_pass 95 = .ok (.putfield 65, 3) := by decide +kernel
theorem dX4_pass_98 : decode cX4_pass 98 = .ok (.aload_n 0, 1) := by decide +kernel
theorem dX4_pass_99 : decode cX4_pass 99 = .ok (.dup, 1) := by decide +kernel
theorem dX4_pass_100 : decode cX4_pass 100 = .ok (.getfield 69, 3) := by decide +kernel
theorem dX4_pass_103 : decode cX4_pass 103 = .ok (.iload 4, 2) := by decide +kernel
theorem dX4_pass_105 : decode cX4_pass 105 = .ok (.i2l, 1) := by decide +kernel
theorem dX4_pass_106 : decode cX4_pass 106 = .ok (.ladd, 1) := by decide +kernel
theorem dX4_pass_107 : decode cX4_pass 107 = .ok (.putfield 69, 3) := by decide +kernel
theorem dX4_pass_110 : decode cX4_pass 110 = .ok (.aload_n 0, 1) := by decide +kernel
theorem dX4_pass_111 : decode cX4_pass 111 = .ok (.getfield 59, 3) := by decide +kernel
theorem dX4_pass_114 : decode cX4_pass 114 = .ok (.iload 5, 2) := by decide +kernel
theorem dX4_pass_116 : decode cX4_pass 116 = .ok (.if_icmp .ge 16, 3) := by decide +kernel
theorem dX4_pass_119 : decode cX4_pass 119 = .ok (.aload_n 0, 1) := by decide +kernel
theorem dX4_pass_120 : decode cX4_pass 120 = .ok (.dup, 1) := by decide +kernel
theorem dX4_pass_121 : decode cX4_pass 121 = .ok (.getfield 59, 3) := by decide +kernel
theorem dX4_pass_124 : decode cX4_pass 124 = .ok (.iconst 1, 1) := by decide +kernel
theorem dX4_pass_125 : decode cX4_pass 125 = .ok (.iadd, 1) := by decide +kernel
theorem dX4_pass_126 : decode cX4_pass 126 = .ok (.putfield 59, 3) := by decide +kernel
theorem dX4_pass_129 : decode cX4_pass 129 = .ok (.goto 13, 3) := by decide +kernel
theorem dX4_pass_132 : decode cX4_pass 132 = .ok (.aload_n 0, 1) := by decide +kernel
theorem dX4_pass_133 : decode cX4_pass 133 = .ok (.dup, 1) := by decide +kernel
theorem dX4_pass_134 : decode cX4_pass 134 = .ok (.getfield 62, 3) := by decide +kernel
theorem dX4_pass_137 : decode cX4_pass 137 = .ok (.iconst 1, 1) := by decide +kernel
theorem dX4_pass_138 : decode cX4_pass 138 = .ok (.iadd, 1) := by decide +kernel
theorem dX4_pass_139 : decode cX4_pass 139 = .ok (.putfield 62, 3) := by decide +kernel
theorem dX4_pass_142 : decode cX4_pass 142 = .ok (.aload_n 0, 1) := by decide +kernel
theorem dX4_pass_143 : decode cX4_pass 143 = .ok (.dup, 1) := by decide +kernel
theorem dX4_pass_144 : decode cX4_pass 144 = .ok (.getfield 72, 3) := by decide +kernel
theorem dX4_pass_147 : decode cX4_pass 147 = .ok (.iconst 1, 1) := by decide +kernel
theorem dX4_pass_148 : decode cX4_pass 148 = .ok (.iadd, 1) := by decide +kernel
theorem dX4_pass_149 : decode cX4_pass 149 = .ok (.putfield 72, 3) := by decide +kernel
theorem dX4_pass_152 : decode cX4_pass 152 = .ok (.iinc 6 1, 3) := by decide +kernel
theorem dX4_pass_155 : decode cX4_pass 155 = .ok (.goto (-87), 3) := by decide +kernel
theorem dX4_pass_158 : decode cX4_pass 158 = .ok (.aload_n 0, 1) := by decide +kernel
theorem dX4_pass_159 : decode cX4_pass 159 = .ok (.getfield 72, 3) := by decide +kernel
end
section
theorem dX4_pass_162 : decode cX4_pass 162 = .ok (.ireturn, 1) := by decide +kernel
theorem dX4_isColumn_0 : decode cX4_isColumn 0 = .ok (.iload_n 0, 1) := by decide +kernel
theorem dX4_isColumn_1 : decode cX4_isColumn 1 = .ok (.ifCond .lt 13, 3) := by decide +kernel
theorem dX4_isColumn_4 : decode cX4_isColumn 4 = .ok (.iload_n 0, 1) := by decide +kernel
theorem dX4_isColumn_5 : decode cX4_isColumn 5 = .ok (.bipush 16, 2) := by decide +kernel
theorem dX4_isColumn_7 : decode cX4_isColumn 7 = .ok (.if_icmp .ge 7, 3) := by decide +kernel
theorem dX4_isColumn_10 : decode cX4_isColumn 10 = .ok (.iconst 1, 1) := by decide +kernel
theorem dX4_isColumn_11 : decode cX4_isColumn 11 = .ok (.goto 4, 3) := by decide +kernel
theorem dX4_isColumn_14 : decode cX4_isColumn 14 = .ok (.iconst 0, 1) := by decide +kernel
theorem dX4_isColumn_15 : decode cX4_isColumn 15 = .ok (.ireturn, 1) := by decide +kernel
theorem dX4_isOpenRow_0 : decode cX4_isOpenRow 0 = .ok (.iload_n 0, 1) := by decide +kernel
theorem dX4_isOpenRow_1 : decode cX4_isOpenRow 1 = .ok (.iconst 3, 1) := by decide +kernel
theorem dX4_isOpenRow_2 : decode cX4_isOpenRow 2 = .ok (.if_icmp .lt 13, 3) := by decide +kernel
theorem dX4_isOpenRow_5 : decode cX4_isOpenRow 5 = .ok (.iload_n 0, 1) := by decide +kernel
theorem dX4_isOpenRow_6 : decode cX4_isOpenRow 6 = .ok (.bipush 12, 2) := by decide +kernel
theorem dX4_isOpenRow_8 : decode cX4_isOpenRow 8 = .ok (.if_icmp .ge 7, 3) := by decide +kernel
theorem dX4_isOpenRow_11 : decode cX4_isOpenRow 11 = .ok (.iconst 1, 1) := by decide +kernel
theorem dX4_isOpenRow_12 : decode cX4_isOpenRow 12 = .ok (.goto 4, 3) := by decide +kernel
theorem dX4_isOpenRow_15 : decode cX4_isOpenRow 15 = .ok (.iconst 0, 1) := by decide +kernel
theorem dX4_isOpenRow_16 : decode cX4_isOpenRow 16 = .ok (.ireturn, 1) := by decide +kernel
theorem dX4_isPhase_0 : decode cX4_isPhase 0 = .ok (.iload_n 0, 1) := by decide +kernel
theorem dX4_isPhase_1 : decode cX4_isPhase 1 = .ok (.ifCond .lt 12, 3) := by decide +kernel
theorem dX4_isPhase_4 : decode cX4_isPhase 4 = .ok (.iload_n 0, 1) := by decide +kernel
theorem dX4_isPhase_5 : decode cX4_isPhase 5 = .ok (.iconst 3, 1) := by decide +kernel
theorem dX4_isPhase_6 : decode cX4_isPhase 6 = .ok (.if_icmp .ge 7, 3) := by decide +kernel
theorem dX4_isPhase_9 : decode cX4_isPhase 9 = .ok (.iconst 1, 1) := by decide +kernel
theorem dX4_isPhase_10 : decode cX4_isPhase 10 = .ok (.goto 4, 3) := by decide +kernel
theorem dX4_isPhase_13 : decode cX4_isPhase 13 = .ok (.iconst 0, 1) := by decide +kernel
theorem dX4_isPhase_14 : decode cX4_isPhase 14 = .ok (.ireturn, 1) := by decide +kernel
theorem dX4_isSetOfProjectors_0 : decode cX4_isSetOfProjectors 0 = .ok (.iload_n 1, 1) := by decide +kernel
theorem dX4_isSetOfProjectors_1 : decode cX4_isSetOfProjectors 1 = .ok (.ifCond .lt 17, 3) := by decide +kernel
theorem dX4_isSetOfProjectors_4 : decode cX4_isSetOfProjectors 4 = .ok (.iload_n 1, 1) := by decide +kernel
theorem dX4_isSetOfProjectors_5 : decode cX4_isSetOfProjectors 5 = .ok (.iconst 1, 1) := by decide +kernel
theorem dX4_isSetOfProjectors_6 : decode cX4_isSetOfProjectors 6 = .ok (.aload_n 0, 1) := by decide +kernel
theorem dX4_isSetOfProjectors_7 : decode cX4_isSetOfProjectors 7 = .ok (.getfield 22, 3) := by decide +kernel
theorem dX4_isSetOfProjectors_10 : decode cX4_isSetOfProjectors 10 = .ok (.ishl, 1) := by decide +kernel
theorem dX4_isSetOfProjectors_11 : decode cX4_isSetOfProjectors 11 = .ok (.if_icmp .ge 7, 3) := by decide +kernel
theorem dX4_isSetOfProjectors_14 : decode cX4_isSetOfProjectors 14 = .ok (.iconst 1, 1) := by decide +kernel
theorem dX4_isSetOfProjectors_15 : decode cX4_isSetOfProjectors 15 = .ok (.goto 4, 3) := by decide +kernel
theorem dX4_isSetOfProjectors_18 : decode cX4_isSetOfProjectors 18 = .ok (.iconst 0, 1) := by decide +kernel
theorem dX4_isSetOfProjectors_19 : decode cX4_isSetOfProjectors 19 = .ok (.ireturn, 1) := by decide +kernel
theorem dX4_find_0 : decode cX4_find 0 = .ok (.iload_n 1, 1) := by decide +kernel
theorem dX4_find_1 : decode cX4_find 1 = .ok (.ifCond .lt 20, 3) := by decide +kernel
theorem dX4_find_4 : decode cX4_find 4 = .ok (.iload_n 1, 1) := by decide +kernel
theorem dX4_find_5 : decode cX4_find 5 = .ok (.aload_n 0, 1) := by decide +kernel
theorem dX4_find_6 : decode cX4_find 6 = .ok (.getfield 22, 3) := by decide +kernel
theorem dX4_find_9 : decode cX4_find 9 = .ok (.if_icmp .ge 12, 3) := by decide +kernel
theorem dX4_find_12 : decode cX4_find 12 = .ok (.iload_n 1, 1) := by decide +kernel
theorem dX4_find_13 : decode cX4_find 13 = .ok (.aload_n 0, 1) := by decide +kernel
theorem dX4_find_14 : decode cX4_find 14 = .ok (.getfield 18, 3) := by decide +kernel
theorem dX4_find_17 : decode cX4_find 17 = .ok (.arraylength, 1) := by decide +kernel
theorem dX4_find_18 : decode cX4_find 18 = .ok (.if_icmp .lt 5, 3) := by decide +kernel
theorem dX4_find_21 : decode cX4_find 21 = .ok (.aconst_null, 1) := by decide +kernel
theorem dX4_find_22 : decode cX4_find 22 = .ok (.areturn, 1) := by decide +kernel
theorem dX4_find_23 : decode cX4_find 23 = .ok (.aload_n 0, 1) := by decide +kernel
theorem dX4_find_24 : decode cX4_find 24 = .ok (.getfield 18, 3) := by decide +kernel
theorem dX4_find_27 : decode cX4_find 27 = .ok (.iload_n 1, 1) := by decide +kernel
theorem dX4_find_28 : decode cX4_find 28 = .ok (.aaload, 1) := by decide +kernel
theorem dX4_find_29 : decode cX4_find 29 = .ok (.areturn, 1) := by decide +kernel
theorem dX4_findScene_0 : decode cX4_findScene 0 = .ok (.iload_n 1, 1) := by decide +kernel
theorem dX4_findScene_1 : decode cX4_findScene 1 = .ok (.ifCond .lt 17, 3) := by decide +kernel
theorem dX4_findScene_4 : decode cX4_findScene 4 = .ok (.iload_n 1, 1) := by decide +kernel
theorem dX4_findScene_5 : decode cX4_findScene 5 = .ok (.iconst 4, 1) := by decide +kernel
theorem dX4_findScene_6 : decode cX4_findScene 6 = .ok (.if_icmp .ge 12, 3) := by decide +kernel
theorem dX4_findScene_9 : decode cX4_findScene 9 = .ok (.iload_n 1, 1) := by decide +kernel
theorem dX4_findScene_10 : decode cX4_findScene 10 = .ok (.aload_n 0, 1) := by decide +kernel
theorem dX4_findScene_11 : decode cX4_findScene 11 = .ok (.getfield 55, 3) := by decide +kernel
theorem dX4_findScene_14 : decode cX4_findScene 14 = .ok (.arraylength, 1) := by decide +kernel
theorem dX4_findScene_15 : decode cX4_findScene 15 = .ok (.if_icmp .lt 5, 3) := by decide +kernel
theorem dX4_findScene_18 : decode cX4_findScene 18 = .ok (.aconst_null, 1) := by decide +kernel
theorem dX4_findScene_19 : decode cX4_findScene 19 = .ok (.areturn, 1) := by decide +kernel
theorem dX4_findScene_20 : decode cX4_findScene 20 = .ok (.aload_n 0, 1) := by decide +kernel
theorem dX4_findScene_21 : decode cX4_findScene 21 = .ok (.getfield 55, 3) := by decide +kernel
theorem dX4_findScene_24 : decode cX4_findScene 24 = .ok (.iload_n 1, 1) := by decide +kernel
theorem dX4_findScene_25 : decode cX4_findScene 25 = .ok (.aaload, 1) := by decide +kernel
theorem dX4_findScene_26 : decode cX4_findScene 26 = .ok (.areturn, 1) := by decide +kernel
set_option maxRecDepth 20000 in
theorem ggX4_loadOf_X4_find : GoodIn wsX4_loadOf wsX4_find := goodIn_r _ [5, 6, 7, 18, 19, 20, 21, 22, 23, 24, 25, 26, 27, 28, 29, 30, 31, 32, 33] (by decide +kernel) (by decide +kernel)
set_option maxRecDepth 20000 in
theorem gX4_loadOf_X4_find : GoodIn wsX4_loadOf (wsV RX4 137 RX4 yX4_find wsX4_find) := goodIn_app (goodIn_of _ (by decide +kernel)) ggX4_loadOf_X4_find
theorem dX4_loadOf_0 : decode cX4_loadOf 0 = .ok (.iconst 0, 1) := by decide +kernel
theorem dX4_loadOf_1 : decode cX4_loadOf 1 = .ok (.istore_n 2, 1) := by decide +kernel
theorem dX4_loadOf_2 : decode cX4_loadOf 2 = .ok (.iconst 0, 1) := by decide +kernel
theorem dX4_loadOf_3 : decode cX4_loadOf 3 = .ok (.istore_n 3, 1) := by decide +kernel
theorem dX4_loadOf_4 : decode cX4_loadOf 4 = .ok (.iload_n 3, 1) := by decide +kernel
theorem dX4_loadOf_5 : decode cX4_loadOf 5 = .ok (.bipush 10, 2) := by decide +kernel
theorem dX4_loadOf_7 : decode cX4_loadOf 7 = .ok (.if_icmp .ge 46, 3) := by decide +kernel
theorem dX4_loadOf_10 : decode cX4_loadOf 10 = .ok (.aload_n 0, 1) := by decide +kernel
theorem dX4_loadOf_11 : decode cX4_loadOf 11 = .ok (.iload_n 3, 1) := by decide +kernel
theorem dX4_loadOf_12 : decode cX4_loadOf 12 = .ok (.invokevirtual 137, 3) := by decide +kernel
theorem dX4_loadOf_15 : decode cX4_loadOf 15 = .ok (.astore 4, 2) := by decide +kernel
theorem dX4_loadOf_17 : decode cX4_loadOf 17 = .ok (.aload 4, 2) := by decide +kernel
theorem dX4_loadOf_19 : decode cX4_loadOf 19 = .ok (.ifnull 28, 3) := by decide +kernel
theorem dX4_loadOf_22 : decode cX4_loadOf 22 = .ok (.aload 4, 2) := by decide +kernel
theorem dX4_loadOf_24 : decode cX4_loadOf 24 = .ok (.getfield 151, 3) := by decide +kernel
theorem dX4_loadOf_27 : decode cX4_loadOf 27 = .ok (.ifCond .eq 20, 3) := by decide +kernel
theorem dX4_loadOf_30 : decode cX4_loadOf 30 = .ok (.aload 4, 2) := by decide +kernel
theorem dX4_loadOf_32 : decode cX4_loadOf 32 = .ok (.getfield 155, 3) := by decide +kernel
theorem dX4_loadOf_35 : decode cX4_loadOf 35 = .ok (.iload_n 1, 1) := by decide +kernel
theorem dX4_loadOf_36 : decode cX4_loadOf 36 = .ok (.if_icmp .ne 11, 3) := by decide +kernel
theorem dX4_loadOf_39 : decode cX4_loadOf 39 = .ok (.iload_n 2, 1) := by decide +kernel
theorem dX4_loadOf_40 : decode cX4_loadOf 40 = .ok (.aload 4, 2) := by decide +kernel
theorem dX4_loadOf_42 : decode cX4_loadOf 42 = .ok (.getfield 162, 3) := by decide +kernel
theorem dX4_loadOf_45 : decode cX4_loadOf 45 = .ok (.iadd, 1) := by decide +kernel
theorem dX4_loadOf_46 : decode cX4_loadOf 46 = .ok (.istore_n 2, 1) := by decide +kernel
theorem dX4_loadOf_47 : decode cX4_loadOf 47 = .ok (.iinc 3 1, 3) := by decide +kernel
theorem dX4_loadOf_50 : decode cX4_loadOf 50 = .ok (.goto (-46), 3) := by decide +kernel
theorem dX4_loadOf_53 : decode cX4_loadOf 53 = .ok (.iload_n 2, 1) := by decide +kernel
theorem dX4_loadOf_54 : decode cX4_loadOf 54 = .ok (.ireturn, 1) := by decide +kernel
set_option maxRecDepth 20000 in
theorem ggX4_borneBy_X4_isPhase : GoodIn wsX4_borneBy wsX4_isPhase := goodIn_r _ [5] (by decide +kernel) (by decide +kernel)
set_option maxRecDepth 20000 in
theorem gX4_borneBy_X4_isPhase : GoodIn wsX4_borneBy (va_wsS RX4 123 yX4_isPhase wsX4_isPhase) := goodIn_app (goodIn_of _ (by decide +kernel)) ggX4_borneBy_X4_isPhase
theorem dX4_borneBy_0 : decode cX4_borneBy 0 = .ok (.iload_n 1, 1) := by decide +kernel
theorem dX4_borneBy_1 : decode cX4_borneBy 1 = .ok (.invokestatic 123, 3) := by decide +kernel
theorem dX4_borneBy_4 : decode cX4_borneBy 4 = .ok (.ifCond .eq 12, 3) := by decide +kernel
theorem dX4_borneBy_7 : decode cX4_borneBy 7 = .ok (.aload_n 0, 1) := by decide +kernel
theorem dX4_borneBy_8 : decode cX4_borneBy 8 = .ok (.getfield 26, 3) := by decide +kernel
theorem dX4_borneBy_11 : decode cX4_borneBy 11 = .ok (.iload_n 1, 1) := by decide +kernel
theorem dX4_borneBy_12 : decode cX4_borneBy 12 = .ok (.iaload, 1) := by decide +kernel
theorem dX4_borneBy_13 : decode cX4_borneBy 13 = .ok (.goto 4, 3) := by decide +kernel
theorem dX4_borneBy_16 : decode cX4_borneBy 16 = .ok (.iconst 0, 1) := by decide +kernel
theorem dX4_borneBy_17 : decode cX4_borneBy 17 = .ok (.ireturn, 1) := by decide +kernel
set_option maxRecDepth 20000 in
theorem ggX4_powerOfOn_X4_loadOf : GoodIn wsX4_powerOfOn wsX4_loadOf := goodIn_r _ [5, 6, 7, 8, 4, 9, 10, 11, 12, 13, 14, 15, 16, 17, 18, 19, 20, 21, 22, 23, 24, 25, 26, 27, 28, 29, 30, 31, 32, 33, 34, 35, 36, 37] (by decide +kernel) (by decide +kernel)
set_option maxRecDepth 20000 in
theorem gX4_powerOfOn_X4_loadOf : GoodIn wsX4_powerOfOn (wsV RX4 158 RX4 yX4_loadOf wsX4_loadOf) := goodIn_app (goodIn_of _ (by decide +kernel)) ggX4_powerOfOn_X4_loadOf
theorem dX4_powerOfOn_0 : decode cX4_powerOfOn 0 = .ok (.aload_n 0, 1) := by decide +kernel
theorem dX4_powerOfOn_1 : decode cX4_powerOfOn 1 = .ok (.iconst 0, 1) := by decide +kernel
theorem dX4_powerOfOn_2 : decode cX4_powerOfOn 2 = .ok (.invokevirtual 158, 3) := by decide +kernel
theorem dX4_powerOfOn_5 : decode cX4_powerOfOn 5 = .ok (.aload_n 0, 1) := by decide +kernel
theorem dX4_powerOfOn_6 : decode cX4_powerOfOn 6 = .ok (.iconst 1, 1) := by decide +kernel
theorem dX4_powerOfOn_7 : decode cX4_powerOfOn 7 = .ok (.invokevirtual 158, 3) := by decide +kernel
theorem dX4_powerOfOn_10 : decode cX4_powerOfOn 10 = .ok (.iadd, 1) := by decide +kernel
theorem dX4_powerOfOn_11 : decode cX4_powerOfOn 11 = .ok (.aload_n 0, 1) := by decide +kernel
theorem dX4_powerOfOn_12 : decode cX4_powerOfOn 12 = .ok (.iconst 2, 1) := by decide +kernel
theorem dX4_powerOfOn_13 : decode cX4_powerOfOn 13 = .ok (.invokevirtual 158, 3) := by decide +kernel
theorem dX4_powerOfOn_16 : decode cX4_powerOfOn 16 = .ok (.iadd, 1) := by decide +kernel
theorem dX4_powerOfOn_17 : decode cX4_powerOfOn 17 = .ok (.ireturn, 1) := by decide +kernel
set_option maxRecDepth 20000 in
theorem ggX4_countOfOn_X4_find : GoodIn wsX4_countOfOn wsX4_find := goodIn_r _ [5, 6, 7, 18, 19, 20, 21, 22, 23, 24, 25, 26, 27, 28, 29, 30, 31, 32, 33] (by decide +kernel) (by decide +kernel)
set_option maxRecDepth 20000 in
theorem gX4_countOfOn_X4_find : GoodIn wsX4_countOfOn (wsV RX4 137 RX4 yX4_find wsX4_find) := goodIn_app (goodIn_of _ (by decide +kernel)) ggX4_countOfOn_X4_find
theorem dX4_countOfOn_0 : decode cX4_countOfOn 0 = .ok (.iconst 0, 1) := by decide +kernel
theorem dX4_countOfOn_1 : decode cX4_countOfOn 1 = .ok (.istore_n 1, 1) := by decide +kernel
theorem dX4_countOfOn_2 : decode cX4_countOfOn 2 = .ok (.iconst 0, 1) := by decide +kernel
theorem dX4_countOfOn_3 : decode cX4_countOfOn 3 = .ok (.istore_n 2, 1) := by decide +kernel
theorem dX4_countOfOn_4 : decode cX4_countOfOn 4 = .ok (.iload_n 2, 1) := by decide +kernel
theorem dX4_countOfOn_5 : decode cX4_countOfOn 5 = .ok (.bipush 10, 2) := by decide +kernel
theorem dX4_countOfOn_7 : decode cX4_countOfOn 7 = .ok (.if_icmp .ge 29, 3) := by decide +kernel
theorem dX4_countOfOn_10 : decode cX4_countOfOn 10 = .ok (.aload_n 0, 1) := by decide +kernel
theorem dX4_countOfOn_11 : decode cX4_countOfOn 11 = .ok (.iload_n 2, 1) := by decide +kernel
theorem dX4_countOfOn_12 : decode cX4_countOfOn 12 = .ok (.invokevirtual 137, 3) := by decide +kernel
theorem dX4_countOfOn_15 : decode cX4_countOfOn 15 = .ok (.astore_n 3, 1) := by decide +kernel
theorem dX4_countOfOn_16 : decode cX4_countOfOn 16 = .ok (.aload_n 3, 1) := by decide +kernel
theorem dX4_countOfOn_17 : decode cX4_countOfOn 17 = .ok (.ifnull 13, 3) := by decide +kernel
theorem dX4_countOfOn_20 : decode cX4_countOfOn 20 = .ok (.aload_n 3, 1) := by decide +kernel
theorem dX4_countOfOn_21 : decode cX4_countOfOn 21 = .ok (.getfield 151, 3) := by decide +kernel
theorem dX4_countOfOn_24 : decode cX4_countOfOn 24 = .ok (.ifCond .eq 6, 3) := by decide +kernel
theorem dX4_countOfOn_27 : decode cX4_countOfOn 27 = .ok (.iinc 1 1, 3) := by decide +kernel
theorem dX4_countOfOn_30 : decode cX4_countOfOn 30 = .ok (.iinc 2 1, 3) := by decide +kernel
theorem dX4_countOfOn_33 : decode cX4_countOfOn 33 = .ok (.goto (-29), 3) := by decide +kernel
theorem dX4_countOfOn_36 : decode cX4_countOfOn 36 = .ok (.iload_n 1, 1) := by decide +kernel
theorem dX4_countOfOn_37 : decode cX4_countOfOn 37 = .ok (.ireturn, 1) := by decide +kernel
set_option maxRecDepth 20000 in
theorem ggX4_crossing_X2_reliefOf : GoodIn wsX4_crossing wsX2_reliefOf := goodIn_r _ [5, 6, 7, 8, 9, 36, 37, 38] (by decide +kernel) (by decide +kernel)
set_option maxRecDepth 20000 in
theorem gX4_crossing_X2_reliefOf_n269 : GoodIn wsX4_crossing (wsX2_reliefOf) := ggX4_crossing_X2_reliefOf
theorem dX4_crossing_0 : decode cX4_crossing 0 = .ok (.aload_n 0, 1) := by decide +kernel
theorem dX4_crossing_1 : decode cX4_crossing 1 = .ok (.getfield 10, 3) := by decide +kernel
theorem dX4_crossing_4 : decode cX4_crossing 4 = .ok (.iload_n 2, 1) := by decide +kernel
theorem dX4_crossing_5 : decode cX4_crossing 5 = .ok (.invokevirtual 269, 3) := by decide +kernel
theorem dX4_crossing_8 : decode cX4_crossing 8 = .ok (.istore 4, 2) := by decide +kernel
theorem dX4_crossing_10 : decode cX4_crossing 10 = .ok (.iload_n 3, 1) := by decide +kernel
theorem dX4_crossing_11 : decode cX4_crossing 11 = .ok (.iload 4, 2) := by decide +kernel
theorem dX4_crossing_13 : decode cX4_crossing 13 = .ok (.if_icmp .le 11, 3) := by decide +kernel
theorem dX4_crossing_16 : decode cX4_crossing 16 = .ok (.iload_n 3, 1) := by decide +kernel
theorem dX4_crossing_17 : decode cX4_crossing 17 = .ok (.aload_n 1, 1) := by decide +kernel
theorem dX4_crossing_18 : decode cX4_crossing 18 = .ok (.getfield 272, 3) := by decide +kernel
theorem dX4_crossing_21 : decode cX4_crossing 21 = .ok (.if_icmp .lt 5, 3) := by decide +kernel
theorem dX4_crossing_24 : decode cX4_crossing 24 = .ok (.iconst (-1), 1) := by decide +kernel
theorem dX4_crossing_25 : decode cX4_crossing 25 = .ok (.ireturn, 1) := by decide +kernel
theorem dX4_crossing_26 : decode cX4_crossing 26 = .ok (.aload_n 1, 1) := by decide +kernel
theorem dX4_crossing_27 : decode cX4_crossing 27 = .ok (.getfield 272, 3) := by decide +kernel
theorem dX4_crossing_30 : decode cX4_crossing 30 = .ok (.iload 4, 2) := by decide +kernel
theorem dX4_crossing_32 : decode cX4_crossing 32 = .ok (.isub, 1) := by decide +kernel
theorem dX4_crossing_33 : decode cX4_crossing 33 = .ok (.istore 5, 2) := by decide +kernel
theorem dX4_crossing_35 : decode cX4_crossing 35 = .ok (.aload_n 1, 1) := by decide +kernel
theorem dX4_crossing_36 : decode cX4_crossing 36 = .ok (.getfield 272, 3) := by decide +kernel
theorem dX4_crossing_39 : decode cX4_crossing 39 = .ok (.iload_n 3, 1) := by decide +kernel
theorem dX4_crossing_40 : decode cX4_crossing 40 = .ok (.isub, 1) := by decide +kernel
theorem dX4_crossing_41 : decode cX4_crossing 41 = .ok (.istore 6, 2) := by decide +kernel
theorem dX4_crossing_43 : decode cX4_crossing 43 = .ok (.aload_n 1, 1) := by decide +kernel
theorem dX4_crossing_44 : decode cX4_crossing 44 = .ok (.getfield 275, 3) := by decide +kernel
theorem dX4_crossing_47 : decode cX4_crossing 47 = .ok (.iload 5, 2) := by decide +kernel
theorem dX4_crossing_49 : decode cX4_crossing 49 = .ok (.imul, 1) := by decide +kernel
theorem dX4_crossing_50 : decode cX4_crossing 50 = .ok (.iload_n 2, 1) := by decide +kernel
theorem dX4_crossing_51 : decode cX4_crossing 51 = .ok (.aload_n 1, 1) := by decide +kernel
theorem dX4_crossing_52 : decode cX4_crossing 52 = .ok (.getfield 275, 3) := by decide +kernel
theorem dX4_crossing_55 : decode cX4_crossing 55 = .ok (.isub, 1) := by decide +kernel
theorem dX4_crossing_56 : decode cX4_crossing 56 = .ok (.iload 6, 2) := by decide +kernel
theorem dX4_crossing_58 : decode cX4_crossing 58 = .ok (.imul, 1) := by decide +kernel
theorem dX4_crossing_59 : decode cX4_crossing 59 = .ok (.iadd, 1) := by decide +kernel
theorem dX4_crossing_60 : decode cX4_crossing 60 = .ok (.istore 7, 2) := by decide +kernel
theorem dX4_crossing_62 : decode cX4_crossing 62 = .ok (.iconst 2, 1) := by decide +kernel
theorem dX4_crossing_63 : decode cX4_crossing 63 = .ok (.iload 7, 2) := by decide +kernel
theorem dX4_crossing_65 : decode cX4_crossing 65 = .ok (.imul, 1) := by decide +kernel
theorem dX4_crossing_66 : decode cX4_crossing 66 = .ok (.iload 5, 2) := by decide +kernel
theorem dX4_crossing_68 : decode cX4_crossing 68 = .ok (.iadd, 1) := by decide +kernel
theorem dX4_crossing_69 : decode cX4_crossing 69 = .ok (.iconst 2, 1) := by decide +kernel
theorem dX4_crossing_70 : decode cX4_crossing 70 = .ok (.iload 5, 2) := by decide +kernel
theorem dX4_crossing_72 : decode cX4_crossing 72 = .ok (.imul, 1) := by decide +kernel
theorem dX4_crossing_73 : decode cX4_crossing 73 = .ok (.idiv, 1) := by decide +kernel
theorem dX4_crossing_74 : decode cX4_crossing 74 = .ok (.ireturn, 1) := by decide +kernel
set_option maxRecDepth 20000 in
theorem ggX4_isBlocked_X2_reliefOf : GoodIn wsX4_isBlocked wsX2_reliefOf := goodIn_r _ [5, 6, 7, 8, 9, 52, 53, 54] (by decide +kernel) (by decide +kernel)
set_option maxRecDepth 20000 in
theorem gX4_isBlocked_X2_reliefOf_n269 : GoodIn wsX4_isBlocked (wsX2_reliefOf) := ggX4_isBlocked_X2_reliefOf
set_option maxRecDepth 20000 in
theorem ggX4_isBlocked_X4_crossing : GoodIn wsX4_isBlocked wsX4_crossing := goodIn_r _ [13, 1, 2, 3, 4, 5, 6, 7, 8, 9, 26, 27, 28, 29, 30, 31, 32, 33, 34, 35, 36, 37, 38, 39, 40, 41, 42, 43, 44, 45, 46, 47, 48, 49, 50, 51, 52, 53, 54] (by decide +kernel) (by decide +kernel)
set_option maxRecDepth 20000 in
theorem gX4_isBlocked_X4_crossing : GoodIn wsX4_isBlocked (wsV RX4 178 RX4 yX4_crossing wsX4_crossing) := goodIn_app (goodIn_of _ (by decide +kernel)) ggX4_isBlocked_X4_crossing
set_option maxRecDepth 20000 in
theorem ggX4_isBlocked_X2_stopsRays : GoodIn wsX4_isBlocked wsX2_stopsRays := goodIn_r _ [16, 17, 18, 19, 3, 20, 21, 22, 23, 24, 25, 2, 4, 5, 6, 7, 8, 9, 52, 53, 54] (by decide +kernel) (by decide +kernel)
set_option maxRecDepth 20000 in
theorem gX4_isBlocked_X2_stopsRays_n278 : GoodIn wsX4_isBlocked (wsX2_stopsRays) := ggX4_isBlocked_X2_stopsRays
theorem dX4_isBlocked_0 : decode cX4_isBlocked 0 = .ok (.aload_n 0, 1) := by decide +kernel
theorem dX4_isBlocked_1 : decode cX4_isBlocked 1 = .ok (.getfield 10, 3) := by decide +kernel
theorem dX4_isBlocked_4 : decode cX4_isBlocked 4 = .ok (.iload_n 2, 1) := by decide +kernel
theorem dX4_isBlocked_5 : decode cX4_isBlocked 5 = .ok (.invokevirtual 269, 3) := by decide +kernel
theorem dX4_isBlocked_8 : decode cX4_isBlocked 8 = .ok (.iconst 1, 1) := by decide +kernel
theorem dX4_isBlocked_9 : decode cX4_isBlocked 9 = .ok (.iadd, 1) := by decide +kernel
theorem dX4_isBlocked_10 : decode cX4_isBlocked 10 = .ok (.istore_n 3, 1) := by decide +kernel
theorem dX4_isBlocked_11 : decode cX4_isBlocked 11 = .ok (.iload_n 3, 1) := by decide +kernel
theorem dX4_isBlocked_12 : decode cX4_isBlocked 12 = .ok (.aload_n 1, 1) := by decide +kernel
theorem dX4_isBlocked_13 : decode cX4_isBlocked 13 = .ok (.getfield 272, 3) := by decide +kernel
theorem dX4_isBlocked_16 : decode cX4_isBlocked 16 = .ok (.if_icmp .ge 29, 3) := by decide +kernel
theorem dX4_isBlocked_19 : decode cX4_isBlocked 19 = .ok (.aload_n 0, 1) := by decide +kernel
theorem dX4_isBlocked_20 : decode cX4_isBlocked 20 = .ok (.getfield 10, 3) := by decide +kernel
theorem dX4_isBlocked_23 : decode cX4_isBlocked 23 = .ok (.aload_n 0, 1) := by decide +kernel
theorem dX4_isBlocked_24 : decode cX4_isBlocked 24 = .ok (.aload_n 1, 1) := by decide +kernel
theorem dX4_isBlocked_25 : decode cX4_isBlocked 25 = .ok (.iload_n 2, 1) := by decide +kernel
theorem dX4_isBlocked_26 : decode cX4_isBlocked 26 = .ok (.iload_n 3, 1) := by decide +kernel
theorem dX4_isBlocked_27 : decode cX4_isBlocked 27 = .ok (.invokevirtual 178, 3) := by decide +kernel
theorem dX4_isBlocked_30 : decode cX4_isBlocked 30 = .ok (.iload_n 3, 1) := by decide +kernel
theorem dX4_isBlocked_31 : decode cX4_isBlocked 31 = .ok (.invokevirtual 278, 3) := by decide +kernel
theorem dX4_isBlocked_34 : decode cX4_isBlocked 34 = .ok (.ifCond .eq 5, 3) := by decide +kernel
theorem dX4_isBlocked_37 : decode cX4_isBlocked 37 = .ok (.iconst 1, 1) := by decide +kernel
theorem dX4_isBlocked_38 : decode cX4_isBlocked 38 = .ok (.ireturn, 1) := by decide +kernel
theorem dX4_isBlocked_39 : decode cX4_isBlocked 39 = .ok (.iinc 3 1, 3) := by decide +kernel
theorem dX4_isBlocked_42 : decode cX4_isBlocked 42 = .ok (.goto (-31), 3) := by decide +kernel
theorem dX4_isBlocked_45 : decode cX4_isBlocked 45 = .ok (.iconst 0, 1) := by decide +kernel
theorem dX4_isBlocked_46 : decode cX4_isBlocked 46 = .ok (.ireturn, 1) := by decide +kernel
set_option maxRecDepth 20000 in
theorem ggX4_meetsTheLiving_X4_crossing : GoodIn wsX4_meetsTheLiving wsX4_crossing := goodIn_r _ [6, 1, 7, 8, 9, 10, 11, 12, 5, 13, 35, 36, 37, 38, 39, 40, 41, 42, 43, 44, 45, 46, 47, 48, 49, 50, 25, 26, 27, 28, 29, 30, 31, 32, 33, 34, 51, 52, 53] (by decide +kernel) (by decide +kernel)
set_option maxRecDepth 20000 in
theorem gX4_meetsTheLiving_X4_crossing : GoodIn wsX4_meetsTheLiving (wsV RX4 178 RX4 yX4_crossing wsX4_crossing) := goodIn_app (goodIn_of _ (by decide +kernel)) ggX4_meetsTheLiving_X4_crossing
set_option maxRecDepth 20000 in
theorem ggX4_meetsTheLiving_X2_hasTheLiving : GoodIn wsX4_meetsTheLiving wsX2_hasTheLiving := goodIn_r _ [16, 17, 18, 19, 8, 20, 21, 22, 23, 24, 51, 52, 53] (by decide +kernel) (by decide +kernel)
set_option maxRecDepth 20000 in
theorem gX4_meetsTheLiving_X2_hasTheLiving_n282 : GoodIn wsX4_meetsTheLiving (wsX2_hasTheLiving) := ggX4_meetsTheLiving_X2_hasTheLiving
theorem dX4_meetsTheLiving_0 : decode cX4_meetsTheLiving 0 = .ok (.iconst 3, 1) := by decide +kernel
theorem dX4_meetsTheLiving_1 : decode cX4_meetsTheLiving 1 = .ok (.istore_n 3, 1) := by decide +kernel
theorem dX4_meetsTheLiving_2 : decode cX4_meetsTheLiving 2 = .ok (.iload_n 3, 1) := by decide +kernel
theorem dX4_meetsTheLiving_3 : decode cX4_meetsTheLiving 3 = .ok (.aload_n 1, 1) := by decide +kernel
theorem dX4_meetsTheLiving_4 : decode cX4_meetsTheLiving 4 = .ok (.getfield 272, 3) := by decide +kernel
theorem dX4_meetsTheLiving_7 : decode cX4_meetsTheLiving 7 = .ok (.if_icmp .ge 29, 3) := by decide +kernel
theorem dX4_meetsTheLiving_10 : decode cX4_meetsTheLiving 10 = .ok (.aload_n 0, 1) := by decide +kernel
theorem dX4_meetsTheLiving_11 : decode cX4_meetsTheLiving 11 = .ok (.getfield 10, 3) := by decide +kernel
theorem dX4_meetsTheLiving_14 : decode cX4_meetsTheLiving 14 = .ok (.aload_n 0, 1) := by decide +kernel
theorem dX4_meetsTheLiving_15 : decode cX4_meetsTheLiving 15 = .ok (.aload_n 1, 1) := by decide +kernel
theorem dX4_meetsTheLiving_16 : decode cX4_meetsTheLiving 16 = .ok (.iload_n 2, 1) := by decide +kernel
theorem dX4_meetsTheLiving_17 : decode cX4_meetsTheLiving 17 = .ok (.iload_n 3, 1) := by decide +kernel
theorem dX4_meetsTheLiving_18 : decode cX4_meetsTheLiving 18 = .ok (.invokevirtual 178, 3) := by decide +kernel
theorem dX4_meetsTheLiving_21 : decode cX4_meetsTheLiving 21 = .ok (.iload_n 3, 1) := by decide +kernel
theorem dX4_meetsTheLiving_22 : decode cX4_meetsTheLiving 22 = .ok (.invokevirtual 282, 3) := by decide +kernel
theorem dX4_meetsTheLiving_25 : decode cX4_meetsTheLiving 25 = .ok (.ifCond .eq 5, 3) := by decide +kernel
theorem dX4_meetsTheLiving_28 : decode cX4_meetsTheLiving 28 = .ok (.iconst 1, 1) := by decide +kernel
theorem dX4_meetsTheLiving_29 : decode cX4_meetsTheLiving 29 = .ok (.ireturn, 1) := by decide +kernel
theorem dX4_meetsTheLiving_30 : decode cX4_meetsTheLiving 30 = .ok (.iinc 3 1, 3) := by decide +kernel
theorem dX4_meetsTheLiving_33 : decode cX4_meetsTheLiving 33 = .ok (.goto (-31), 3) := by decide +kernel
theorem dX4_meetsTheLiving_36 : decode cX4_meetsTheLiving 36 = .ok (.iconst 0, 1) := by decide +kernel
theorem dX4_meetsTheLiving_37 : decode cX4_meetsTheLiving 37 = .ok (.ireturn, 1) := by decide +kernel
theorem dX4_isAimedAt_0 : decode cX4_isAimedAt 0 = .ok (.aload_n 1, 1) := by decide +kernel
theorem dX4_isAimedAt_1 : decode cX4_isAimedAt 1 = .ok (.getfield 145, 3) := by decide +kernel
theorem dX4_isAimedAt_4 : decode cX4_isAimedAt 4 = .ok (.iconst (-1), 1) := by decide +kernel
theorem dX4_isAimedAt_5 : decode cX4_isAimedAt 5 = .ok (.if_icmp .ne 5, 3) := by decide +kernel
theorem dX4_isAimedAt_8 : decode cX4_isAimedAt 8 = .ok (.iconst 0, 1) := by decide +kernel
theorem dX4_isAimedAt_9 : decode cX4_isAimedAt 9 = .ok (.ireturn, 1) := by decide +kernel
theorem dX4_isAimedAt_10 : decode cX4_isAimedAt 10 = .ok (.aload_n 0, 1) := by decide +kernel
theorem dX4_isAimedAt_11 : decode cX4_isAimedAt 11 = .ok (.getfield 30, 3) := by decide +kernel
theorem dX4_isAimedAt_14 : decode cX4_isAimedAt 14 = .ok (.iconst 3, 1) := by decide +kernel
theorem dX4_isAimedAt_15 : decode cX4_isAimedAt 15 = .ok (.if_icmp .le 12, 3) := by decide +kernel
theorem dX4_isAimedAt_18 : decode cX4_isAimedAt 18 = .ok (.aload_n 0, 1) := by decide +kernel
theorem dX4_isAimedAt_19 : decode cX4_isAimedAt 19 = .ok (.getfield 30, 3) := by decide +kernel
theorem dX4_isAimedAt_22 : decode cX4_isAimedAt 22 = .ok (.iconst 3, 1) := by decide +kernel
theorem dX4_isAimedAt_23 : decode cX4_isAimedAt 23 = .ok (.isub, 1) := by decide +kernel
theorem dX4_isAimedAt_24 : decode cX4_isAimedAt 24 = .ok (.goto 4, 3) := by decide +kernel
theorem dX4_isAimedAt_27 : decode cX4_isAimedAt 27 = .ok (.iconst 0, 1) := by decide +kernel
theorem dX4_isAimedAt_28 : decode cX4_isAimedAt 28 = .ok (.istore_n 3, 1) := by decide +kernel
theorem dX4_isAimedAt_29 : decode cX4_isAimedAt 29 = .ok (.iload_n 2, 1) := by decide +kernel
theorem dX4_isAimedAt_30 : decode cX4_isAimedAt 30 = .ok (.aload_n 1, 1) := by decide +kernel
theorem dX4_isAimedAt_31 : decode cX4_isAimedAt 31 = .ok (.getfield 145, 3) := by decide +kernel
theorem dX4_isAimedAt_34 : decode cX4_isAimedAt 34 = .ok (.iload_n 3, 1) := by decide +kernel
theorem dX4_isAimedAt_35 : decode cX4_isAimedAt 35 = .ok (.iadd, 1) := by decide +kernel
theorem dX4_isAimedAt_36 : decode cX4_isAimedAt 36 = .ok (.if_icmp .lt 17, 3) := by decide +kernel
theorem dX4_isAimedAt_39 : decode cX4_isAimedAt 39 = .ok (.iload_n 2, 1) := by decide +kernel
theorem dX4_isAimedAt_40 : decode cX4_isAimedAt 40 = .ok (.aload_n 1, 1) := by decide +kernel
theorem dX4_isAimedAt_41 : decode cX4_isAimedAt 41 = .ok (.getfield 148, 3) := by decide +kernel
theorem dX4_isAimedAt_44 : decode cX4_isAimedAt 44 = .ok (.iload_n 3, 1) := by decide +kernel
theorem dX4_isAimedAt_45 : decode cX4_isAimedAt 45 = .ok (.iadd, 1) := by decide +kernel
theorem dX4_isAimedAt_46 : decode cX4_isAimedAt 46 = .ok (.if_icmp .gt 7, 3) := by decide +kernel
theorem dX4_isAimedAt_49 : decode cX4_isAimedAt 49 = .ok (.iconst 1, 1) := by decide +kernel
theorem dX4_isAimedAt_50 : decode cX4_isAimedAt 50 = .ok (.goto 4, 3) := by decide +kernel
theorem dX4_isAimedAt_53 : decode cX4_isAimedAt 53 = .ok (.iconst 0, 1) := by decide +kernel
theorem dX4_isAimedAt_54 : decode cX4_isAimedAt 54 = .ok (.ireturn, 1) := by decide +kernel
set_option maxRecDepth 20000 in
theorem ggX4_breachesBy_X4_isAimedAt : GoodIn wsX4_breachesBy wsX4_isAimedAt := goodIn_r _ [5, 6, 42, 43, 44, 45, 46, 47, 48, 49, 50, 51, 52, 53, 54, 55, 56, 57, 58, 59, 60, 61, 62, 63, 64, 65, 66, 67] (by decide +kernel) (by decide +kernel)
set_option maxRecDepth 20000 in
theorem gX4_breachesBy_X4_isAimedAt : GoodIn wsX4_breachesBy (wsV RX4 285 RX4 yX4_isAimedAt wsX4_isAimedAt) := goodIn_app (goodIn_of _ (by decide +kernel)) ggX4_breachesBy_X4_isAimedAt
set_option maxRecDepth 20000 in
theorem ggX4_breachesBy_X4_meetsTheLiving : GoodIn wsX4_breachesBy wsX4_meetsTheLiving := goodIn_r _ [10, 11, 12, 13, 14, 4, 15, 16, 17, 18, 19, 20, 21, 22, 23, 24, 25, 26, 27, 28, 29, 30, 31, 32, 33, 42, 43, 44, 45, 46, 47, 48, 49, 50, 51, 52, 53, 54, 55, 56, 57, 58, 59, 60, 61, 62, 63, 64, 65, 66, 67, 68, 69, 70] (by decide +kernel) (by decide +kernel)
set_option maxRecDepth 20000 in
theorem gX4_breachesBy_X4_meetsTheLiving : GoodIn wsX4_breachesBy (wsV RX4 288 RX4 yX4_meetsTheLiving wsX4_meetsTheLiving) := goodIn_app (goodIn_of _ (by decide +kernel)) ggX4_breachesBy_X4_meetsTheLiving
set_option maxRecDepth 20000 in
theorem ggX4_breachesBy_X4_isBlocked : GoodIn wsX4_breachesBy wsX4_isBlocked := goodIn_r _ [37, 11, 16, 17, 18, 19, 20, 21, 4, 22, 12, 13, 14, 15, 38, 39, 40, 26, 27, 28, 29, 30, 31, 32, 33, 41, 52, 53, 54, 55, 56, 57, 58, 59, 60, 61, 62, 63, 64, 65, 66, 67, 42, 43, 44, 45, 46, 47, 48, 49, 50, 51, 68, 69, 70] (by decide +kernel) (by decide +kernel)
set_option maxRecDepth 20000 in
theorem gX4_breachesBy_X4_isBlocked : GoodIn wsX4_breachesBy (wsV RX4 291 RX4 yX4_isBlocked wsX4_isBlocked) := goodIn_app (goodIn_of _ (by decide +kernel)) ggX4_breachesBy_X4_isBlocked
theorem dX4_breachesBy_0 : decode cX4_breachesBy 0 = .ok (.iconst 0, 1) := by decide +kernel
theorem dX4_breachesBy_1 : decode cX4_breachesBy 1 = .ok (.istore_n 2, 1) := by decide +kernel
theorem dX4_breachesBy_2 : decode cX4_breachesBy 2 = .ok (.iconst 0, 1) := by decide +kernel
theorem dX4_breachesBy_3 : decode cX4_breachesBy 3 = .ok (.istore_n 3, 1) := by decide +kernel
theorem dX4_breachesBy_4 : decode cX4_breachesBy 4 = .ok (.iload_n 3, 1) := by decide +kernel
theorem dX4_breachesBy_5 : decode cX4_breachesBy 5 = .ok (.bipush 16, 2) := by decide +kernel
theorem dX4_breachesBy_7 : decode cX4_breachesBy 7 = .ok (.if_icmp .ge 39, 3) := by decide +kernel
theorem dX4_breachesBy_10 : decode cX4_breachesBy 10 = .ok (.aload_n 0, 1) := by decide +kernel
theorem dX4_breachesBy_11 : decode cX4_breachesBy 11 = .ok (.aload_n 1, 1) := by decide +kernel
theorem dX4_breachesBy_12 : decode cX4_breachesBy 12 = .ok (.iload_n 3, 1) := by decide +kernel
theorem dX4_breachesBy_13 : decode cX4_breachesBy 13 = .ok (.invokevirtual 285, 3) := by decide +kernel
theorem dX4_breachesBy_16 : decode cX4_breachesBy 16 = .ok (.ifCond .eq 24, 3) := by decide +kernel
theorem dX4_breachesBy_19 : decode cX4_breachesBy 19 = .ok (.aload_n 0, 1) := by decide +kernel
theorem dX4_breachesBy_20 : decode cX4_breachesBy 20 = .ok (.aload_n 1, 1) := by decide +kernel
theorem dX4_breachesBy_21 : decode cX4_breachesBy 21 = .ok (.iload_n 3, 1) := by decide +kernel
theorem dX4_breachesBy_22 : decode cX4_breachesBy 22 = .ok (.invokevirtual 288, 3) := by decide +kernel
theorem dX4_breachesBy_25 : decode cX4_breachesBy 25 = .ok (.ifCond .eq 15, 3) := by decide +kernel
theorem dX4_breachesBy_28 : decode cX4_breachesBy 28 = .ok (.aload_n 0, 1) := by decide +kernel
theorem dX4_breachesBy_29 : decode cX4_breachesBy 29 = .ok (.aload_n 1, 1) := by decide +kernel
theorem dX4_breachesBy_30 : decode cX4_breachesBy 30 = .ok (.iload_n 3, 1) := by decide +kernel
theorem dX4_breachesBy_31 : decode cX4_breachesBy 31 = .ok (.invokevirtual 291, 3) := by decide +kernel
theorem dX4_breachesBy_34 : decode cX4_breachesBy 34 = .ok (.ifCond .ne 6, 3) := by decide +kernel
theorem dX4_breachesBy_37 : decode cX4_breachesBy 37 = .ok (.iinc 2 1, 3) := by decide +kernel
theorem dX4_breachesBy_40 : decode cX4_breachesBy 40 = .ok (.iinc 3 1, 3) := by decide +kernel
theorem dX4_breachesBy_43 : decode cX4_breachesBy 43 = .ok (.goto (-39), 3) := by decide +kernel
theorem dX4_breachesBy_46 : decode cX4_breachesBy 46 = .ok (.iload_n 2, 1) := by decide +kernel
theorem dX4_breachesBy_47 : decode cX4_breachesBy 47 = .ok (.ireturn, 1) := by decide +kernel
set_option maxRecDepth 20000 in
theorem ggX4_lightFrom_X4_isAimedAt : GoodIn wsX4_lightFrom wsX4_isAimedAt := goodIn_r _ [6, 7, 39, 40, 41, 42, 43, 44, 45, 46, 47, 48, 49, 50, 51, 52, 53, 54, 55, 56, 57, 58, 59, 60, 61, 62, 63, 64] (by decide +kernel) (by decide +kernel)
set_option maxRecDepth 20000 in
theorem gX4_lightFrom_X4_isAimedAt : GoodIn wsX4_lightFrom (wsV RX4 285 RX4 yX4_isAimedAt wsX4_isAimedAt) := goodIn_app (goodIn_of _ (by decide +kernel)) ggX4_lightFrom_X4_isAimedAt
set_option maxRecDepth 20000 in
theorem ggX4_lightFrom_X4_isBlocked : GoodIn wsX4_lightFrom wsX4_isBlocked := goodIn_r _ [11, 1, 12, 13, 14, 15, 16, 17, 5, 18, 19, 20, 21, 22, 23, 24, 25, 26, 27, 28, 29, 30, 31, 32, 33, 34, 49, 50, 51, 52, 53, 54, 55, 56, 57, 58, 59, 60, 61, 62, 63, 64, 39, 40, 41, 42, 43, 44, 45, 46, 47, 48, 65, 66, 67] (by decide +kernel) (by decide +kernel)
set_option maxRecDepth 20000 in
theorem gX4_lightFrom_X4_isBlocked : GoodIn wsX4_lightFrom (wsV RX4 291 RX4 yX4_isBlocked wsX4_isBlocked) := goodIn_app (goodIn_of _ (by decide +kernel)) ggX4_lightFrom_X4_isBlocked
set_option maxRecDepth 20000 in
theorem ggX4_lightFrom_X2_reliefOf : GoodIn wsX4_lightFrom wsX2_reliefOf := goodIn_r _ [15, 16, 17, 5, 18, 65, 66, 67] (by decide +kernel) (by decide +kernel)
set_option maxRecDepth 20000 in
theorem gX4_lightFrom_X2_reliefOf_n269 : GoodIn wsX4_lightFrom (wsX2_reliefOf) := ggX4_lightFrom_X2_reliefOf
set_option maxRecDepth 20000 in
theorem ggX4_lightFrom_X2_hundredthsOf : GoodIn wsX4_lightFrom wsX2_hundredthsOf := goodIn_r _ [37, 38, 17, 5, 18, 65, 66, 67] (by decide +kernel) (by decide +kernel)
set_option maxRecDepth 20000 in
theorem gX4_lightFrom_X2_hundredthsOf_n294 : GoodIn wsX4_lightFrom (wsX2_hundredthsOf) := ggX4_lightFrom_X2_hundredthsOf
theorem dX4_lightFrom_0 : decode cX4_lightFrom 0 = .ok (.aload_n 0, 1) := by decide +kernel
theorem dX4_lightFrom_1 : decode cX4_lightFrom 1 = .ok (.aload_n 1, 1) := by decide +kernel
theorem dX4_lightFrom_2 : decode cX4_lightFrom 2 = .ok (.iload_n 2, 1) := by decide +kernel
theorem dX4_lightFrom_3 : decode cX4_lightFrom 3 = .ok (.invokevirtual 285, 3) := by decide +kernel
theorem dX4_lightFrom_6 : decode cX4_lightFrom 6 = .ok (.ifCond .eq 12, 3) := by decide +kernel
theorem dX4_lightFrom_9 : decode cX4_lightFrom 9 = .ok (.aload_n 0, 1) := by decide +kernel
theorem dX4_lightFrom_10 : decode cX4_lightFrom 10 = .ok (.aload_n 1, 1) := by decide +kernel
theorem dX4_lightFrom_11 : decode cX4_lightFrom 11 = .ok (.iload_n 2, 1) := by decide +kernel
theorem dX4_lightFrom_12 : decode cX4_lightFrom 12 = .ok (.invokevirtual 291, 3) := by decide +kernel
theorem dX4_lightFrom_15 : decode cX4_lightFrom 15 = .ok (.ifCond .eq 5, 3) := by decide +kernel
theorem dX4_lightFrom_18 : decode cX4_lightFrom 18 = .ok (.iconst 0, 1) := by decide +kernel
theorem dX4_lightFrom_19 : decode cX4_lightFrom 19 = .ok (.ireturn, 1) := by decide +kernel
theorem dX4_lightFrom_20 : decode cX4_lightFrom 20 = .ok (.iload_n 2, 1) := by decide +kernel
theorem dX4_lightFrom_21 : decode cX4_lightFrom 21 = .ok (.aload_n 1, 1) := by decide +kernel
theorem dX4_lightFrom_22 : decode cX4_lightFrom 22 = .ok (.getfield 275, 3) := by decide +kernel
theorem dX4_lightFrom_25 : decode cX4_lightFrom 25 = .ok (.isub, 1) := by decide +kernel
theorem dX4_lightFrom_26 : decode cX4_lightFrom 26 = .ok (.istore_n 3, 1) := by decide +kernel
theorem dX4_lightFrom_27 : decode cX4_lightFrom 27 = .ok (.aload_n 1, 1) := by decide +kernel
theorem dX4_lightFrom_28 : decode cX4_lightFrom 28 = .ok (.getfield 272, 3) := by decide +kernel
theorem dX4_lightFrom_31 : decode cX4_lightFrom 31 = .ok (.aload_n 0, 1) := by decide +kernel
theorem dX4_lightFrom_32 : decode cX4_lightFrom 32 = .ok (.getfield 10, 3) := by decide +kernel
theorem dX4_lightFrom_35 : decode cX4_lightFrom 35 = .ok (.iload_n 2, 1) := by decide +kernel
theorem dX4_lightFrom_36 : decode cX4_lightFrom 36 = .ok (.invokevirtual 269, 3) := by decide +kernel
theorem dX4_lightFrom_39 : decode cX4_lightFrom 39 = .ok (.isub, 1) := by decide +kernel
theorem dX4_lightFrom_40 : decode cX4_lightFrom 40 = .ok (.istore 4, 2) := by decide +kernel
theorem dX4_lightFrom_42 : decode cX4_lightFrom 42 = .ok (.iload_n 3, 1) := by decide +kernel
theorem dX4_lightFrom_43 : decode cX4_lightFrom 43 = .ok (.iload_n 3, 1) := by decide +kernel
theorem dX4_lightFrom_44 : decode cX4_lightFrom 44 = .ok (.imul, 1) := by decide +kernel
theorem dX4_lightFrom_45 : decode cX4_lightFrom 45 = .ok (.iload 4, 2) := by decide +kernel
theorem dX4_lightFrom_47 : decode cX4_lightFrom 47 = .ok (.iload 4, 2) := by decide +kernel
theorem dX4_lightFrom_49 : decode cX4_lightFrom 49 = .ok (.imul, 1) := by decide +kernel
theorem dX4_lightFrom_50 : decode cX4_lightFrom 50 = .ok (.iadd, 1) := by decide +kernel
theorem dX4_lightFrom_51 : decode cX4_lightFrom 51 = .ok (.istore 5, 2) := by decide +kernel
theorem dX4_lightFrom_53 : decode cX4_lightFrom 53 = .ok (.iload 5, 2) := by decide +kernel
theorem dX4_lightFrom_55 : decode cX4_lightFrom 55 = .ok (.iconst 1, 1) := by decide +kernel
theorem dX4_lightFrom_56 : decode cX4_lightFrom 56 = .ok (.if_icmp .ge 5, 3) := by decide +kernel
theorem dX4_lightFrom_59 : decode cX4_lightFrom 59 = .ok (.iconst 0, 1) := by decide +kernel
theorem dX4_lightFrom_60 : decode cX4_lightFrom 60 = .ok (.ireturn, 1) := by decide +kernel
theorem dX4_lightFrom_61 : decode cX4_lightFrom 61 = .ok (.bipush 100, 2) := by decide +kernel
theorem dX4_lightFrom_63 : decode cX4_lightFrom 63 = .ok (.aload_n 1, 1) := by decide +kernel
theorem dX4_lightFrom_64 : decode cX4_lightFrom 64 = .ok (.getfield 162, 3) := by decide +kernel
theorem dX4_lightFrom_67 : decode cX4_lightFrom 67 = .ok (.imul, 1) := by decide +kernel
theorem dX4_lightFrom_68 : decode cX4_lightFrom 68 = .ok (.iload 5, 2) := by decide +kernel
theorem dX4_lightFrom_70 : decode cX4_lightFrom 70 = .ok (.idiv, 1) := by decide +kernel
theorem dX4_lightFrom_71 : decode cX4_lightFrom 71 = .ok (.aload_n 0, 1) := by decide +kernel
theorem dX4_lightFrom_72 : decode cX4_lightFrom 72 = .ok (.getfield 10, 3) := by decide +kernel
theorem dX4_lightFrom_75 : decode cX4_lightFrom 75 = .ok (.iload_n 2, 1) := by decide +kernel
theorem dX4_lightFrom_76 : decode cX4_lightFrom 76 = .ok (.invokevirtual 294, 3) := by decide +kernel
theorem dX4_lightFrom_79 : decode cX4_lightFrom 79 = .ok (.imul, 1) := by decide +kernel
theorem dX4_lightFrom_80 : decode cX4_lightFrom 80 = .ok (.bipush 100, 2) := by decide +kernel
theorem dX4_lightFrom_82 : decode cX4_lightFrom 82 = .ok (.idiv, 1) := by decide +kernel
theorem dX4_lightFrom_83 : decode cX4_lightFrom 83 = .ok (.ireturn, 1) := by decide +kernel
set_option maxRecDepth 20000 in
theorem ggX4_isInFocus_X2_reliefOf : GoodIn wsX4_isInFocus wsX2_reliefOf := goodIn_r _ [5, 6, 7, 8, 9, 36, 37, 38] (by decide +kernel) (by decide +kernel)
set_option maxRecDepth 20000 in
theorem gX4_isInFocus_X2_reliefOf_n269 : GoodIn wsX4_isInFocus (wsX2_reliefOf) := ggX4_isInFocus_X2_reliefOf
theorem dX4_isInFocus_0 : decode cX4_isInFocus 0 = .ok (.aload_n 1, 1) := by decide +kernel
theorem dX4_isInFocus_1 : decode cX4_isInFocus 1 = .ok (.getfield 272, 3) := by decide +kernel
theorem dX4_isInFocus_4 : decode cX4_isInFocus 4 = .ok (.aload_n 0, 1) := by decide +kernel
theorem dX4_isInFocus_5 : decode cX4_isInFocus 5 = .ok (.getfield 10, 3) := by decide +kernel
theorem dX4_isInFocus_8 : decode cX4_isInFocus 8 = .ok (.iload_n 2, 1) := by decide +kernel
theorem dX4_isInFocus_9 : decode cX4_isInFocus 9 = .ok (.invokevirtual 269, 3) := by decide +kernel
theorem dX4_isInFocus_12 : decode cX4_isInFocus 12 = .ok (.isub, 1) := by decide +kernel
theorem dX4_isInFocus_13 : decode cX4_isInFocus 13 = .ok (.aload_n 1, 1) := by decide +kernel
theorem dX4_isInFocus_14 : decode cX4_isInFocus 14 = .ok (.getfield 297, 3) := by decide +kernel
theorem dX4_isInFocus_17 : decode cX4_isInFocus 17 = .ok (.isub, 1) := by decide +kernel
theorem dX4_isInFocus_18 : decode cX4_isInFocus 18 = .ok (.istore_n 3, 1) := by decide +kernel
theorem dX4_isInFocus_19 : decode cX4_isInFocus 19 = .ok (.iload_n 3, 1) := by decide +kernel
theorem dX4_isInFocus_20 : decode cX4_isInFocus 20 = .ok (.iconst (-1), 1) := by decide +kernel
theorem dX4_isInFocus_21 : decode cX4_isInFocus 21 = .ok (.if_icmp .lt 12, 3) := by decide +kernel
theorem dX4_isInFocus_24 : decode cX4_isInFocus 24 = .ok (.iload_n 3, 1) := by decide +kernel
theorem dX4_isInFocus_25 : decode cX4_isInFocus 25 = .ok (.iconst 1, 1) := by decide +kernel
theorem dX4_isInFocus_26 : decode cX4_isInFocus 26 = .ok (.if_icmp .gt 7, 3) := by decide +kernel
theorem dX4_isInFocus_29 : decode cX4_isInFocus 29 = .ok (.iconst 1, 1) := by decide +kernel
theorem dX4_isInFocus_30 : decode cX4_isInFocus 30 = .ok (.goto 4, 3) := by decide +kernel
theorem dX4_isInFocus_33 : decode cX4_isInFocus 33 = .ok (.iconst 0, 1) := by decide +kernel
theorem dX4_isInFocus_34 : decode cX4_isInFocus 34 = .ok (.ireturn, 1) := by decide +kernel
set_option maxRecDepth 20000 in
theorem ggX4_lightOf_X4_find : GoodIn wsX4_lightOf wsX4_find := goodIn_r _ [5, 6, 7, 55, 56, 57, 58, 59, 60, 61, 62, 63, 64, 65, 66, 67, 68, 69, 70] (by decide +kernel) (by decide +kernel)
set_option maxRecDepth 20000 in
theorem gX4_lightOf_X4_find : GoodIn wsX4_lightOf (wsV RX4 137 RX4 yX4_find wsX4_find) := goodIn_app (goodIn_of _ (by decide +kernel)) ggX4_lightOf_X4_find
set_option maxRecDepth 20000 in
theorem ggX4_lightOf_X0_shines : GoodIn wsX4_lightOf wsX0_shines := goodIn_r _ [11, 12, 13, 71, 72, 73, 74, 75, 76, 77, 78, 79, 80] (by decide +kernel) (by decide +kernel)
set_option maxRecDepth 20000 in
theorem gX4_lightOf_X0_shines_n193 : GoodIn wsX4_lightOf (wsX0_shines) := ggX4_lightOf_X0_shines
set_option maxRecDepth 20000 in
theorem ggX4_lightOf_X4_lightFrom : GoodIn wsX4_lightOf wsX4_lightFrom := goodIn_r _ [17, 18, 19, 20, 21, 4, 22, 23, 24, 25, 26, 27, 28, 29, 30, 31, 32, 33, 34, 35, 36, 37, 38, 39, 40, 41, 42, 43, 44, 45, 46, 47, 48, 49, 50, 51, 52, 53, 54, 71, 72, 73, 74, 75, 76, 77, 78, 79, 80, 55, 56, 57, 58, 59, 60, 61, 62, 63, 64, 65, 66, 67, 68, 69, 70, 81, 82, 83] (by decide +kernel) (by decide +kernel)
set_option maxRecDepth 20000 in
theorem gX4_lightOf_X4_lightFrom : GoodIn wsX4_lightOf (wsV RX4 182 RX4 yX4_lightFrom wsX4_lightFrom) := goodIn_app (goodIn_of _ (by decide +kernel)) ggX4_lightOf_X4_lightFrom
theorem dX4_lightOf_0 : decode cX4_lightOf 0 = .ok (.iconst 0, 1) := by decide +kernel
theorem dX4_lightOf_1 : decode cX4_lightOf 1 = .ok (.istore_n 2, 1) := by decide +kernel
theorem dX4_lightOf_2 : decode cX4_lightOf 2 = .ok (.iconst 0, 1) := by decide +kernel
theorem dX4_lightOf_3 : decode cX4_lightOf 3 = .ok (.istore_n 3, 1) := by decide +kernel
theorem dX4_lightOf_4 : decode cX4_lightOf 4 = .ok (.iload_n 3, 1) := by decide +kernel
theorem dX4_lightOf_5 : decode cX4_lightOf 5 = .ok (.bipush 10, 2) := by decide +kernel
theorem dX4_lightOf_7 : decode cX4_lightOf 7 = .ok (.if_icmp .ge 39, 3) := by decide +kernel
theorem dX4_lightOf_10 : decode cX4_lightOf 10 = .ok (.aload_n 0, 1) := by decide +kernel
theorem dX4_lightOf_11 : decode cX4_lightOf 11 = .ok (.iload_n 3, 1) := by decide +kernel
theorem dX4_lightOf_12 : decode cX4_lightOf 12 = .ok (.invokevirtual 137, 3) := by decide +kernel
theorem dX4_lightOf_15 : decode cX4_lightOf 15 = .ok (.astore 4, 2) := by decide +kernel
theorem dX4_lightOf_17 : decode cX4_lightOf 17 = .ok (.aload 4, 2) := by decide +kernel
theorem dX4_lightOf_19 : decode cX4_lightOf 19 = .ok (.ifnull 21, 3) := by decide +kernel
theorem dX4_lightOf_22 : decode cX4_lightOf 22 = .ok (.aload 4, 2) := by decide +kernel
theorem dX4_lightOf_24 : decode cX4_lightOf 24 = .ok (.invokevirtual 193, 3) := by decide +kernel
theorem dX4_lightOf_27 : decode cX4_lightOf 27 = .ok (.ifCond .eq 13, 3) := by decide +kernel
theorem dX4_lightOf_30 : decode cX4_lightOf 30 = .ok (.iload_n 2, 1) := by decide +kernel
theorem dX4_lightOf_31 : decode cX4_lightOf 31 = .ok (.aload_n 0, 1) := by decide +kernel
theorem dX4_lightOf_32 : decode cX4_lightOf 32 = .ok (.aload 4, 2) := by decide +kernel
theorem dX4_lightOf_34 : decode cX4_lightOf 34 = .ok (.iload_n 1, 1) := by decide +kernel
theorem dX4_lightOf_35 : decode cX4_lightOf 35 = .ok (.invokevirtual 182, 3) := by decide +kernel
theorem dX4_lightOf_38 : decode cX4_lightOf 38 = .ok (.iadd, 1) := by decide +kernel
theorem dX4_lightOf_39 : decode cX4_lightOf 39 = .ok (.istore_n 2, 1) := by decide +kernel
theorem dX4_lightOf_40 : decode cX4_lightOf 40 = .ok (.iinc 3 1, 3) := by decide +kernel
theorem dX4_lightOf_43 : decode cX4_lightOf 43 = .ok (.goto (-39), 3) := by decide +kernel
theorem dX4_lightOf_46 : decode cX4_lightOf 46 = .ok (.iload_n 2, 1) := by decide +kernel
theorem dX4_lightOf_47 : decode cX4_lightOf 47 = .ok (.ireturn, 1) := by decide +kernel
set_option maxRecDepth 20000 in
theorem ggX4_unfailedProjectors_X4_find : GoodIn wsX4_unfailedProjectors wsX4_find := goodIn_r _ [5, 6, 7, 18, 19, 20, 21, 22, 23, 24, 25, 26, 27, 28, 29, 30, 31, 32, 33] (by decide +kernel) (by decide +kernel)
set_option maxRecDepth 20000 in
theorem gX4_unfailedProjectors_X4_find : GoodIn wsX4_unfailedProjectors (wsV RX4 137 RX4 yX4_find wsX4_find) := goodIn_app (goodIn_of _ (by decide +kernel)) ggX4_unfailedProjectors_X4_find
theorem dX4_unfailedProjectors_0 : decode cX4_unfailedProjectors 0 = .ok (.iconst 0, 1) := by decide +kernel
theorem dX4_unfailedProjectors_1 : decode cX4_unfailedProjectors 1 = .ok (.istore_n 1, 1) := by decide +kernel
theorem dX4_unfailedProjectors_2 : decode cX4_unfailedProjectors 2 = .ok (.iconst 0, 1) := by decide +kernel
theorem dX4_unfailedProjectors_3 : decode cX4_unfailedProjectors 3 = .ok (.istore_n 2, 1) := by decide +kernel
theorem dX4_unfailedProjectors_4 : decode cX4_unfailedProjectors 4 = .ok (.iload_n 2, 1) := by decide +kernel
theorem dX4_unfailedProjectors_5 : decode cX4_unfailedProjectors 5 = .ok (.bipush 10, 2) := by decide +kernel
theorem dX4_unfailedProjectors_7 : decode cX4_unfailedProjectors 7 = .ok (.if_icmp .ge 32, 3) := by decide +kernel
theorem dX4_unfailedProjectors_10 : decode cX4_unfailedProjectors 10 = .ok (.aload_n 0, 1) := by decide +kernel
theorem dX4_unfailedProjectors_11 : decode cX4_unfailedProjectors 11 = .ok (.iload_n 2, 1) := by decide +kernel
theorem dX4_unfailedProjectors_12 : decode cX4_unfailedProjectors 12 = .ok (.invokevirtual 137, 3) := by decide +kernel
theorem dX4_unfailedProjectors_15 : decode cX4_unfailedProjectors 15 = .ok (.astore_n 3, 1) := by decide +kernel
theorem dX4_unfailedProjectors_16 : decode cX4_unfailedProjectors 16 = .ok (.aload_n 3, 1) := by decide +kernel
theorem dX4_unfailedProjectors_17 : decode cX4_unfailedProjectors 17 = .ok (.ifnull 16, 3) := by decide +kernel
theorem dX4_unfailedProjectors_20 : decode cX4_unfailedProjectors 20 = .ok (.aload_n 3, 1) := by decide +kernel
theorem dX4_unfailedProjectors_21 : decode cX4_unfailedProjectors 21 = .ok (.getfield 170, 3) := by decide +kernel
theorem dX4_unfailedProjectors_24 : decode cX4_unfailedProjectors 24 = .ok (.ifCond .ne 9, 3) := by decide +kernel
theorem dX4_unfailedProjectors_27 : decode cX4_unfailedProjectors 27 = .ok (.iload_n 1, 1) := by decide +kernel
theorem dX4_unfailedProjectors_28 : decode cX4_unfailedProjectors 28 = .ok (.iconst 1, 1) := by decide +kernel
theorem dX4_unfailedProjectors_29 : decode cX4_unfailedProjectors 29 = .ok (.iload_n 2, 1) := by decide +kernel
theorem dX4_unfailedProjectors_30 : decode cX4_unfailedProjectors 30 = .ok (.ishl, 1) := by decide +kernel
theorem dX4_unfailedProjectors_31 : decode cX4_unfailedProjectors 31 = .ok (.ior, 1) := by decide +kernel
theorem dX4_unfailedProjectors_32 : decode cX4_unfailedProjectors 32 = .ok (.istore_n 1, 1) := by decide +kernel
theorem dX4_unfailedProjectors_33 : decode cX4_unfailedProjectors 33 = .ok (.iinc 2 1, 3) := by decide +kernel
theorem dX4_unfailedProjectors_36 : decode cX4_unfailedProjectors 36 = .ok (.goto (-32), 3) := by decide +kernel
theorem dX4_unfailedProjectors_39 : decode cX4_unfailedProjectors 39 = .ok (.iload_n 1, 1) := by decide +kernel
theorem dX4_unfailedProjectors_40 : decode cX4_unfailedProjectors 40 = .ok (.ireturn, 1) := by decide +kernel
set_option maxRecDepth 20000 in
theorem ggX4_surveyLights_X4_find : GoodIn wsX4_surveyLights wsX4_find := goodIn_r _ [6, 7, 8, 73, 74, 75, 76, 77, 78, 79, 80, 81, 82, 83, 84, 85, 86, 87, 88] (by decide +kernel) (by decide +kernel)
set_option maxRecDepth 20000 in
theorem gX4_surveyLights_X4_find : GoodIn wsX4_surveyLights (wsV RX4 137 RX4 yX4_find wsX4_find) := goodIn_app (goodIn_of _ (by decide +kernel)) ggX4_surveyLights_X4_find
set_option maxRecDepth 20000 in
theorem ggX4_surveyLights_X3_note : GoodIn wsX4_surveyLights wsX3_note := goodIn_r _ [12, 13, 14, 15, 16, 10, 17, 18, 5, 19, 89, 90] (by decide +kernel) (by decide +kernel)
set_option maxRecDepth 20000 in
theorem gX4_surveyLights_X3_note_n300 : GoodIn wsX4_surveyLights (wsX3_note) := ggX4_surveyLights_X3_note
set_option maxRecDepth 20000 in
theorem ggX4_surveyLights_X4_lightFrom : GoodIn wsX4_surveyLights wsX4_lightFrom := goodIn_r _ [23, 24, 25, 26, 27, 5, 28, 29, 30, 31, 32, 33, 34, 35, 36, 37, 38, 18, 19, 39, 40, 41, 42, 43, 44, 45, 46, 47, 48, 49, 50, 51, 52, 53, 54, 55, 56, 57, 58, 63, 64, 65, 66, 67, 68, 69, 70, 71, 72, 73, 74, 75, 76, 77, 78, 79, 80, 81, 82, 83, 84, 85, 86, 87, 88, 91, 92, 93] (by decide +kernel) (by decide +kernel)
set_option maxRecDepth 20000 in
theorem gX4_surveyLights_X4_lightFrom : GoodIn wsX4_surveyLights (wsV RX4 182 RX4 yX4_lightFrom wsX4_lightFrom) := goodIn_app (goodIn_of _ (by decide +kernel)) ggX4_surveyLights_X4_lightFrom
set_option maxRecDepth 20000 in
theorem ggX4_surveyLights_X4_isInFocus : GoodIn wsX4_surveyLights wsX4_isInFocus := goodIn_r _ [62, 24, 34, 35, 36, 37, 38, 18, 5, 19, 63, 64, 65, 66, 67, 68, 69, 70, 71, 72, 73, 74, 75, 76, 77, 78, 79, 80, 81, 82, 83, 84, 85, 86, 87, 88, 91, 92, 93] (by decide +kernel) (by decide +kernel)
set_option maxRecDepth 20000 in
theorem gX4_surveyLights_X4_isInFocus : GoodIn wsX4_surveyLights (wsV RX4 186 RX4 yX4_isInFocus wsX4_isInFocus) := goodIn_app (goodIn_of _ (by decide +kernel)) ggX4_surveyLights_X4_isInFocus
theorem dX4_surveyLights_0 : decode cX4_surveyLights 0 = .ok (.iconst 0, 1) := by decide +kernel
theorem dX4_surveyLights_1 : decode cX4_surveyLights 1 = .ok (.istore_n 1, 1) := by decide +kernel
theorem dX4_surveyLights_2 : decode cX4_surveyLights 2 = .ok (.iload_n 1, 1) := by decide +kernel
theorem dX4_surveyLights_3 : decode cX4_surveyLights 3 = .ok (.bipush 16, 2) := by decide +kernel
theorem dX4_surveyLights_5 : decode cX4_surveyLights 5 = .ok (.if_icmp .ge 75, 3) := by decide +kernel
theorem dX4_surveyLights_8 : decode cX4_surveyLights 8 = .ok (.iconst 0, 1) := by decide +kernel
theorem dX4_surveyLights_9 : decode cX4_surveyLights 9 = .ok (.istore_n 2, 1) := by decide +kernel
theorem dX4_surveyLights_10 : decode cX4_surveyLights 10 = .ok (.iload_n 2, 1) := by decide +kernel
theorem dX4_surveyLights_11 : decode cX4_surveyLights 11 = .ok (.bipush 10, 2) := by decide +kernel
theorem dX4_surveyLights_13 : decode cX4_surveyLights 13 = .ok (.if_icmp .ge 61, 3) := by decide +kernel
theorem dX4_surveyLights_16 : decode cX4_surveyLights 16 = .ok (.aload_n 0, 1) := by decide +kernel
theorem dX4_surveyLights_17 : decode cX4_surveyLights 17 = .ok (.iload_n 2, 1) := by decide +kernel
theorem dX4_surveyLights_18 : decode cX4_surveyLights 18 = .ok (.invokevirtual 137, 3) := by decide +kernel
theorem dX4_surveyLights_21 : decode cX4_surveyLights 21 = .ok (.astore_n 3, 1) := by decide +kernel
theorem dX4_surveyLights_22 : decode cX4_surveyLights 22 = .ok (.aload_n 3, 1) := by decide +kernel
theorem dX4_surveyLights_23 : decode cX4_surveyLights 23 = .ok (.ifnull 10, 3) := by decide +kernel
theorem dX4_surveyLights_26 : decode cX4_surveyLights 26 = .ok (.aload_n 3, 1) := by decide +kernel
theorem dX4_surveyLights_27 : decode cX4_surveyLights 27 = .ok (.getfield 170, 3) := by decide +kernel
theorem dX4_surveyLights_30 : decode cX4_surveyLights 30 = .ok (.ifCond .eq 17, 3) := by decide +kernel
theorem dX4_surveyLights_33 : decode cX4_surveyLights 33 = .ok (.aload_n 0, 1) := by decide +kernel
theorem dX4_surveyLights_34 : decode cX4_surveyLights 34 = .ok (.getfield 42, 3) := by decide +kernel
theorem dX4_surveyLights_37 : decode cX4_surveyLights 37 = .ok (.iload_n 1, 1) := by decide +kernel
theorem dX4_surveyLights_38 : decode cX4_surveyLights 38 = .ok (.iload_n 2, 1) := by decide +kernel
theorem dX4_surveyLights_39 : decode cX4_surveyLights 39 = .ok (.iconst 0, 1) := by decide +kernel
theorem dX4_surveyLights_40 : decode cX4_surveyLights 40 = .ok (.iconst 1, 1) := by decide +kernel
theorem dX4_surveyLights_41 : decode cX4_surveyLights 41 = .ok (.invokevirtual 300, 3) := by decide +kernel
theorem dX4_surveyLights_44 : decode cX4_surveyLights 44 = .ok (.goto 24, 3) := by decide +kernel
theorem dX4_surveyLights_47 : decode cX4_surveyLights 47 = .ok (.aload_n 0, 1) := by decide +kernel
theorem dX4_surveyLights_48 : decode cX4_surveyLights 48 = .ok (.getfield 42, 3) := by decide +kernel
theorem dX4_surveyLights_51 : decode cX4_surveyLights 51 = .ok (.iload_n 1, 1) := by decide +kernel
theorem dX4_surveyLights_52 : decode cX4_surveyLights 52 = .ok (.iload_n 2, 1) := by decide +kernel
theorem dX4_surveyLights_53 : decode cX4_surveyLights 53 = .ok (.aload_n 0, 1) := by decide +kernel
theorem dX4_surveyLights_54 : decode cX4_surveyLights 54 = .ok (.aload_n 3, 1) := by decide +kernel
theorem dX4_surveyLights_55 : decode cX4_surveyLights 55 = .ok (.iload_n 1, 1) := by decide +kernel
theorem dX4_surveyLights_56 : decode cX4_surveyLights 56 = .ok (.invokevirtual 182, 3) := by decide +kernel
theorem dX4_surveyLights_59 : decode cX4_surveyLights 59 = .ok (.aload_n 0, 1) := by decide +kernel
theorem dX4_surveyLights_60 : decode cX4_surveyLights 60 = .ok (.aload_n 3, 1) := by decide +kernel
theorem dX4_surveyLights_61 : decode cX4_surveyLights 61 = .ok (.iload_n 1, 1) := by decide +kernel
theorem dX4_surveyLights_62 : decode cX4_surveyLights 62 = .ok (.invokevirtual 186, 3) := by decide +kernel
theorem dX4_surveyLights_65 : decode cX4_surveyLights 65 = .ok (.invokevirtual 300, 3) := by decide +kernel
theorem dX4_surveyLights_68 : decode cX4_surveyLights 68 = .ok (.iinc 2 1, 3) := by decide +kernel
theorem dX4_surveyLights_71 : decode cX4_surveyLights 71 = .ok (.goto (-61), 3) := by decide +kernel
theorem dX4_surveyLights_74 : decode cX4_surveyLights 74 = .ok (.iinc 1 1, 3) := by decide +kernel
theorem dX4_surveyLights_77 : decode cX4_surveyLights 77 = .ok (.goto (-75), 3) := by decide +kernel
theorem dX4_surveyLights_80 : decode cX4_surveyLights 80 = .ok (.return_, 1) := by decide +kernel
theorem dX4_isCurfewNow_0 : decode cX4_isCurfewNow 0 = .ok (.aload_n 0, 1) := by decide +kernel
theorem dX4_isCurfewNow_1 : decode cX4_isCurfewNow 1 = .ok (.getfield 72, 3) := by decide +kernel
theorem dX4_isCurfewNow_4 : decode cX4_isCurfewNow 4 = .ok (.sipush 1440, 3) := by decide +kernel
theorem dX4_isCurfewNow_7 : decode cX4_isCurfewNow 7 = .ok (.irem, 1) := by decide +kernel
theorem dX4_isCurfewNow_8 : decode cX4_isCurfewNow 8 = .ok (.istore_n 1, 1) := by decide +kernel
theorem dX4_isCurfewNow_9 : decode cX4_isCurfewNow 9 = .ok (.iload_n 1, 1) := by decide +kernel
theorem dX4_isCurfewNow_10 : decode cX4_isCurfewNow 10 = .ok (.aload_n 0, 1) := by decide +kernel
theorem dX4_isCurfewNow_11 : decode cX4_isCurfewNow 11 = .ok (.getfield 46, 3) := by decide +kernel
theorem dX4_isCurfewNow_14 : decode cX4_isCurfewNow 14 = .ok (.if_icmp .lt 15, 3) := by decide +kernel
theorem dX4_isCurfewNow_17 : decode cX4_isCurfewNow 17 = .ok (.iload_n 1, 1) := by decide +kernel
theorem dX4_isCurfewNow_18 : decode cX4_isCurfewNow 18 = .ok (.aload_n 0, 1) := by decide +kernel
theorem dX4_isCurfewNow_19 : decode cX4_isCurfewNow 19 = .ok (.getfield 49, 3) := by decide +kernel
theorem dX4_isCurfewNow_22 : decode cX4_isCurfewNow 22 = .ok (.if_icmp .ge 7, 3) := by decide +kernel
theorem dX4_isCurfewNow_25 : decode cX4_isCurfewNow 25 = .ok (.iconst 1, 1) := by decide +kernel
theorem dX4_isCurfewNow_26 : decode cX4_isCurfewNow 26 = .ok (.goto 4, 3) := by decide +kernel
theorem dX4_isCurfewNow_29 : decode cX4_isCurfewNow 29 = .ok (.iconst 0, 1) := by decide +kernel
theorem dX4_isCurfewNow_30 : decode cX4_isCurfewNow 30 = .ok (.ireturn, 1) := by decide +kernel
set_option maxRecDepth 20000 in
theorem ggX4_lastFrameOfAll_X4_find : GoodIn wsX4_lastFrameOfAll wsX4_find := goodIn_r _ [5, 6, 7, 24, 25, 26, 27, 28, 29, 30, 31, 32, 33, 34, 35, 36, 37, 38, 39] (by decide +kernel) (by decide +kernel)
set_option maxRecDepth 20000 in
theorem gX4_lastFrameOfAll_X4_find : GoodIn wsX4_lastFrameOfAll (wsV RX4 137 RX4 yX4_find wsX4_find) := goodIn_app (goodIn_of _ (by decide +kernel)) ggX4_lastFrameOfAll_X4_find
set_option maxRecDepth 20000 in
theorem ggX4_lastFrameOfAll_X0_shines : GoodIn wsX4_lastFrameOfAll wsX0_shines := goodIn_r _ [11, 12, 13, 14, 15, 16, 17, 18, 19, 20, 21, 22, 23] (by decide +kernel) (by decide +kernel)
set_option maxRecDepth 20000 in
theorem gX4_lastFrameOfAll_X0_shines_n193 : GoodIn wsX4_lastFrameOfAll (wsX0_shines) := ggX4_lastFrameOfAll_X0_shines
theorem dX4_lastFrameOfAll_0 : decode cX4_lastFrameOfAll 0 = .ok (.iconst (-1), 1) := by decide +kernel
theorem dX4_lastFrameOfAll_1 : decode cX4_lastFrameOfAll 1 = .ok (.istore_n 1, 1) := by decide +kernel
theorem dX4_lastFrameOfAll_2 : decode cX4_lastFrameOfAll 2 = .ok (.iconst 0, 1) := by decide +kernel
theorem dX4_lastFrameOfAll_3 : decode cX4_lastFrameOfAll 3 = .ok (.istore_n 2, 1) := by decide +kernel
theorem dX4_lastFrameOfAll_4 : decode cX4_lastFrameOfAll 4 = .ok (.iload_n 2, 1) := by decide +kernel
theorem dX4_lastFrameOfAll_5 : decode cX4_lastFrameOfAll 5 = .ok (.bipush 10, 2) := by decide +kernel
theorem dX4_lastFrameOfAll_7 : decode cX4_lastFrameOfAll 7 = .ok (.if_icmp .ge 44, 3) := by decide +kernel
theorem dX4_lastFrameOfAll_10 : decode cX4_lastFrameOfAll 10 = .ok (.aload_n 0, 1) := by decide +kernel
theorem dX4_lastFrameOfAll_11 : decode cX4_lastFrameOfAll 11 = .ok (.iload_n 2, 1) := by decide +kernel
theorem dX4_lastFrameOfAll_12 : decode cX4_lastFrameOfAll 12 = .ok (.invokevirtual 137, 3) := by decide +kernel
theorem dX4_lastFrameOfAll_15 : decode cX4_lastFrameOfAll 15 = .ok (.astore_n 3, 1) := by decide +kernel
theorem dX4_lastFrameOfAll_16 : decode cX4_lastFrameOfAll 16 = .ok (.aload_n 3, 1) := by decide +kernel
theorem dX4_lastFrameOfAll_17 : decode cX4_lastFrameOfAll 17 = .ok (.ifnull 28, 3) := by decide +kernel
theorem dX4_lastFrameOfAll_20 : decode cX4_lastFrameOfAll 20 = .ok (.aload_n 3, 1) := by decide +kernel
theorem dX4_lastFrameOfAll_21 : decode cX4_lastFrameOfAll 21 = .ok (.invokevirtual 193, 3) := by decide +kernel
theorem dX4_lastFrameOfAll_24 : decode cX4_lastFrameOfAll 24 = .ok (.ifCond .eq 21, 3) := by decide +kernel
theorem dX4_lastFrameOfAll_27 : decode cX4_lastFrameOfAll 27 = .ok (.iload_n 1, 1) := by decide +kernel
theorem dX4_lastFrameOfAll_28 : decode cX4_lastFrameOfAll 28 = .ok (.iconst (-1), 1) := by decide +kernel
theorem dX4_lastFrameOfAll_29 : decode cX4_lastFrameOfAll 29 = .ok (.if_icmp .eq 11, 3) := by decide +kernel
theorem dX4_lastFrameOfAll_32 : decode cX4_lastFrameOfAll 32 = .ok (.aload_n 3, 1) := by decide +kernel
theorem dX4_lastFrameOfAll_33 : decode cX4_lastFrameOfAll 33 = .ok (.getfield 231, 3) := by decide +kernel
theorem dX4_lastFrameOfAll_36 : decode cX4_lastFrameOfAll 36 = .ok (.iload_n 1, 1) := by decide +kernel
theorem dX4_lastFrameOfAll_37 : decode cX4_lastFrameOfAll 37 = .ok (.if_icmp .ge 8, 3) := by decide +kernel
theorem dX4_lastFrameOfAll_40 : decode cX4_lastFrameOfAll 40 = .ok (.aload_n 3, 1) := by decide +kernel
theorem dX4_lastFrameOfAll_41 : decode cX4_lastFrameOfAll 41 = .ok (.getfield 231, 3) := by decide +kernel
theorem dX4_lastFrameOfAll_44 : decode cX4_lastFrameOfAll 44 = .ok (.istore_n 1, 1) := by decide +kernel
theorem dX4_lastFrameOfAll_45 : decode cX4_lastFrameOfAll 45 = .ok (.iinc 2 1, 3) := by decide +kernel
theorem dX4_lastFrameOfAll_48 : decode cX4_lastFrameOfAll 48 = .ok (.goto (-44), 3) := by decide +kernel
theorem dX4_lastFrameOfAll_51 : decode cX4_lastFrameOfAll 51 = .ok (.iload_n 1, 1) := by decide +kernel
theorem dX4_lastFrameOfAll_52 : decode cX4_lastFrameOfAll 52 = .ok (.ireturn, 1) := by decide +kernel
end
section
theorem dJ6_bitCount_0f7a4_0 : decode cJ6_bitCount_0f7a4 0 = .ok (.iload_n 0, 1) := by decide +kernel
theorem dJ6_bitCount_0f7a4_1 : decode cJ6_bitCount_0f7a4 1 = .ok (.iload_n 0, 1) := by decide +kernel
theorem dJ6_bitCount_0f7a4_2 : decode cJ6_bitCount_0f7a4 2 = .ok (.iconst 1, 1) := by decide +kernel
theorem dJ6_bitCount_0f7a4_3 : decode cJ6_bitCount_0f7a4 3 = .ok (.iushr, 1) := by decide +kernel
theorem dJ6_bitCount_0f7a4_4 : decode cJ6_bitCount_0f7a4 4 = .ok (.ldc_w 265, 3) := by decide +kernel
theorem dJ6_bitCount_0f7a4_7 : decode cJ6_bitCount_0f7a4 7 = .ok (.iand, 1) := by decide +kernel
theorem dJ6_bitCount_0f7a4_8 : decode cJ6_bitCount_0f7a4 8 = .ok (.isub, 1) := by decide +kernel
theorem dJ6_bitCount_0f7a4_9 : decode cJ6_bitCount_0f7a4 9 = .ok (.istore_n 0, 1) := by decide +kernel
theorem dJ6_bitCount_0f7a4_10 : decode cJ6_bitCount_0f7a4 10 = .ok (.iload_n 0, 1) := by decide +kernel
theorem dJ6_bitCount_0f7a4_11 : decode cJ6_bitCount_0f7a4 11 = .ok (.ldc_w 266, 3) := by decide +kernel
theorem dJ6_bitCount_0f7a4_14 : decode cJ6_bitCount_0f7a4 14 = .ok (.iand, 1) := by decide +kernel
theorem dJ6_bitCount_0f7a4_15 : decode cJ6_bitCount_0f7a4 15 = .ok (.iload_n 0, 1) := by decide +kernel
theorem dJ6_bitCount_0f7a4_16 : decode cJ6_bitCount_0f7a4 16 = .ok (.iconst 2, 1) := by decide +kernel
theorem dJ6_bitCount_0f7a4_17 : decode cJ6_bitCount_0f7a4 17 = .ok (.iushr, 1) := by decide +kernel
theorem dJ6_bitCount_0f7a4_18 : decode cJ6_bitCount_0f7a4 18 = .ok (.ldc_w 266, 3) := by decide +kernel
theorem dJ6_bitCount_0f7a4_21 : decode cJ6_bitCount_0f7a4 21 = .ok (.iand, 1) := by decide +kernel
theorem dJ6_bitCount_0f7a4_22 : decode cJ6_bitCount_0f7a4 22 = .ok (.iadd, 1) := by decide +kernel
theorem dJ6_bitCount_0f7a4_23 : decode cJ6_bitCount_0f7a4 23 = .ok (.istore_n 0, 1) := by decide +kernel
theorem dJ6_bitCount_0f7a4_24 : decode cJ6_bitCount_0f7a4 24 = .ok (.iload_n 0, 1) := by decide +kernel
theorem dJ6_bitCount_0f7a4_25 : decode cJ6_bitCount_0f7a4 25 = .ok (.iload_n 0, 1) := by decide +kernel
theorem dJ6_bitCount_0f7a4_26 : decode cJ6_bitCount_0f7a4 26 = .ok (.iconst 4, 1) := by decide +kernel
theorem dJ6_bitCount_0f7a4_27 : decode cJ6_bitCount_0f7a4 27 = .ok (.iushr, 1) := by decide +kernel
theorem dJ6_bitCount_0f7a4_28 : decode cJ6_bitCount_0f7a4 28 = .ok (.iadd, 1) := by decide +kernel
theorem dJ6_bitCount_0f7a4_29 : decode cJ6_bitCount_0f7a4 29 = .ok (.ldc_w 267, 3) := by decide +kernel
theorem dJ6_bitCount_0f7a4_32 : decode cJ6_bitCount_0f7a4 32 = .ok (.iand, 1) := by decide +kernel
theorem dJ6_bitCount_0f7a4_33 : decode cJ6_bitCount_0f7a4 33 = .ok (.istore_n 0, 1) := by decide +kernel
theorem dJ6_bitCount_0f7a4_34 : decode cJ6_bitCount_0f7a4 34 = .ok (.iload_n 0, 1) := by decide +kernel
theorem dJ6_bitCount_0f7a4_35 : decode cJ6_bitCount_0f7a4 35 = .ok (.iload_n 0, 1) := by decide +kernel
theorem dJ6_bitCount_0f7a4_36 : decode cJ6_bitCount_0f7a4 36 = .ok (.bipush 8, 2) := by decide +kernel
theorem dJ6_bitCount_0f7a4_38 : decode cJ6_bitCount_0f7a4 38 = .ok (.iushr, 1) := by decide +kernel
theorem dJ6_bitCount_0f7a4_39 : decode cJ6_bitCount_0f7a4 39 = .ok (.iadd, 1) := by decide +kernel
theorem dJ6_bitCount_0f7a4_40 : decode cJ6_bitCount_0f7a4 40 = .ok (.istore_n 0, 1) := by decide +kernel
theorem dJ6_bitCount_0f7a4_41 : decode cJ6_bitCount_0f7a4 41 = .ok (.iload_n 0, 1) := by decide +kernel
theorem dJ6_bitCount_0f7a4_42 : decode cJ6_bitCount_0f7a4 42 = .ok (.iload_n 0, 1) := by decide +kernel
theorem dJ6_bitCount_0f7a4_43 : decode cJ6_bitCount_0f7a4 43 = .ok (.bipush 16, 2) := by decide +kernel
theorem dJ6_bitCount_0f7a4_45 : decode cJ6_bitCount_0f7a4 45 = .ok (.iushr, 1) := by decide +kernel
theorem dJ6_bitCount_0f7a4_46 : decode cJ6_bitCount_0f7a4 46 = .ok (.iadd, 1) := by decide +kernel
theorem dJ6_bitCount_0f7a4_47 : decode cJ6_bitCount_0f7a4 47 = .ok (.istore_n 0, 1) := by decide +kernel
theorem dJ6_bitCount_0f7a4_48 : decode cJ6_bitCount_0f7a4 48 = .ok (.iload_n 0, 1) := by decide +kernel
theorem dJ6_bitCount_0f7a4_49 : decode cJ6_bitCount_0f7a4 49 = .ok (.bipush 63, 2) := by decide +kernel
theorem dJ6_bitCount_0f7a4_51 : decode cJ6_bitCount_0f7a4 51 = .ok (.iand, 1) := by decide +kernel
theorem dJ6_bitCount_0f7a4_52 : decode cJ6_bitCount_0f7a4 52 = .ok (.ireturn, 1) := by decide +kernel
end
section
theorem dX5_init_0 : decode cX5_init 0 = .ok (.aload_n 0, 1) := by decide +kernel
theorem dX5_init_1 : decode cX5_init 1 = .ok (.invokespecial 1, 3) := by decide +kernel
theorem dX5_init_4 : decode cX5_init 4 = .ok (.aload_n 0, 1) := by decide +kernel
theorem dX5_init_5 : decode cX5_init 5 = .ok (.bipush 16, 2) := by decide +kernel
theorem dX5_init_7 : decode cX5_init 7 = .ok (.newarray .int, 2) := by decide +kernel
theorem dX5_init_9 : decode cX5_init 9 = .ok (.putfield 7, 3) := by decide +kernel
theorem dX5_init_12 : decode cX5_init 12 = .ok (.aload_n 0, 1) := by decide +kernel
theorem dX5_init_13 : decode cX5_init 13 = .ok (.bipush 16, 2) := by decide +kernel
theorem dX5_init_15 : decode cX5_init 15 = .ok (.newarray .int, 2) := by decide +kernel
theorem dX5_init_17 : decode cX5_init 17 = .ok (.putfield 13, 3) := by decide +kernel
theorem dX5_init_20 : decode cX5_init 20 = .ok (.aload_n 0, 1) := by decide +kernel
theorem dX5_init_21 : decode cX5_init 21 = .ok (.iconst 3, 1) := by decide +kernel
theorem dX5_init_22 : decode cX5_init 22 = .ok (.newarray .int, 2) := by decide +kernel
theorem dX5_init_24 : decode cX5_init 24 = .ok (.dup, 1) := by decide +kernel
theorem dX5_init_25 : decode cX5_init 25 = .ok (.iconst 0, 1) := by decide +kernel
theorem dX5_init_26 : decode cX5_init 26 = .ok (.bipush 60, 2) := by decide +kernel
theorem dX5_init_28 : decode cX5_init 28 = .ok (.iastore, 1) := by decide +kernel
theorem dX5_init_29 : decode cX5_init 29 = .ok (.dup, 1) := by decide +kernel
theorem dX5_init_30 : decode cX5_init 30 = .ok (.iconst 1, 1) := by decide +kernel
theorem dX5_init_31 : decode cX5_init 31 = .ok (.bipush 40, 2) := by decide +kernel
theorem dX5_init_33 : decode cX5_init 33 = .ok (.iastore, 1) := by decide +kernel
theorem dX5_init_34 : decode cX5_init 34 = .ok (.dup, 1) := by decide +kernel
theorem dX5_init_35 : decode cX5_init 35 = .ok (.iconst 2, 1) := by decide +kernel
theorem dX5_init_36 : decode cX5_init 36 = .ok (.iconst 0, 1) := by decide +kernel
theorem dX5_init_37 : decode cX5_init 37 = .ok (.iastore, 1) := by decide +kernel
theorem dX5_init_38 : decode cX5_init 38 = .ok (.putfield 16, 3) := by decide +kernel
theorem dX5_init_41 : decode cX5_init 41 = .ok (.aload_n 0, 1) := by decide +kernel
theorem dX5_init_42 : decode cX5_init 42 = .ok (.sipush 192, 3) := by decide +kernel
theorem dX5_init_45 : decode cX5_init 45 = .ok (.newarray .int, 2) := by decide +kernel
theorem dX5_init_47 : decode cX5_init 47 = .ok (.putfield 19, 3) := by decide +kernel
theorem dX5_init_50 : decode cX5_init 50 = .ok (.aload_n 0, 1) := by decide +kernel
theorem dX5_init_51 : decode cX5_init 51 = .ok (.sipush 192, 3) := by decide +kernel
theorem dX5_init_54 : decode cX5_init 54 = .ok (.newarray .boolean, 2) := by decide +kernel
theorem dX5_init_56 : decode cX5_init 56 = .ok (.putfield 22, 3) := by decide +kernel
theorem dX5_init_59 : decode cX5_init 59 = .ok (.aload_n 0, 1) := by decide +kernel
theorem dX5_init_60 : decode cX5_init 60 = .ok (.bipush 100, 2) := by decide +kernel
theorem dX5_init_62 : decode cX5_init 62 = .ok (.putfield 26, 3) := by decide +kernel
theorem dX5_init_65 : decode cX5_init 65 = .ok (.aload_n 0, 1) := by decide +kernel
theorem dX5_init_66 : decode cX5_init 66 = .ok (.bipush 10, 2) := by decide +kernel
theorem dX5_init_68 : decode cX5_init 68 = .ok (.newarray .int, 2) := by decide +kernel
theorem dX5_init_70 : decode cX5_init 70 = .ok (.putfield 30, 3) := by decide +kernel
theorem dX5_init_73 : decode cX5_init 73 = .ok (.aload_n 0, 1) := by decide +kernel
theorem dX5_init_74 : decode cX5_init 74 = .ok (.bipush 10, 2) := by decide +kernel
theorem dX5_init_76 : decode cX5_init 76 = .ok (.newarray .int, 2) := by decide +kernel
theorem dX5_init_78 : decode cX5_init 78 = .ok (.putfield 33, 3) := by decide +kernel
theorem dX5_init_81 : decode cX5_init 81 = .ok (.aload_n 0, 1) := by decide +kernel
theorem dX5_init_82 : decode cX5_init 82 = .ok (.bipush 10, 2) := by decide +kernel
theorem dX5_init_84 : decode cX5_init 84 = .ok (.newarray .int, 2) := by decide +kernel
theorem dX5_init_86 : decode cX5_init 86 = .ok (.putfield 36, 3) := by decide +kernel
theorem dX5_init_89 : decode cX5_init 89 = .ok (.aload_n 0, 1) := by decide +kernel
theorem dX5_init_90 : decode cX5_init 90 = .ok (.bipush 10, 2) := by decide +kernel
theorem dX5_init_92 : decode cX5_init 92 = .ok (.newarray .int, 2) := by decide +kernel
theorem dX5_init_94 : decode cX5_init 94 = .ok (.putfield 39, 3) := by decide +kernel
theorem dX5_init_97 : decode cX5_init 97 = .ok (.aload_n 0, 1) := by decide +kernel
theorem dX5_init_98 : decode cX5_init 98 = .ok (.bipush 10, 2) := by decide +kernel
theorem dX5_init_100 : decode cX5_init 100 = .ok (.newarray .int, 2) := by decide +kernel
theorem dX5_init_102 : decode cX5_init 102 = .ok (.putfield 42, 3) := by decide +kernel
theorem dX5_init_105 : decode cX5_init 105 = .ok (.aload_n 0, 1) := by decide +kernel
theorem dX5_init_106 : decode cX5_init 106 = .ok (.bipush 10, 2) := by decide +kernel
theorem dX5_init_108 : decode cX5_init 108 = .ok (.newarray .int, 2) := by decide +kernel
theorem dX5_init_110 : decode cX5_init 110 = .ok (.putfield 45, 3) := by decide +kernel
theorem dX5_init_113 : decode cX5_init 113 = .ok (.aload_n 0, 1) := by decide +kernel
theorem dX5_init_114 : decode cX5_init 114 = .ok (.bipush 10, 2) := by decide +kernel
theorem dX5_init_116 : decode cX5_init 116 = .ok (.newarray .int, 2) := by decide +kernel
theorem dX5_init_118 : decode cX5_init 118 = .ok (.dup, 1) := by decide +kernel
theorem dX5_init_119 : decode cX5_init 119 = .ok (.iconst 0, 1) := by decide +kernel
theorem dX5_init_120 : decode cX5_init 120 = .ok (.iconst (-1), 1) := by decide +kernel
theorem dX5_init_121 : decode cX5_init 121 = .ok (.iastore, 1) := by decide +kernel
theorem dX5_init_122 : decode cX5_init 122 = .ok (.dup, 1) := by decide +kernel
theorem dX5_init_123 : decode cX5_init 123 = .ok (.iconst 1, 1) := by decide +kernel
theorem dX5_init_124 : decode cX5_init 124 = .ok (.iconst (-1), 1) := by decide +kernel
theorem dX5_init_125 : decode cX5_init 125 = .ok (.iastore, 1) := by decide +kernel
theorem dX5_init_126 : decode cX5_init 126 = .ok (.dup, 1) := by decide +kernel
theorem dX5_init_127 : decode cX5_init 127 = .ok (.iconst 2, 1) := by decide +kernel
theorem dX5_init_128 : decode cX5_init 128 = .ok (.iconst (-1), 1) := by decide +kernel
theorem dX5_init_129 : decode cX5_init 129 = .ok (.iastore, 1) := by decide +kernel
theorem dX5_init_130 : decode cX5_init 130 = .ok (.dup, 1) := by decide +kernel
theorem dX5_init_131 : decode cX5_init 131 = .ok (.iconst 3, 1) := by decide +kernel
theorem dX5_init_132 : decode cX5_init 132 = .ok (.iconst (-1), 1) := by decide +kernel
theorem dX5_init_133 : decode cX5_init 133 = .ok (.iastore, 1) := by decide +kernel
theorem dX5_init_134 : decode cX5_init 134 = .ok (.dup, 1) := by decide +kernel
theorem dX5_init_135 : decode cX5_init 135 = .ok (.iconst 4, 1) := by decide +kernel
theorem dX5_init_136 : decode cX5_init 136 = .ok (.iconst (-1), 1) := by decide +kernel
theorem dX5_init_137 : decode cX5_init 137 = .ok (.iastore, 1) := by decide +kernel
theorem dX5_init_138 : decode cX5_init 138 = .ok (.dup, 1) := by decide +kernel
theorem dX5_init_139 : decode cX5_init 139 = .ok (.iconst 5, 1) := by decide +kernel
theorem dX5_init_140 : decode cX5_init 140 = .ok (.iconst (-1), 1) := by decide +kernel
theorem dX5_init_141 : decode cX5_init 141 = .ok (.iastore, 1) := by decide +kernel
theorem dX5_init_142 : decode cX5_init 142 = .ok (.dup, 1) := by decide +kernel
theorem dX5_init_143 : decode cX5_init 143 = .ok (.bipush 6, 2) := by decide +kernel
theorem dX5_init_145 : decode cX5_init 145 = .ok (.iconst (-1), 1) := by decide +kernel
theorem dX5_init_146 : decode cX5_init 146 = .ok (.iastore, 1) := by decide +kernel
theorem dX5_init_147 : decode cX5_init 147 = .ok (.dup, 1) := by decide +kernel
theorem dX5_init_148 : decode cX5_init 148 = .ok (.bipush 7, 2) := by decide +kernel
theorem dX5_init_150 : decode cX5_init 150 = .ok (.iconst (-1), 1) := by decide +kernel
theorem dX5_init_151 : decode cX5_init 151 = .ok (.iastore, 1) := by decide +kernel
theorem dX5_init_152 : decode cX5_init 152 = .ok (.dup, 1) := by decide +kernel
theorem dX5_init_153 : decode cX5_init 153 = .ok (.bipush 8, 2) := by decide +kernel
theorem dX5_init_155 : decode cX5_init 155 = .ok (.iconst (-1), 1) := by decide +kernel
theorem dX5_init_156 : decode cX5_init 156 = .ok (.iastore, 1) := by decide +kernel
theorem dX5_init_157 : decode cX5_init 157 = .ok (.dup, 1) := by decide +kernel
theorem dX5_init_158 : decode cX5_init 158 = .ok (.bipush 9, 2) := by decide +kernel
theorem dX5_init_160 : decode cX5_init 160 = .ok (.iconst (-1), 1) := by decide +kernel
theorem dX5_init_161 : decode cX5_init 161 = .ok (.iastore, 1) := by decide +kernel
theorem dX5_init_162 : decode cX5_init 162 = .ok (.putfield 48, 3) := by decide +kernel
theorem dX5_init_165 : decode cX5_init 165 = .ok (.aload_n 0, 1) := by decide +kernel
theorem dX5_init_166 : decode cX5_init 166 = .ok (.bipush 10, 2) := by decide +kernel
theorem dX5_init_168 : decode cX5_init 168 = .ok (.newarray .boolean, 2) := by decide +kernel
theorem dX5_init_170 : decode cX5_init 170 = .ok (.putfield 51, 3) := by decide +kernel
theorem dX5_init_173 : decode cX5_init 173 = .ok (.aload_n 0, 1) := by decide +kernel
theorem dX5_init_174 : decode cX5_init 174 = .ok (.bipush 10, 2) := by decide +kernel
theorem dX5_init_176 : decode cX5_init 176 = .ok (.newarray .boolean, 2) := by decide +kernel
theorem dX5_init_178 : decode cX5_init 178 = .ok (.putfield 54, 3) := by decide +kernel
theorem dX5_init_181 : decode cX5_init 181 = .ok (.aload_n 0, 1) := by decide +kernel
theorem dX5_init_182 : decode cX5_init 182 = .ok (.bipush 10, 2) := by decide +kernel
theorem dX5_init_184 : decode cX5_init 184 = .ok (.newarray .int, 2) := by decide +kernel
theorem dX5_init_186 : decode cX5_init 186 = .ok (.putfield 57, 3) := by decide +kernel
theorem dX5_init_189 : decode cX5_init 189 = .ok (.aload_n 0, 1) := by decide +kernel
theorem dX5_init_190 : decode cX5_init 190 = .ok (.iconst 3, 1) := by decide +kernel
theorem dX5_init_191 : decode cX5_init 191 = .ok (.newarray .int, 2) := by decide +kernel
theorem dX5_init_193 : decode cX5_init 193 = .ok (.dup, 1) := by decide +kernel
theorem dX5_init_194 : decode cX5_init 194 = .ok (.iconst 0, 1) := by decide +kernel
theorem dX5_init_195 : decode cX5_init 195 = .ok (.sipush 9999, 3) := by decide +kernel
theorem dX5_init_198 : decode cX5_init 198 = .ok (.iastore, 1) := by decide +kernel
theorem dX5_init_199 : decode cX5_init 199 = .ok (.dup, 1) := by decide +kernel
theorem dX5_init_200 : decode cX5_init 200 = .ok (.iconst 1, 1) := by decide +kernel
theorem dX5_init_201 : decode cX5_init 201 = .ok (.sipush 9999, 3) := by decide +kernel
theorem dX5_init_204 : decode cX5_init 204 = .ok (.iastore, 1) := by decide +kernel
theorem dX5_init_205 : decode cX5_init 205 = .ok (.dup, 1) := by decide +kernel
theorem dX5_init_206 : decode cX5_init 206 = .ok (.iconst 2, 1) := by decide +kernel
theorem dX5_init_207 : decode cX5_init 207 = .ok (.sipush 9999, 3) := by decide +kernel
theorem dX5_init_210 : decode cX5_init 210 = .ok (.iastore, 1) := by decide +kernel
theorem dX5_init_211 : decode cX5_init 211 = .ok (.putfield 60, 3) := by decide +kernel
theorem dX5_init_214 : decode cX5_init 214 = .ok (.aload_n 0, 1) := by decide +kernel
theorem dX5_init_215 : decode cX5_init 215 = .ok (.iconst 4, 1) := by decide +kernel
theorem dX5_init_216 : decode cX5_init 216 = .ok (.newarray .int, 2) := by decide +kernel
theorem dX5_init_218 : decode cX5_init 218 = .ok (.putfield 63, 3) := by decide +kernel
theorem dX5_init_221 : decode cX5_init 221 = .ok (.aload_n 0, 1) := by decide +kernel
theorem dX5_init_222 : decode cX5_init 222 = .ok (.iconst 4, 1) := by decide +kernel
theorem dX5_init_223 : decode cX5_init 223 = .ok (.newarray .int, 2) := by decide +kernel
theorem dX5_init_225 : decode cX5_init 225 = .ok (.dup, 1) := by decide +kernel
theorem dX5_init_226 : decode cX5_init 226 = .ok (.iconst 0, 1) := by decide +kernel
theorem dX5_init_227 : decode cX5_init 227 = .ok (.iconst (-1), 1) := by decide +kernel
theorem dX5_init_228 : decode cX5_init 228 = .ok (.iastore, 1) := by decide +kernel
theorem dX5_init_229 : decode cX5_init 229 = .ok (.dup, 1) := by decide +kernel
theorem dX5_init_230 : decode cX5_init 230 = .ok (.iconst 1, 1) := by decide +kernel
theorem dX5_init_231 : decode cX5_init 231 = .ok (.iconst (-1), 1) := by decide +kernel
theorem dX5_init_232 : decode cX5_init 232 = .ok (.iastore, 1) := by decide +kernel
theorem dX5_init_233 : decode cX5_init 233 = .ok (.dup, 1) := by decide +kernel
theorem dX5_init_234 : decode cX5_init 234 = .ok (.iconst 2, 1) := by decide +kernel
theorem dX5_init_235 : decode cX5_init 235 = .ok (.iconst (-1), 1) := by decide +kernel
theorem dX5_init_236 : decode cX5_init 236 = .ok (.iastore, 1) := by decide +kernel
theorem dX5_init_237 : decode cX5_init 237 = .ok (.dup, 1) := by decide +kernel
theorem dX5_init_238 : decode cX5_init 238 = .ok (.iconst 3, 1) := by decide +kernel
theorem dX5_init_239 : decode cX5_init 239 = .ok (.iconst (-1), 1) := by decide +kernel
theorem dX5_init_240 : decode cX5_init 240 = .ok (.iastore, 1) := by decide +kernel
theorem dX5_init_241 : decode cX5_init 241 = .ok (.putfield 66, 3) := by decide +kernel
theorem dX5_init_244 : decode cX5_init 244 = .ok (.return_, 1) := by decide +kernel
theorem dX5_thrown_0 : decode cX5_thrown 0 = .ok (.aload_n 0, 1) := by decide +kernel
theorem dX5_thrown_1 : decode cX5_thrown 1 = .ok (.getfield 69, 3) := by decide +kernel
theorem dX5_thrown_4 : decode cX5_thrown 4 = .ok (.ireturn, 1) := by decide +kernel
theorem dX5_goesWell_0 : decode cX5_goesWell 0 = .ok (.aload_n 0, 1) := by decide +kernel
theorem dX5_goesWell_1 : decode cX5_goesWell 1 = .ok (.iload_n 1, 1) := by decide +kernel
theorem dX5_goesWell_2 : decode cX5_goesWell 2 = .ok (.putfield 69, 3) := by decide +kernel
theorem dX5_goesWell_5 : decode cX5_goesWell 5 = .ok (.iload_n 1, 1) := by decide +kernel
theorem dX5_goesWell_6 : decode cX5_goesWell 6 = .ok (.ifCond .ne 7, 3) := by decide +kernel
theorem dX5_goesWell_9 : decode cX5_goesWell 9 = .ok (.iconst 1, 1) := by decide +kernel
theorem dX5_goesWell_10 : decode cX5_goesWell 10 = .ok (.goto 4, 3) := by decide +kernel
theorem dX5_goesWell_13 : decode cX5_goesWell 13 = .ok (.iconst 0, 1) := by decide +kernel
theorem dX5_goesWell_14 : decode cX5_goesWell 14 = .ok (.ireturn, 1) := by decide +kernel
theorem dX5_in_0 : decode cX5_in 0 = .ok (.iload_n 0, 1) := by decide +kernel
theorem dX5_in_1 : decode cX5_in 1 = .ok (.iload_n 1, 1) := by decide +kernel
theorem dX5_in_2 : decode cX5_in 2 = .ok (.if_icmp .lt 12, 3) := by decide +kernel
theorem dX5_in_5 : decode cX5_in 5 = .ok (.iload_n 0, 1) := by decide +kernel
theorem dX5_in_6 : decode cX5_in 6 = .ok (.iload_n 2, 1) := by decide +kernel
theorem dX5_in_7 : decode cX5_in 7 = .ok (.if_icmp .gt 7, 3) := by decide +kernel
theorem dX5_in_10 : decode cX5_in 10 = .ok (.iconst 1, 1) := by decide +kernel
theorem dX5_in_11 : decode cX5_in 11 = .ok (.goto 4, 3) := by decide +kernel
theorem dX5_in_14 : decode cX5_in 14 = .ok (.iconst 0, 1) := by decide +kernel
theorem dX5_in_15 : decode cX5_in 15 = .ok (.ireturn, 1) := by decide +kernel
set_option maxRecDepth 20000 in
theorem ggX5_isColumn_X5_in : GoodIn wsX5_isColumn wsX5_in := goodIn_r _ [4] (by decide +kernel) (by decide +kernel)
set_option maxRecDepth 20000 in
theorem gX5_isColumn_X5_in : GoodIn wsX5_isColumn (va_wsS RX5 72 yX5_in wsX5_in) := goodIn_app (goodIn_of _ (by decide +kernel)) ggX5_isColumn_X5_in
theorem dX5_isColumn_0 : decode cX5_isColumn 0 = .ok (.iload_n 0, 1) := by decide +kernel
theorem dX5_isColumn_1 : decode cX5_isColumn 1 = .ok (.iconst 0, 1) := by decide +kernel
theorem dX5_isColumn_2 : decode cX5_isColumn 2 = .ok (.bipush 15, 2) := by decide +kernel
theorem dX5_isColumn_4 : decode cX5_isColumn 4 = .ok (.invokestatic 72, 3) := by decide +kernel
theorem dX5_isColumn_7 : decode cX5_isColumn 7 = .ok (.ireturn, 1) := by decide +kernel
set_option maxRecDepth 20000 in
theorem ggX5_isCell_X5_isColumn : GoodIn wsX5_isCell wsX5_isColumn := goodIn_r _ [4, 5, 6, 3, 7] (by decide +kernel) (by decide +kernel)
set_option maxRecDepth 20000 in
theorem gX5_isCell_X5_isColumn : GoodIn wsX5_isCell (va_wsS RX5 76 yX5_isColumn wsX5_isColumn) := goodIn_app (goodIn_of _ (by decide +kernel)) ggX5_isCell_X5_isColumn
set_option maxRecDepth 20000 in
theorem ggX5_isCell_X5_in : GoodIn wsX5_isCell wsX5_in := goodIn_r _ [7] (by decide +kernel) (by decide +kernel)
set_option maxRecDepth 20000 in
theorem gX5_isCell_X5_in : GoodIn wsX5_isCell (va_wsS RX5 72 yX5_in wsX5_in) := goodIn_app (goodIn_of _ (by decide +kernel)) ggX5_isCell_X5_in
theorem dX5_isCell_0 : decode cX5_isCell 0 = .ok (.iload_n 0, 1) := by decide +kernel
theorem dX5_isCell_1 : decode cX5_isCell 1 = .ok (.invokestatic 76, 3) := by decide +kernel
theorem dX5_isCell_4 : decode cX5_isCell 4 = .ok (.ifCond .eq 17, 3) := by decide +kernel
theorem dX5_isCell_7 : decode cX5_isCell 7 = .ok (.iload_n 1, 1) := by decide +kernel
theorem dX5_isCell_8 : decode cX5_isCell 8 = .ok (.iconst 3, 1) := by decide +kernel
theorem dX5_isCell_9 : decode cX5_isCell 9 = .ok (.bipush 11, 2) := by decide +kernel
theorem dX5_isCell_11 : decode cX5_isCell 11 = .ok (.invokestatic 72, 3) := by decide +kernel
theorem dX5_isCell_14 : decode cX5_isCell 14 = .ok (.ifCond .eq 7, 3) := by decide +kernel
theorem dX5_isCell_17 : decode cX5_isCell 17 = .ok (.iconst 1, 1) := by decide +kernel
theorem dX5_isCell_18 : decode cX5_isCell 18 = .ok (.goto 4, 3) := by decide +kernel
theorem dX5_isCell_21 : decode cX5_isCell 21 = .ok (.iconst 0, 1) := by decide +kernel
theorem dX5_isCell_22 : decode cX5_isCell 22 = .ok (.ireturn, 1) := by decide +kernel
set_option maxRecDepth 20000 in
theorem ggX5_isProjector_X5_in : GoodIn wsX5_isProjector wsX5_in := goodIn_r _ [5] (by decide +kernel) (by decide +kernel)
set_option maxRecDepth 20000 in
theorem gX5_isProjector_X5_in : GoodIn wsX5_isProjector (va_wsS RX5 72 yX5_in wsX5_in) := goodIn_app (goodIn_of _ (by decide +kernel)) ggX5_isProjector_X5_in
theorem dX5_isProjector_0 : decode cX5_isProjector 0 = .ok (.iload_n 1, 1) := by decide +kernel
theorem dX5_isProjector_1 : decode cX5_isProjector 1 = .ok (.iconst 0, 1) := by decide +kernel
theorem dX5_isProjector_2 : decode cX5_isProjector 2 = .ok (.aload_n 0, 1) := by decide +kernel
theorem dX5_isProjector_3 : decode cX5_isProjector 3 = .ok (.getfield 80, 3) := by decide +kernel
theorem dX5_isProjector_6 : decode cX5_isProjector 6 = .ok (.iconst 1, 1) := by decide +kernel
theorem dX5_isProjector_7 : decode cX5_isProjector 7 = .ok (.isub, 1) := by decide +kernel
theorem dX5_isProjector_8 : decode cX5_isProjector 8 = .ok (.invokestatic 72, 3) := by decide +kernel
theorem dX5_isProjector_11 : decode cX5_isProjector 11 = .ok (.ireturn, 1) := by decide +kernel
theorem dX5_at_0 : decode cX5_at 0 = .ok (.bipush 16, 2) := by decide +kernel
theorem dX5_at_2 : decode cX5_at 2 = .ok (.iload_n 1, 1) := by decide +kernel
theorem dX5_at_3 : decode cX5_at 3 = .ok (.imul, 1) := by decide +kernel
theorem dX5_at_4 : decode cX5_at 4 = .ok (.iload_n 0, 1) := by decide +kernel
theorem dX5_at_5 : decode cX5_at 5 = .ok (.iadd, 1) := by decide +kernel
theorem dX5_at_6 : decode cX5_at 6 = .ok (.ireturn, 1) := by decide +kernel
set_option maxRecDepth 20000 in
theorem ggX5_column_X5_isColumn : GoodIn wsX5_column wsX5_isColumn := goodIn_r _ [6, 7, 8, 5, 9] (by decide +kernel) (by decide +kernel)
set_option maxRecDepth 20000 in
theorem gX5_column_X5_isColumn : GoodIn wsX5_column (va_wsS RX5 76 yX5_isColumn wsX5_isColumn) := goodIn_app (goodIn_of _ (by decide +kernel)) ggX5_column_X5_isColumn
set_option maxRecDepth 20000 in
theorem ggX5_column_X5_in : GoodIn wsX5_column wsX5_in := goodIn_r _ [9] (by decide +kernel) (by decide +kernel)
set_option maxRecDepth 20000 in
theorem gX5_column_X5_in : GoodIn wsX5_column (va_wsS RX5 72 yX5_in wsX5_in) := goodIn_app (goodIn_of _ (by decide +kernel)) ggX5_column_X5_in
set_option maxRecDepth 20000 in
theorem ggX5_column_X5_goesWell : GoodIn wsX5_column wsX5_goesWell := goodIn_r _ [13, 14, 15, 16, 17, 18, 19, 20, 21, 22, 23, 24, 25, 26, 27, 28, 29, 30, 31, 32, 33, 34, 35, 36, 37, 38, 39, 40, 41, 42, 43, 44] (by decide +kernel) (by decide +kernel)
set_option maxRecDepth 20000 in
theorem gX5_column_X5_goesWell : GoodIn wsX5_column (wsV RX5 83 RX5 yX5_goesWell wsX5_goesWell) := goodIn_app (goodIn_of _ (by decide +kernel)) ggX5_column_X5_goesWell
theorem dX5_column_0 : decode cX5_column 0 = .ok (.iload_n 1, 1) := by decide +kernel
theorem dX5_column_1 : decode cX5_column 1 = .ok (.invokestatic 76, 3) := by decide +kernel
theorem dX5_column_4 : decode cX5_column 4 = .ok (.istore 4, 2) := by decide +kernel
theorem dX5_column_6 : decode cX5_column 6 = .ok (.aload_n 0, 1) := by decide +kernel
theorem dX5_column_7 : decode cX5_column 7 = .ok (.iload 4, 2) := by decide +kernel
theorem dX5_column_9 : decode cX5_column 9 = .ok (.ifCond .ne 7, 3) := by decide +kernel
theorem dX5_column_12 : decode cX5_column 12 = .ok (.iconst 1, 1) := by decide +kernel
theorem dX5_column_13 : decode cX5_column 13 = .ok (.goto 26, 3) := by decide +kernel
theorem dX5_column_16 : decode cX5_column 16 = .ok (.iload_n 2, 1) := by decide +kernel
theorem dX5_column_17 : decode cX5_column 17 = .ok (.iconst 0, 1) := by decide +kernel
theorem dX5_column_18 : decode cX5_column 18 = .ok (.iconst 2, 1) := by decide +kernel
theorem dX5_column_19 : decode cX5_column 19 = .ok (.invokestatic 72, 3) := by decide +kernel
theorem dX5_column_22 : decode cX5_column 22 = .ok (.ifCond .eq 16, 3) := by decide +kernel
theorem dX5_column_25 : decode cX5_column 25 = .ok (.iload_n 3, 1) := by decide +kernel
theorem dX5_column_26 : decode cX5_column 26 = .ok (.iconst 0, 1) := by decide +kernel
theorem dX5_column_27 : decode cX5_column 27 = .ok (.iconst 2, 1) := by decide +kernel
theorem dX5_column_28 : decode cX5_column 28 = .ok (.invokestatic 72, 3) := by decide +kernel
theorem dX5_column_31 : decode cX5_column 31 = .ok (.ifCond .eq 7, 3) := by decide +kernel
theorem dX5_column_34 : decode cX5_column 34 = .ok (.iconst 0, 1) := by decide +kernel
theorem dX5_column_35 : decode cX5_column 35 = .ok (.goto 4, 3) := by decide +kernel
theorem dX5_column_38 : decode cX5_column 38 = .ok (.iconst 2, 1) := by decide +kernel
theorem dX5_column_39 : decode cX5_column 39 = .ok (.invokevirtual 83, 3) := by decide +kernel
theorem dX5_column_42 : decode cX5_column 42 = .ok (.ifCond .eq 17, 3) := by decide +kernel
theorem dX5_column_45 : decode cX5_column 45 = .ok (.aload_n 0, 1) := by decide +kernel
theorem dX5_column_46 : decode cX5_column 46 = .ok (.getfield 7, 3) := by decide +kernel
theorem dX5_column_49 : decode cX5_column 49 = .ok (.iload_n 1, 1) := by decide +kernel
theorem dX5_column_50 : decode cX5_column 50 = .ok (.iload_n 2, 1) := by decide +kernel
theorem dX5_column_51 : decode cX5_column 51 = .ok (.iastore, 1) := by decide +kernel
theorem dX5_column_52 : decode cX5_column 52 = .ok (.aload_n 0, 1) := by decide +kernel
theorem dX5_column_53 : decode cX5_column 53 = .ok (.getfield 13, 3) := by decide +kernel
theorem dX5_column_56 : decode cX5_column 56 = .ok (.iload_n 1, 1) := by decide +kernel
theorem dX5_column_57 : decode cX5_column 57 = .ok (.iload_n 3, 1) := by decide +kernel
theorem dX5_column_58 : decode cX5_column 58 = .ok (.iastore, 1) := by decide +kernel
theorem dX5_column_59 : decode cX5_column 59 = .ok (.return_, 1) := by decide +kernel
set_option maxRecDepth 20000 in
theorem ggX5_cell_X5_isCell : GoodIn wsX5_cell wsX5_isCell := goodIn_r _ [6, 7, 8, 5, 9, 10, 11, 12] (by decide +kernel) (by decide +kernel)
set_option maxRecDepth 20000 in
theorem gX5_cell_X5_isCell : GoodIn wsX5_cell (va_wsS RX5 86 yX5_isCell wsX5_isCell) := goodIn_app (goodIn_of _ (by decide +kernel)) ggX5_cell_X5_isCell
set_option maxRecDepth 20000 in
theorem ggX5_cell_X5_in : GoodIn wsX5_cell wsX5_in := goodIn_r _ [12] (by decide +kernel) (by decide +kernel)
set_option maxRecDepth 20000 in
theorem gX5_cell_X5_in : GoodIn wsX5_cell (va_wsS RX5 72 yX5_in wsX5_in) := goodIn_app (goodIn_of _ (by decide +kernel)) ggX5_cell_X5_in
set_option maxRecDepth 20000 in
theorem ggX5_cell_X5_at : GoodIn wsX5_cell wsX5_at := goodIn_r _ [15] (by decide +kernel) (by decide +kernel)
set_option maxRecDepth 20000 in
theorem gX5_cell_X5_at : GoodIn wsX5_cell (va_wsS RX5 90 yX5_at wsX5_at) := goodIn_app (goodIn_of _ (by decide +kernel)) ggX5_cell_X5_at
set_option maxRecDepth 20000 in
theorem ggX5_cell_X5_goesWell : GoodIn wsX5_cell wsX5_goesWell := goodIn_r _ [19, 20, 21, 22, 23, 24, 25, 26, 27, 28, 29, 30, 31, 32, 33, 34, 35, 36, 37, 38, 39, 40, 41, 42, 43, 44, 45, 46, 47, 48, 49, 50] (by decide +kernel) (by decide +kernel)
set_option maxRecDepth 20000 in
theorem gX5_cell_X5_goesWell : GoodIn wsX5_cell (wsV RX5 83 RX5 yX5_goesWell wsX5_goesWell) := goodIn_app (goodIn_of _ (by decide +kernel)) ggX5_cell_X5_goesWell
theorem dX5_cell_0 : decode cX5_cell 0 = .ok (.iload_n 1, 1) := by decide +kernel
theorem dX5_cell_1 : decode cX5_cell 1 = .ok (.iload_n 2, 1) := by decide +kernel
theorem dX5_cell_2 : decode cX5_cell 2 = .ok (.invokestatic 86, 3) := by decide +kernel
theorem dX5_cell_5 : decode cX5_cell 5 = .ok (.istore 4, 2) := by decide +kernel
theorem dX5_cell_7 : decode cX5_cell 7 = .ok (.aload_n 0, 1) := by decide +kernel
theorem dX5_cell_8 : decode cX5_cell 8 = .ok (.iload 4, 2) := by decide +kernel
theorem dX5_cell_10 : decode cX5_cell 10 = .ok (.ifCond .ne 7, 3) := by decide +kernel
theorem dX5_cell_13 : decode cX5_cell 13 = .ok (.iconst 1, 1) := by decide +kernel
theorem dX5_cell_14 : decode cX5_cell 14 = .ok (.goto 34, 3) := by decide +kernel
theorem dX5_cell_17 : decode cX5_cell 17 = .ok (.iload_n 3, 1) := by decide +kernel
theorem dX5_cell_18 : decode cX5_cell 18 = .ok (.iconst 0, 1) := by decide +kernel
theorem dX5_cell_19 : decode cX5_cell 19 = .ok (.iconst 3, 1) := by decide +kernel
theorem dX5_cell_20 : decode cX5_cell 20 = .ok (.invokestatic 72, 3) := by decide +kernel
theorem dX5_cell_23 : decode cX5_cell 23 = .ok (.ifCond .ne 7, 3) := by decide +kernel
theorem dX5_cell_26 : decode cX5_cell 26 = .ok (.iconst 2, 1) := by decide +kernel
theorem dX5_cell_27 : decode cX5_cell 27 = .ok (.goto 21, 3) := by decide +kernel
theorem dX5_cell_30 : decode cX5_cell 30 = .ok (.aload_n 0, 1) := by decide +kernel
theorem dX5_cell_31 : decode cX5_cell 31 = .ok (.getfield 22, 3) := by decide +kernel
theorem dX5_cell_34 : decode cX5_cell 34 = .ok (.iload_n 1, 1) := by decide +kernel
theorem dX5_cell_35 : decode cX5_cell 35 = .ok (.iload_n 2, 1) := by decide +kernel
theorem dX5_cell_36 : decode cX5_cell 36 = .ok (.invokestatic 90, 3) := by decide +kernel
theorem dX5_cell_39 : decode cX5_cell 39 = .ok (.baload, 1) := by decide +kernel
theorem dX5_cell_40 : decode cX5_cell 40 = .ok (.ifCond .eq 7, 3) := by decide +kernel
theorem dX5_cell_43 : decode cX5_cell 43 = .ok (.iconst 3, 1) := by decide +kernel
theorem dX5_cell_44 : decode cX5_cell 44 = .ok (.goto 4, 3) := by decide +kernel
theorem dX5_cell_47 : decode cX5_cell 47 = .ok (.iconst 0, 1) := by decide +kernel
theorem dX5_cell_48 : decode cX5_cell 48 = .ok (.invokevirtual 83, 3) := by decide +kernel
theorem dX5_cell_51 : decode cX5_cell 51 = .ok (.ifCond .ne 5, 3) := by decide +kernel
theorem dX5_cell_54 : decode cX5_cell 54 = .ok (.iconst 0, 1) := by decide +kernel
theorem dX5_cell_55 : decode cX5_cell 55 = .ok (.ireturn, 1) := by decide +kernel
theorem dX5_cell_56 : decode cX5_cell 56 = .ok (.aload_n 0, 1) := by decide +kernel
theorem dX5_cell_57 : decode cX5_cell 57 = .ok (.getfield 19, 3) := by decide +kernel
theorem dX5_cell_60 : decode cX5_cell 60 = .ok (.iload_n 1, 1) := by decide +kernel
theorem dX5_cell_61 : decode cX5_cell 61 = .ok (.iload_n 2, 1) := by decide +kernel
theorem dX5_cell_62 : decode cX5_cell 62 = .ok (.invokestatic 90, 3) := by decide +kernel
theorem dX5_cell_65 : decode cX5_cell 65 = .ok (.iaload, 1) := by decide +kernel
theorem dX5_cell_66 : decode cX5_cell 66 = .ok (.istore 5, 2) := by decide +kernel
theorem dX5_cell_68 : decode cX5_cell 68 = .ok (.aload_n 0, 1) := by decide +kernel
theorem dX5_cell_69 : decode cX5_cell 69 = .ok (.getfield 19, 3) := by decide +kernel
theorem dX5_cell_72 : decode cX5_cell 72 = .ok (.iload_n 1, 1) := by decide +kernel
theorem dX5_cell_73 : decode cX5_cell 73 = .ok (.iload_n 2, 1) := by decide +kernel
theorem dX5_cell_74 : decode cX5_cell 74 = .ok (.invokestatic 90, 3) := by decide +kernel
theorem dX5_cell_77 : decode cX5_cell 77 = .ok (.iload_n 3, 1) := by decide +kernel
theorem dX5_cell_78 : decode cX5_cell 78 = .ok (.iastore, 1) := by decide +kernel
theorem dX5_cell_79 : decode cX5_cell 79 = .ok (.iload 5, 2) := by decide +kernel
theorem dX5_cell_81 : decode cX5_cell 81 = .ok (.ireturn, 1) := by decide +kernel
set_option maxRecDepth 20000 in
theorem ggX5_need_X5_in : GoodIn wsX5_need wsX5_in := goodIn_r _ [7] (by decide +kernel) (by decide +kernel)
set_option maxRecDepth 20000 in
theorem gX5_need_X5_in : GoodIn wsX5_need (va_wsS RX5 72 yX5_in wsX5_in) := goodIn_app (goodIn_of _ (by decide +kernel)) ggX5_need_X5_in
set_option maxRecDepth 20000 in
theorem ggX5_need_X5_goesWell : GoodIn wsX5_need wsX5_goesWell := goodIn_r _ [11, 12, 13, 14, 15, 16, 17, 18, 19, 20, 21, 22, 23, 24, 25, 26, 27, 28, 29, 30, 31, 32, 33, 34, 35, 36, 37, 38, 39, 40, 41, 42] (by decide +kernel) (by decide +kernel)
set_option maxRecDepth 20000 in
theorem gX5_need_X5_goesWell : GoodIn wsX5_need (wsV RX5 83 RX5 yX5_goesWell wsX5_goesWell) := goodIn_app (goodIn_of _ (by decide +kernel)) ggX5_need_X5_goesWell
theorem dX5_need_0 : decode cX5_need 0 = .ok (.aload_n 0, 1) := by decide +kernel
theorem dX5_need_1 : decode cX5_need 1 = .ok (.iload_n 1, 1) := by decide +kernel
theorem dX5_need_2 : decode cX5_need 2 = .ok (.iconst 0, 1) := by decide +kernel
theorem dX5_need_3 : decode cX5_need 3 = .ok (.ldc 94, 2) := by decide +kernel
theorem dX5_need_5 : decode cX5_need 5 = .ok (.invokestatic 72, 3) := by decide +kernel
theorem dX5_need_8 : decode cX5_need 8 = .ok (.ifCond .eq 18, 3) := by decide +kernel
theorem dX5_need_11 : decode cX5_need 11 = .ok (.iload_n 2, 1) := by decide +kernel
theorem dX5_need_12 : decode cX5_need 12 = .ok (.iconst 1, 1) := by decide +kernel
theorem dX5_need_13 : decode cX5_need 13 = .ok (.sipush 9999, 3) := by decide +kernel
theorem dX5_need_16 : decode cX5_need 16 = .ok (.invokestatic 72, 3) := by decide +kernel
theorem dX5_need_19 : decode cX5_need 19 = .ok (.ifCond .eq 7, 3) := by decide +kernel
theorem dX5_need_22 : decode cX5_need 22 = .ok (.iconst 0, 1) := by decide +kernel
theorem dX5_need_23 : decode cX5_need 23 = .ok (.goto 4, 3) := by decide +kernel
theorem dX5_need_26 : decode cX5_need 26 = .ok (.iconst 1, 1) := by decide +kernel
theorem dX5_need_27 : decode cX5_need 27 = .ok (.invokevirtual 83, 3) := by decide +kernel
theorem dX5_need_30 : decode cX5_need 30 = .ok (.ifCond .eq 13, 3) := by decide +kernel
theorem dX5_need_33 : decode cX5_need 33 = .ok (.aload_n 0, 1) := by decide +kernel
theorem dX5_need_34 : decode cX5_need 34 = .ok (.iload_n 1, 1) := by decide +kernel
theorem dX5_need_35 : decode cX5_need 35 = .ok (.putfield 95, 3) := by decide +kernel
theorem dX5_need_38 : decode cX5_need 38 = .ok (.aload_n 0, 1) := by decide +kernel
theorem dX5_need_39 : decode cX5_need 39 = .ok (.iload_n 2, 1) := by decide +kernel
theorem dX5_need_40 : decode cX5_need 40 = .ok (.putfield 26, 3) := by decide +kernel
theorem dX5_need_43 : decode cX5_need 43 = .ok (.return_, 1) := by decide +kernel
set_option maxRecDepth 20000 in
theorem ggX5_projector_X5_isCell : GoodIn wsX5_projector wsX5_isCell := goodIn_r _ [12, 13, 14, 11, 15, 16, 17, 18] (by decide +kernel) (by decide +kernel)
set_option maxRecDepth 20000 in
theorem gX5_projector_X5_isCell : GoodIn wsX5_projector (va_wsS RX5 86 yX5_isCell wsX5_isCell) := goodIn_app (goodIn_of _ (by decide +kernel)) ggX5_projector_X5_isCell
set_option maxRecDepth 20000 in
theorem ggX5_projector_X5_in : GoodIn wsX5_projector wsX5_in := goodIn_r _ [18] (by decide +kernel) (by decide +kernel)
set_option maxRecDepth 20000 in
theorem gX5_projector_X5_in : GoodIn wsX5_projector (va_wsS RX5 72 yX5_in wsX5_in) := goodIn_app (goodIn_of _ (by decide +kernel)) ggX5_projector_X5_in
set_option maxRecDepth 20000 in
theorem ggX5_projector_X5_at : GoodIn wsX5_projector wsX5_at := goodIn_r _ [21] (by decide +kernel) (by decide +kernel)
set_option maxRecDepth 20000 in
theorem gX5_projector_X5_at : GoodIn wsX5_projector (va_wsS RX5 90 yX5_at wsX5_at) := goodIn_app (goodIn_of _ (by decide +kernel)) ggX5_projector_X5_at
set_option maxRecDepth 20000 in
theorem ggX5_projector_X5_goesWell : GoodIn wsX5_projector wsX5_goesWell := goodIn_r _ [25, 26, 27, 28, 29, 30, 31, 32, 33, 34, 35, 36, 37, 38, 39, 40, 41, 42, 43, 44, 45, 46, 47, 48, 49, 50, 51, 52, 53, 54, 55, 56] (by decide +kernel) (by decide +kernel)
set_option maxRecDepth 20000 in
theorem gX5_projector_X5_goesWell : GoodIn wsX5_projector (wsV RX5 83 RX5 yX5_goesWell wsX5_goesWell) := goodIn_app (goodIn_of _ (by decide +kernel)) ggX5_projector_X5_goesWell
theorem dX5_projector_0 : decode cX5_projector 0 = .ok (.iload_n 1, 1) := by decide +kernel
theorem dX5_projector_1 : decode cX5_projector 1 = .ok (.iload_n 2, 1) := by decide +kernel
theorem dX5_projector_2 : decode cX5_projector 2 = .ok (.invokestatic 86, 3) := by decide +kernel
theorem dX5_projector_5 : decode cX5_projector 5 = .ok (.istore 6, 2) := by decide +kernel
theorem dX5_projector_7 : decode cX5_projector 7 = .ok (.iload_n 3, 1) := by decide +kernel
theorem dX5_projector_8 : decode cX5_projector 8 = .ok (.iconst 1, 1) := by decide +kernel
theorem dX5_projector_9 : decode cX5_projector 9 = .ok (.sipush 9999, 3) := by decide +kernel
theorem dX5_projector_12 : decode cX5_projector 12 = .ok (.invokestatic 72, 3) := by decide +kernel
theorem dX5_projector_15 : decode cX5_projector 15 = .ok (.ifCond .eq 28, 3) := by decide +kernel
theorem dX5_projector_18 : decode cX5_projector 18 = .ok (.iload 4, 2) := by decide +kernel
theorem dX5_projector_20 : decode cX5_projector 20 = .ok (.iconst 0, 1) := by decide +kernel
theorem dX5_projector_21 : decode cX5_projector 21 = .ok (.iconst 2, 1) := by decide +kernel
theorem dX5_projector_22 : decode cX5_projector 22 = .ok (.invokestatic 72, 3) := by decide +kernel
theorem dX5_projector_25 : decode cX5_projector 25 = .ok (.ifCond .eq 18, 3) := by decide +kernel
theorem dX5_projector_28 : decode cX5_projector 28 = .ok (.iload 5, 2) := by decide +kernel
theorem dX5_projector_30 : decode cX5_projector 30 = .ok (.iconst 1, 1) := by decide +kernel
theorem dX5_projector_31 : decode cX5_projector 31 = .ok (.bipush 11, 2) := by decide +kernel
theorem dX5_projector_33 : decode cX5_projector 33 = .ok (.invokestatic 72, 3) := by decide +kernel
theorem dX5_projector_36 : decode cX5_projector 36 = .ok (.ifCond .eq 7, 3) := by decide +kernel
theorem dX5_projector_39 : decode cX5_projector 39 = .ok (.iconst 1, 1) := by decide +kernel
theorem dX5_projector_40 : decode cX5_projector 40 = .ok (.goto 4, 3) := by decide +kernel
theorem dX5_projector_43 : decode cX5_projector 43 = .ok (.iconst 0, 1) := by decide +kernel
theorem dX5_projector_44 : decode cX5_projector 44 = .ok (.istore 7, 2) := by decide +kernel
theorem dX5_projector_46 : decode cX5_projector 46 = .ok (.iload 6, 2) := by decide +kernel
theorem dX5_projector_48 : decode cX5_projector 48 = .ok (.ifCond .eq 42, 3) := by decide +kernel
theorem dX5_projector_51 : decode cX5_projector 51 = .ok (.aload_n 0, 1) := by decide +kernel
theorem dX5_projector_52 : decode cX5_projector 52 = .ok (.getfield 19, 3) := by decide +kernel
theorem dX5_projector_55 : decode cX5_projector 55 = .ok (.iload_n 1, 1) := by decide +kernel
theorem dX5_projector_56 : decode cX5_projector 56 = .ok (.iload_n 2, 1) := by decide +kernel
theorem dX5_projector_57 : decode cX5_projector 57 = .ok (.invokestatic 90, 3) := by decide +kernel
theorem dX5_projector_60 : decode cX5_projector 60 = .ok (.iaload, 1) := by decide +kernel
theorem dX5_projector_61 : decode cX5_projector 61 = .ok (.ifCond .ne 29, 3) := by decide +kernel
theorem dX5_projector_64 : decode cX5_projector 64 = .ok (.aload_n 0, 1) := by decide +kernel
theorem dX5_projector_65 : decode cX5_projector 65 = .ok (.getfield 22, 3) := by decide +kernel
theorem dX5_projector_68 : decode cX5_projector 68 = .ok (.iload_n 1, 1) := by decide +kernel
theorem dX5_projector_69 : decode cX5_projector 69 = .ok (.iload_n 2, 1) := by decide +kernel
theorem dX5_projector_70 : decode cX5_projector 70 = .ok (.invokestatic 90, 3) := by decide +kernel
theorem dX5_projector_73 : decode cX5_projector 73 = .ok (.baload, 1) := by decide +kernel
theorem dX5_projector_74 : decode cX5_projector 74 = .ok (.ifCond .ne 16, 3) := by decide +kernel
theorem dX5_projector_77 : decode cX5_projector 77 = .ok (.aload_n 0, 1) := by decide +kernel
theorem dX5_projector_78 : decode cX5_projector 78 = .ok (.getfield 80, 3) := by decide +kernel
theorem dX5_projector_81 : decode cX5_projector 81 = .ok (.bipush 10, 2) := by decide +kernel
theorem dX5_projector_83 : decode cX5_projector 83 = .ok (.if_icmp .ge 7, 3) := by decide +kernel
theorem dX5_projector_86 : decode cX5_projector 86 = .ok (.iconst 1, 1) := by decide +kernel
theorem dX5_projector_87 : decode cX5_projector 87 = .ok (.goto 4, 3) := by decide +kernel
theorem dX5_projector_90 : decode cX5_projector 90 = .ok (.iconst 0, 1) := by decide +kernel
theorem dX5_projector_91 : decode cX5_projector 91 = .ok (.istore 8, 2) := by decide +kernel
theorem dX5_projector_93 : decode cX5_projector 93 = .ok (.aload_n 0, 1) := by decide +kernel
theorem dX5_projector_94 : decode cX5_projector 94 = .ok (.iload 6, 2) := by decide +kernel
theorem dX5_projector_96 : decode cX5_projector 96 = .ok (.ifCond .ne 7, 3) := by decide +kernel
theorem dX5_projector_99 : decode cX5_projector 99 = .ok (.iconst 1, 1) := by decide +kernel
theorem dX5_projector_100 : decode cX5_projector 100 = .ok (.goto 22, 3) := by decide +kernel
theorem dX5_projector_103 : decode cX5_projector 103 = .ok (.iload 7, 2) := by decide +kernel
theorem dX5_projector_105 : decode cX5_projector 105 = .ok (.ifCond .ne 7, 3) := by decide +kernel
theorem dX5_projector_108 : decode cX5_projector 108 = .ok (.iconst 2, 1) := by decide +kernel
theorem dX5_projector_109 : decode cX5_projector 109 = .ok (.goto 13, 3) := by decide +kernel
theorem dX5_projector_112 : decode cX5_projector 112 = .ok (.iload 8, 2) := by decide +kernel
theorem dX5_projector_114 : decode cX5_projector 114 = .ok (.ifCond .eq 7, 3) := by decide +kernel
theorem dX5_projector_117 : decode cX5_projector 117 = .ok (.iconst 0, 1) := by decide +kernel
theorem dX5_projector_118 : decode cX5_projector 118 = .ok (.goto 4, 3) := by decide +kernel
theorem dX5_projector_121 : decode cX5_projector 121 = .ok (.iconst 3, 1) := by decide +kernel
theorem dX5_projector_122 : decode cX5_projector 122 = .ok (.invokevirtual 83, 3) := by decide +kernel
theorem dX5_projector_125 : decode cX5_projector 125 = .ok (.ifCond .ne 5, 3) := by decide +kernel
theorem dX5_projector_128 : decode cX5_projector 128 = .ok (.iconst 0, 1) := by decide +kernel
theorem dX5_projector_129 : decode cX5_projector 129 = .ok (.ireturn, 1) := by decide +kernel
theorem dX5_projector_130 : decode cX5_projector 130 = .ok (.aload_n 0, 1) := by decide +kernel
theorem dX5_projector_131 : decode cX5_projector 131 = .ok (.getfield 22, 3) := by decide +kernel
theorem dX5_projector_134 : decode cX5_projector 134 = .ok (.iload_n 1, 1) := by decide +kernel
theorem dX5_projector_135 : decode cX5_projector 135 = .ok (.iload_n 2, 1) := by decide +kernel
theorem dX5_projector_136 : decode cX5_projector 136 = .ok (.invokestatic 90, 3) := by decide +kernel
theorem dX5_projector_139 : decode cX5_projector 139 = .ok (.iconst 1, 1) := by decide +kernel
theorem dX5_projector_140 : decode cX5_projector 140 = .ok (.bastore, 1) := by decide +kernel
theorem dX5_projector_141 : decode cX5_projector 141 = .ok (.aload_n 0, 1) := by decide +kernel
theorem dX5_projector_142 : decode cX5_projector 142 = .ok (.getfield 30, 3) := by decide +kernel
theorem dX5_projector_145 : decode cX5_projector 145 = .ok (.aload_n 0, 1) := by decide +kernel
theorem dX5_projector_146 : decode cX5_projector 146 = .ok (.getfield 80, 3) := by decide +kernel
theorem dX5_projector_149 : decode cX5_projector 149 = .ok (.iload_n 1, 1) := by decide +kernel
theorem dX5_projector_150 : decode cX5_projector 150 = .ok (.iastore, 1) := by decide +kernel
theorem dX5_projector_151 : decode cX5_projector 151 = .ok (.aload_n 0, 1) := by decide +kernel
theorem dX5_projector_152 : decode cX5_projector 152 = .ok (.getfield 33, 3) := by decide +kernel
theorem dX5_projector_155 : decode cX5_projector 155 = .ok (.aload_n 0, 1) := by decide +kernel
theorem dX5_projector_156 : decode cX5_projector 156 = .ok (.getfield 80, 3) := by decide +kernel
theorem dX5_projector_159 : decode cX5_projector 159 = .ok (.iload_n 2, 1) := by decide +kernel
theorem dX5_projector_160 : decode cX5_projector 160 = .ok (.iastore, 1) := by decide +kernel
theorem dX5_projector_161 : decode cX5_projector 161 = .ok (.aload_n 0, 1) := by decide +kernel
theorem dX5_projector_162 : decode cX5_projector 162 = .ok (.getfield 36, 3) := by decide +kernel
theorem dX5_projector_165 : decode cX5_projector 165 = .ok (.aload_n 0, 1) := by decide +kernel
theorem dX5_projector_166 : decode cX5_projector 166 = .ok (.getfield 80, 3) := by decide +kernel
theorem dX5_projector_169 : decode cX5_projector 169 = .ok (.iload_n 3, 1) := by decide +kernel
theorem dX5_projector_170 : decode cX5_projector 170 = .ok (.iastore, 1) := by decide +kernel
theorem dX5_projector_171 : decode cX5_projector 171 = .ok (.aload_n 0, 1) := by decide +kernel
theorem dX5_projector_172 : decode cX5_projector 172 = .ok (.getfield 39, 3) := by decide +kernel
theorem dX5_projector_175 : decode cX5_projector 175 = .ok (.aload_n 0, 1) := by decide +kernel
theorem dX5_projector_176 : decode cX5_projector 176 = .ok (.getfield 80, 3) := by decide +kernel
theorem dX5_projector_179 : decode cX5_projector 179 = .ok (.iload 4, 2) := by decide +kernel
theorem dX5_projector_181 : decode cX5_projector 181 = .ok (.iastore, 1) := by decide +kernel
theorem dX5_projector_182 : decode cX5_projector 182 = .ok (.aload_n 0, 1) := by decide +kernel
theorem dX5_projector_183 : decode cX5_projector 183 = .ok (.getfield 42, 3) := by decide +kernel
theorem dX5_projector_186 : decode cX5_projector 186 = .ok (.aload_n 0, 1) := by decide +kernel
theorem dX5_projector_187 : decode cX5_projector 187 = .ok (.getfield 80, 3) := by decide +kernel
theorem dX5_projector_190 : decode cX5_projector 190 = .ok (.iload 5, 2) := by decide +kernel
theorem dX5_projector_192 : decode cX5_projector 192 = .ok (.iastore, 1) := by decide +kernel
theorem dX5_projector_193 : decode cX5_projector 193 = .ok (.aload_n 0, 1) := by decide +kernel
theorem dX5_projector_194 : decode cX5_projector 194 = .ok (.dup, 1) := by decide +kernel
theorem dX5_projector_195 : decode cX5_projector 195 = .ok (.getfield 80, 3) := by decide +kernel
theorem dX5_projector_198 : decode cX5_projector 198 = .ok (.iconst 1, 1) := by decide +kernel
theorem dX5_projector_199 : decode cX5_projector 199 = .ok (.iadd, 1) := by decide +kernel
theorem dX5_projector_200 : decode cX5_projector 200 = .ok (.putfield 80, 3) := by decide +kernel
theorem dX5_projector_203 : decode cX5_projector 203 = .ok (.aload_n 0, 1) := by decide +kernel
theorem dX5_projector_204 : decode cX5_projector 204 = .ok (.getfield 80, 3) := by decide +kernel
theorem dX5_projector_207 : decode cX5_projector 207 = .ok (.iconst 1, 1) := by decide +kernel
theorem dX5_projector_208 : decode cX5_projector 208 = .ok (.isub, 1) := by decide +kernel
theorem dX5_projector_209 : decode cX5_projector 209 = .ok (.ireturn, 1) := by decide +kernel
set_option maxRecDepth 20000 in
theorem ggX5_aim_X5_isProjector : GoodIn wsX5_aim wsX5_isProjector := goodIn_r _ [7, 8, 9, 10, 6, 11, 20, 21, 22, 23, 24, 25, 26, 27, 28, 29, 30, 31, 32, 33, 34, 35, 36, 37, 38, 39, 40, 41, 42, 43, 44, 45, 46, 47, 48, 49] (by decide +kernel) (by decide +kernel)
set_option maxRecDepth 20000 in
theorem gX5_aim_X5_isProjector : GoodIn wsX5_aim (wsV RX5 98 RX5 yX5_isProjector wsX5_isProjector) := goodIn_app (goodIn_of _ (by decide +kernel)) ggX5_aim_X5_isProjector
set_option maxRecDepth 20000 in
theorem ggX5_aim_X5_isColumn : GoodIn wsX5_aim wsX5_isColumn := goodIn_r _ [14, 9, 10, 6, 11] (by decide +kernel) (by decide +kernel)
set_option maxRecDepth 20000 in
theorem gX5_aim_X5_isColumn : GoodIn wsX5_aim (va_wsS RX5 76 yX5_isColumn wsX5_isColumn) := goodIn_app (goodIn_of _ (by decide +kernel)) ggX5_aim_X5_isColumn
set_option maxRecDepth 20000 in
theorem ggX5_aim_X5_in : GoodIn wsX5_aim wsX5_in := goodIn_r _ [11] (by decide +kernel) (by decide +kernel)
set_option maxRecDepth 20000 in
theorem gX5_aim_X5_in : GoodIn wsX5_aim (va_wsS RX5 72 yX5_in wsX5_in) := goodIn_app (goodIn_of _ (by decide +kernel)) ggX5_aim_X5_in
set_option maxRecDepth 20000 in
theorem ggX5_aim_X5_goesWell : GoodIn wsX5_aim wsX5_goesWell := goodIn_r _ [18, 19, 20, 21, 22, 23, 24, 25, 26, 27, 28, 29, 30, 31, 32, 33, 34, 35, 36, 37, 38, 39, 40, 41, 42, 43, 44, 45, 46, 47, 48, 49] (by decide +kernel) (by decide +kernel)
set_option maxRecDepth 20000 in
theorem gX5_aim_X5_goesWell : GoodIn wsX5_aim (wsV RX5 83 RX5 yX5_goesWell wsX5_goesWell) := goodIn_app (goodIn_of _ (by decide +kernel)) ggX5_aim_X5_goesWell
theorem dX5_aim_0 : decode cX5_aim 0 = .ok (.aload_n 0, 1) := by decide +kernel
theorem dX5_aim_1 : decode cX5_aim 1 = .ok (.iload_n 1, 1) := by decide +kernel
theorem dX5_aim_2 : decode cX5_aim 2 = .ok (.invokevirtual 98, 3) := by decide +kernel
theorem dX5_aim_5 : decode cX5_aim 5 = .ok (.ifCond .eq 21, 3) := by decide +kernel
theorem dX5_aim_8 : decode cX5_aim 8 = .ok (.iload_n 2, 1) := by decide +kernel
theorem dX5_aim_9 : decode cX5_aim 9 = .ok (.invokestatic 76, 3) := by decide +kernel
theorem dX5_aim_12 : decode cX5_aim 12 = .ok (.ifCond .eq 14, 3) := by decide +kernel
theorem dX5_aim_15 : decode cX5_aim 15 = .ok (.iload_n 3, 1) := by decide +kernel
theorem dX5_aim_16 : decode cX5_aim 16 = .ok (.invokestatic 76, 3) := by decide +kernel
theorem dX5_aim_19 : decode cX5_aim 19 = .ok (.ifCond .eq 7, 3) := by decide +kernel
theorem dX5_aim_22 : decode cX5_aim 22 = .ok (.iconst 1, 1) := by decide +kernel
theorem dX5_aim_23 : decode cX5_aim 23 = .ok (.goto 4, 3) := by decide +kernel
theorem dX5_aim_26 : decode cX5_aim 26 = .ok (.iconst 0, 1) := by decide +kernel
theorem dX5_aim_27 : decode cX5_aim 27 = .ok (.istore 4, 2) := by decide +kernel
theorem dX5_aim_29 : decode cX5_aim 29 = .ok (.aload_n 0, 1) := by decide +kernel
theorem dX5_aim_30 : decode cX5_aim 30 = .ok (.iload 4, 2) := by decide +kernel
theorem dX5_aim_32 : decode cX5_aim 32 = .ok (.ifCond .ne 7, 3) := by decide +kernel
theorem dX5_aim_35 : decode cX5_aim 35 = .ok (.iconst 1, 1) := by decide +kernel
theorem dX5_aim_36 : decode cX5_aim 36 = .ok (.goto 20, 3) := by decide +kernel
theorem dX5_aim_39 : decode cX5_aim 39 = .ok (.iload_n 3, 1) := by decide +kernel
theorem dX5_aim_40 : decode cX5_aim 40 = .ok (.iload_n 2, 1) := by decide +kernel
theorem dX5_aim_41 : decode cX5_aim 41 = .ok (.iload_n 2, 1) := by decide +kernel
theorem dX5_aim_42 : decode cX5_aim 42 = .ok (.bipush 7, 2) := by decide +kernel
theorem dX5_aim_44 : decode cX5_aim 44 = .ok (.iadd, 1) := by decide +kernel
theorem dX5_aim_45 : decode cX5_aim 45 = .ok (.invokestatic 72, 3) := by decide +kernel
theorem dX5_aim_48 : decode cX5_aim 48 = .ok (.ifCond .eq 7, 3) := by decide +kernel
theorem dX5_aim_51 : decode cX5_aim 51 = .ok (.iconst 0, 1) := by decide +kernel
theorem dX5_aim_52 : decode cX5_aim 52 = .ok (.goto 4, 3) := by decide +kernel
theorem dX5_aim_55 : decode cX5_aim 55 = .ok (.iconst 2, 1) := by decide +kernel
theorem dX5_aim_56 : decode cX5_aim 56 = .ok (.invokevirtual 83, 3) := by decide +kernel
theorem dX5_aim_59 : decode cX5_aim 59 = .ok (.ifCond .eq 17, 3) := by decide +kernel
theorem dX5_aim_62 : decode cX5_aim 62 = .ok (.aload_n 0, 1) := by decide +kernel
theorem dX5_aim_63 : decode cX5_aim 63 = .ok (.getfield 45, 3) := by decide +kernel
theorem dX5_aim_66 : decode cX5_aim 66 = .ok (.iload_n 1, 1) := by decide +kernel
theorem dX5_aim_67 : decode cX5_aim 67 = .ok (.iload_n 2, 1) := by decide +kernel
theorem dX5_aim_68 : decode cX5_aim 68 = .ok (.iastore, 1) := by decide +kernel
theorem dX5_aim_69 : decode cX5_aim 69 = .ok (.aload_n 0, 1) := by decide +kernel
theorem dX5_aim_70 : decode cX5_aim 70 = .ok (.getfield 48, 3) := by decide +kernel
theorem dX5_aim_73 : decode cX5_aim 73 = .ok (.iload_n 1, 1) := by decide +kernel
theorem dX5_aim_74 : decode cX5_aim 74 = .ok (.iload_n 3, 1) := by decide +kernel
theorem dX5_aim_75 : decode cX5_aim 75 = .ok (.iastore, 1) := by decide +kernel
theorem dX5_aim_76 : decode cX5_aim 76 = .ok (.return_, 1) := by decide +kernel
theorem dX5_borne_0 : decode cX5_borne 0 = .ok (.iconst 0, 1) := by decide +kernel
theorem dX5_borne_1 : decode cX5_borne 1 = .ok (.istore_n 2, 1) := by decide +kernel
theorem dX5_borne_2 : decode cX5_borne 2 = .ok (.iconst 0, 1) := by decide +kernel
theorem dX5_borne_3 : decode cX5_borne 3 = .ok (.istore_n 3, 1) := by decide +kernel
theorem dX5_borne_4 : decode cX5_borne 4 = .ok (.iload_n 3, 1) := by decide +kernel
theorem dX5_borne_5 : decode cX5_borne 5 = .ok (.aload_n 0, 1) := by decide +kernel
theorem dX5_borne_6 : decode cX5_borne 6 = .ok (.getfield 80, 3) := by decide +kernel
theorem dX5_borne_9 : decode cX5_borne 9 = .ok (.if_icmp .ge 41, 3) := by decide +kernel
theorem dX5_borne_12 : decode cX5_borne 12 = .ok (.iload_n 2, 1) := by decide +kernel
theorem dX5_borne_13 : decode cX5_borne 13 = .ok (.aload_n 0, 1) := by decide +kernel
theorem dX5_borne_14 : decode cX5_borne 14 = .ok (.getfield 51, 3) := by decide +kernel
theorem dX5_borne_17 : decode cX5_borne 17 = .ok (.iload_n 3, 1) := by decide +kernel
theorem dX5_borne_18 : decode cX5_borne 18 = .ok (.baload, 1) := by decide +kernel
theorem dX5_borne_19 : decode cX5_borne 19 = .ok (.ifCond .eq 22, 3) := by decide +kernel
theorem dX5_borne_22 : decode cX5_borne 22 = .ok (.aload_n 0, 1) := by decide +kernel
theorem dX5_borne_23 : decode cX5_borne 23 = .ok (.getfield 39, 3) := by decide +kernel
theorem dX5_borne_26 : decode cX5_borne 26 = .ok (.iload_n 3, 1) := by decide +kernel
theorem dX5_borne_27 : decode cX5_borne 27 = .ok (.iaload, 1) := by decide +kernel
theorem dX5_borne_28 : decode cX5_borne 28 = .ok (.iload_n 1, 1) := by decide +kernel
theorem dX5_borne_29 : decode cX5_borne 29 = .ok (.if_icmp .ne 12, 3) := by decide +kernel
theorem dX5_borne_32 : decode cX5_borne 32 = .ok (.aload_n 0, 1) := by decide +kernel
theorem dX5_borne_33 : decode cX5_borne 33 = .ok (.getfield 36, 3) := by decide +kernel
theorem dX5_borne_36 : decode cX5_borne 36 = .ok (.iload_n 3, 1) := by decide +kernel
theorem dX5_borne_37 : decode cX5_borne 37 = .ok (.iaload, 1) := by decide +kernel
theorem dX5_borne_38 : decode cX5_borne 38 = .ok (.goto 4, 3) := by decide +kernel
theorem dX5_borne_41 : decode cX5_borne 41 = .ok (.iconst 0, 1) := by decide +kernel
theorem dX5_borne_42 : decode cX5_borne 42 = .ok (.iadd, 1) := by decide +kernel
theorem dX5_borne_43 : decode cX5_borne 43 = .ok (.istore_n 2, 1) := by decide +kernel
theorem dX5_borne_44 : decode cX5_borne 44 = .ok (.iinc 3 1, 3) := by decide +kernel
theorem dX5_borne_47 : decode cX5_borne 47 = .ok (.goto (-43), 3) := by decide +kernel
theorem dX5_borne_50 : decode cX5_borne 50 = .ok (.iload_n 2, 1) := by decide +kernel
theorem dX5_borne_51 : decode cX5_borne 51 = .ok (.ireturn, 1) := by decide +kernel
set_option maxRecDepth 20000 in
theorem ggX5_turn_X5_isProjector : GoodIn wsX5_turn wsX5_isProjector := goodIn_r _ [9, 10, 11, 12, 8, 13, 23, 24, 25, 26, 27, 28, 29, 30, 31, 32, 33, 34, 35, 36, 37, 38, 39, 40, 41, 42, 43, 44, 45, 46, 47, 48, 49, 50, 51, 52] (by decide +kernel) (by decide +kernel)
set_option maxRecDepth 20000 in
theorem gX5_turn_X5_isProjector : GoodIn wsX5_turn (wsV RX5 98 RX5 yX5_isProjector wsX5_isProjector) := goodIn_app (goodIn_of _ (by decide +kernel)) ggX5_turn_X5_isProjector
set_option maxRecDepth 20000 in
theorem ggX5_turn_X5_borne : GoodIn wsX5_turn wsX5_borne := goodIn_r _ [17, 10, 1, 2, 3, 23, 24, 25, 26, 27, 28, 29, 30, 31, 32, 33, 34, 35, 36, 37, 38, 39, 40, 41, 42, 43, 44, 45, 46, 47, 48, 49, 50, 51, 52] (by decide +kernel) (by decide +kernel)
set_option maxRecDepth 20000 in
theorem gX5_turn_X5_borne : GoodIn wsX5_turn (wsV RX5 101 RX5 yX5_borne wsX5_borne) := goodIn_app (goodIn_of _ (by decide +kernel)) ggX5_turn_X5_borne
set_option maxRecDepth 20000 in
theorem ggX5_turn_X5_goesWell : GoodIn wsX5_turn wsX5_goesWell := goodIn_r _ [21, 22, 23, 24, 25, 26, 27, 28, 29, 30, 31, 32, 33, 34, 35, 36, 37, 38, 39, 40, 41, 42, 43, 44, 45, 46, 47, 48, 49, 50, 51, 52] (by decide +kernel) (by decide +kernel)
set_option maxRecDepth 20000 in
theorem gX5_turn_X5_goesWell : GoodIn wsX5_turn (wsV RX5 83 RX5 yX5_goesWell wsX5_goesWell) := goodIn_app (goodIn_of _ (by decide +kernel)) ggX5_turn_X5_goesWell
theorem dX5_turn_0 : decode cX5_turn 0 = .ok (.aload_n 0, 1) := by decide +kernel
theorem dX5_turn_1 : decode cX5_turn 1 = .ok (.iload_n 1, 1) := by decide +kernel
theorem dX5_turn_2 : decode cX5_turn 2 = .ok (.invokevirtual 98, 3) := by decide +kernel
theorem dX5_turn_5 : decode cX5_turn 5 = .ok (.istore_n 3, 1) := by decide +kernel
theorem dX5_turn_6 : decode cX5_turn 6 = .ok (.iload_n 3, 1) := by decide +kernel
theorem dX5_turn_7 : decode cX5_turn 7 = .ok (.ifCond .eq 51, 3) := by decide +kernel
theorem dX5_turn_10 : decode cX5_turn 10 = .ok (.iload_n 2, 1) := by decide +kernel
theorem dX5_turn_11 : decode cX5_turn 11 = .ok (.ifCond .eq 43, 3) := by decide +kernel
theorem dX5_turn_14 : decode cX5_turn 14 = .ok (.aload_n 0, 1) := by decide +kernel
theorem dX5_turn_15 : decode cX5_turn 15 = .ok (.getfield 51, 3) := by decide +kernel
theorem dX5_turn_18 : decode cX5_turn 18 = .ok (.iload_n 1, 1) := by decide +kernel
theorem dX5_turn_19 : decode cX5_turn 19 = .ok (.baload, 1) := by decide +kernel
theorem dX5_turn_20 : decode cX5_turn 20 = .ok (.ifCond .ne 34, 3) := by decide +kernel
theorem dX5_turn_23 : decode cX5_turn 23 = .ok (.aload_n 0, 1) := by decide +kernel
theorem dX5_turn_24 : decode cX5_turn 24 = .ok (.aload_n 0, 1) := by decide +kernel
theorem dX5_turn_25 : decode cX5_turn 25 = .ok (.getfield 39, 3) := by decide +kernel
theorem dX5_turn_28 : decode cX5_turn 28 = .ok (.iload_n 1, 1) := by decide +kernel
theorem dX5_turn_29 : decode cX5_turn 29 = .ok (.iaload, 1) := by decide +kernel
theorem dX5_turn_30 : decode cX5_turn 30 = .ok (.invokevirtual 101, 3) := by decide +kernel
theorem dX5_turn_33 : decode cX5_turn 33 = .ok (.aload_n 0, 1) := by decide +kernel
theorem dX5_turn_34 : decode cX5_turn 34 = .ok (.getfield 36, 3) := by decide +kernel
theorem dX5_turn_37 : decode cX5_turn 37 = .ok (.iload_n 1, 1) := by decide +kernel
theorem dX5_turn_38 : decode cX5_turn 38 = .ok (.iaload, 1) := by decide +kernel
theorem dX5_turn_39 : decode cX5_turn 39 = .ok (.iadd, 1) := by decide +kernel
theorem dX5_turn_40 : decode cX5_turn 40 = .ok (.aload_n 0, 1) := by decide +kernel
theorem dX5_turn_41 : decode cX5_turn 41 = .ok (.getfield 60, 3) := by decide +kernel
theorem dX5_turn_44 : decode cX5_turn 44 = .ok (.aload_n 0, 1) := by decide +kernel
theorem dX5_turn_45 : decode cX5_turn 45 = .ok (.getfield 39, 3) := by decide +kernel
theorem dX5_turn_48 : decode cX5_turn 48 = .ok (.iload_n 1, 1) := by decide +kernel
theorem dX5_turn_49 : decode cX5_turn 49 = .ok (.iaload, 1) := by decide +kernel
theorem dX5_turn_50 : decode cX5_turn 50 = .ok (.iaload, 1) := by decide +kernel
theorem dX5_turn_51 : decode cX5_turn 51 = .ok (.if_icmp .gt 7, 3) := by decide +kernel
theorem dX5_turn_54 : decode cX5_turn 54 = .ok (.iconst 1, 1) := by decide +kernel
theorem dX5_turn_55 : decode cX5_turn 55 = .ok (.goto 4, 3) := by decide +kernel
theorem dX5_turn_58 : decode cX5_turn 58 = .ok (.iconst 0, 1) := by decide +kernel
theorem dX5_turn_59 : decode cX5_turn 59 = .ok (.istore 4, 2) := by decide +kernel
theorem dX5_turn_61 : decode cX5_turn 61 = .ok (.aload_n 0, 1) := by decide +kernel
theorem dX5_turn_62 : decode cX5_turn 62 = .ok (.iload_n 3, 1) := by decide +kernel
theorem dX5_turn_63 : decode cX5_turn 63 = .ok (.ifCond .ne 7, 3) := by decide +kernel
theorem dX5_turn_66 : decode cX5_turn 66 = .ok (.iconst 1, 1) := by decide +kernel
theorem dX5_turn_67 : decode cX5_turn 67 = .ok (.goto 13, 3) := by decide +kernel
theorem dX5_turn_70 : decode cX5_turn 70 = .ok (.iload 4, 2) := by decide +kernel
theorem dX5_turn_72 : decode cX5_turn 72 = .ok (.ifCond .eq 7, 3) := by decide +kernel
theorem dX5_turn_75 : decode cX5_turn 75 = .ok (.iconst 0, 1) := by decide +kernel
theorem dX5_turn_76 : decode cX5_turn 76 = .ok (.goto 4, 3) := by decide +kernel
theorem dX5_turn_79 : decode cX5_turn 79 = .ok (.iconst 2, 1) := by decide +kernel
theorem dX5_turn_80 : decode cX5_turn 80 = .ok (.invokevirtual 83, 3) := by decide +kernel
theorem dX5_turn_83 : decode cX5_turn 83 = .ok (.ifCond .ne 5, 3) := by decide +kernel
theorem dX5_turn_86 : decode cX5_turn 86 = .ok (.iconst 0, 1) := by decide +kernel
theorem dX5_turn_87 : decode cX5_turn 87 = .ok (.ireturn, 1) := by decide +kernel
theorem dX5_turn_88 : decode cX5_turn 88 = .ok (.aload_n 0, 1) := by decide +kernel
theorem dX5_turn_89 : decode cX5_turn 89 = .ok (.getfield 51, 3) := by decide +kernel
theorem dX5_turn_92 : decode cX5_turn 92 = .ok (.iload_n 1, 1) := by decide +kernel
theorem dX5_turn_93 : decode cX5_turn 93 = .ok (.baload, 1) := by decide +kernel
theorem dX5_turn_94 : decode cX5_turn 94 = .ok (.istore 5, 2) := by decide +kernel
theorem dX5_turn_96 : decode cX5_turn 96 = .ok (.aload_n 0, 1) := by decide +kernel
theorem dX5_turn_97 : decode cX5_turn 97 = .ok (.getfield 51, 3) := by decide +kernel
theorem dX5_turn_100 : decode cX5_turn 100 = .ok (.iload_n 1, 1) := by decide +kernel
theorem dX5_turn_101 : decode cX5_turn 101 = .ok (.iload_n 2, 1) := by decide +kernel
theorem dX5_turn_102 : decode cX5_turn 102 = .ok (.bastore, 1) := by decide +kernel
theorem dX5_turn_103 : decode cX5_turn 103 = .ok (.iload 5, 2) := by decide +kernel
theorem dX5_turn_105 : decode cX5_turn 105 = .ok (.ireturn, 1) := by decide +kernel
set_option maxRecDepth 20000 in
theorem ggX5_fail_X5_isProjector : GoodIn wsX5_fail wsX5_isProjector := goodIn_r _ [6, 7, 8, 9, 5, 10, 16, 17, 18, 19, 20, 21, 22, 23, 24, 25, 26, 27, 28, 29, 30, 31, 32, 33, 34, 35, 36, 37, 38, 39, 40, 41, 42, 43, 44, 45] (by decide +kernel) (by decide +kernel)
set_option maxRecDepth 20000 in
theorem gX5_fail_X5_isProjector : GoodIn wsX5_fail (wsV RX5 98 RX5 yX5_isProjector wsX5_isProjector) := goodIn_app (goodIn_of _ (by decide +kernel)) ggX5_fail_X5_isProjector
set_option maxRecDepth 20000 in
theorem ggX5_fail_X5_goesWell : GoodIn wsX5_fail wsX5_goesWell := goodIn_r _ [14, 15, 16, 17, 18, 19, 20, 21, 22, 23, 24, 25, 26, 27, 28, 29, 30, 31, 32, 33, 34, 35, 36, 37, 38, 39, 40, 41, 42, 43, 44, 45] (by decide +kernel) (by decide +kernel)
set_option maxRecDepth 20000 in
theorem gX5_fail_X5_goesWell : GoodIn wsX5_fail (wsV RX5 83 RX5 yX5_goesWell wsX5_goesWell) := goodIn_app (goodIn_of _ (by decide +kernel)) ggX5_fail_X5_goesWell
theorem dX5_fail_0 : decode cX5_fail 0 = .ok (.aload_n 0, 1) := by decide +kernel
theorem dX5_fail_1 : decode cX5_fail 1 = .ok (.aload_n 0, 1) := by decide +kernel
theorem dX5_fail_2 : decode cX5_fail 2 = .ok (.iload_n 1, 1) := by decide +kernel
theorem dX5_fail_3 : decode cX5_fail 3 = .ok (.invokevirtual 98, 3) := by decide +kernel
theorem dX5_fail_6 : decode cX5_fail 6 = .ok (.ifCond .eq 7, 3) := by decide +kernel
theorem dX5_fail_9 : decode cX5_fail 9 = .ok (.iconst 0, 1) := by decide +kernel
theorem dX5_fail_10 : decode cX5_fail 10 = .ok (.goto 4, 3) := by decide +kernel
theorem dX5_fail_13 : decode cX5_fail 13 = .ok (.iconst 1, 1) := by decide +kernel
theorem dX5_fail_14 : decode cX5_fail 14 = .ok (.invokevirtual 83, 3) := by decide +kernel
theorem dX5_fail_17 : decode cX5_fail 17 = .ok (.ifCond .ne 5, 3) := by decide +kernel
theorem dX5_fail_20 : decode cX5_fail 20 = .ok (.iconst 0, 1) := by decide +kernel
theorem dX5_fail_21 : decode cX5_fail 21 = .ok (.ireturn, 1) := by decide +kernel
theorem dX5_fail_22 : decode cX5_fail 22 = .ok (.aload_n 0, 1) := by decide +kernel
theorem dX5_fail_23 : decode cX5_fail 23 = .ok (.getfield 54, 3) := by decide +kernel
theorem dX5_fail_26 : decode cX5_fail 26 = .ok (.iload_n 1, 1) := by decide +kernel
theorem dX5_fail_27 : decode cX5_fail 27 = .ok (.baload, 1) := by decide +kernel
theorem dX5_fail_28 : decode cX5_fail 28 = .ok (.istore_n 3, 1) := by decide +kernel
theorem dX5_fail_29 : decode cX5_fail 29 = .ok (.aload_n 0, 1) := by decide +kernel
theorem dX5_fail_30 : decode cX5_fail 30 = .ok (.getfield 54, 3) := by decide +kernel
theorem dX5_fail_33 : decode cX5_fail 33 = .ok (.iload_n 1, 1) := by decide +kernel
theorem dX5_fail_34 : decode cX5_fail 34 = .ok (.iload_n 2, 1) := by decide +kernel
theorem dX5_fail_35 : decode cX5_fail 35 = .ok (.bastore, 1) := by decide +kernel
theorem dX5_fail_36 : decode cX5_fail 36 = .ok (.iload_n 3, 1) := by decide +kernel
theorem dX5_fail_37 : decode cX5_fail 37 = .ok (.ireturn, 1) := by decide +kernel
set_option maxRecDepth 20000 in
theorem ggX5_phase_X5_in : GoodIn wsX5_phase wsX5_in := goodIn_r _ [6] (by decide +kernel) (by decide +kernel)
set_option maxRecDepth 20000 in
theorem gX5_phase_X5_in : GoodIn wsX5_phase (va_wsS RX5 72 yX5_in wsX5_in) := goodIn_app (goodIn_of _ (by decide +kernel)) ggX5_phase_X5_in
set_option maxRecDepth 20000 in
theorem ggX5_phase_X5_goesWell : GoodIn wsX5_phase wsX5_goesWell := goodIn_r _ [10, 11, 12, 13, 14, 15, 16, 17, 18, 19, 20, 21, 22, 23, 24, 25, 26, 27, 28, 29, 30, 31, 32, 33, 34, 35, 36, 37, 38, 39, 40, 41] (by decide +kernel) (by decide +kernel)
set_option maxRecDepth 20000 in
theorem gX5_phase_X5_goesWell : GoodIn wsX5_phase (wsV RX5 83 RX5 yX5_goesWell wsX5_goesWell) := goodIn_app (goodIn_of _ (by decide +kernel)) ggX5_phase_X5_goesWell
theorem dX5_phase_0 : decode cX5_phase 0 = .ok (.aload_n 0, 1) := by decide +kernel
theorem dX5_phase_1 : decode cX5_phase 1 = .ok (.iload_n 1, 1) := by decide +kernel
theorem dX5_phase_2 : decode cX5_phase 2 = .ok (.iconst 0, 1) := by decide +kernel
theorem dX5_phase_3 : decode cX5_phase 3 = .ok (.iconst 2, 1) := by decide +kernel
theorem dX5_phase_4 : decode cX5_phase 4 = .ok (.invokestatic 72, 3) := by decide +kernel
theorem dX5_phase_7 : decode cX5_phase 7 = .ok (.ifCond .eq 17, 3) := by decide +kernel
theorem dX5_phase_10 : decode cX5_phase 10 = .ok (.iload_n 2, 1) := by decide +kernel
theorem dX5_phase_11 : decode cX5_phase 11 = .ok (.iconst 0, 1) := by decide +kernel
theorem dX5_phase_12 : decode cX5_phase 12 = .ok (.ldc 105, 2) := by decide +kernel
theorem dX5_phase_14 : decode cX5_phase 14 = .ok (.invokestatic 72, 3) := by decide +kernel
theorem dX5_phase_17 : decode cX5_phase 17 = .ok (.ifCond .eq 7, 3) := by decide +kernel
theorem dX5_phase_20 : decode cX5_phase 20 = .ok (.iconst 0, 1) := by decide +kernel
theorem dX5_phase_21 : decode cX5_phase 21 = .ok (.goto 4, 3) := by decide +kernel
theorem dX5_phase_24 : decode cX5_phase 24 = .ok (.iconst 1, 1) := by decide +kernel
theorem dX5_phase_25 : decode cX5_phase 25 = .ok (.invokevirtual 83, 3) := by decide +kernel
theorem dX5_phase_28 : decode cX5_phase 28 = .ok (.ifCond .ne 5, 3) := by decide +kernel
theorem dX5_phase_31 : decode cX5_phase 31 = .ok (.iconst 0, 1) := by decide +kernel
theorem dX5_phase_32 : decode cX5_phase 32 = .ok (.ireturn, 1) := by decide +kernel
theorem dX5_phase_33 : decode cX5_phase 33 = .ok (.aload_n 0, 1) := by decide +kernel
theorem dX5_phase_34 : decode cX5_phase 34 = .ok (.getfield 60, 3) := by decide +kernel
theorem dX5_phase_37 : decode cX5_phase 37 = .ok (.iload_n 1, 1) := by decide +kernel
theorem dX5_phase_38 : decode cX5_phase 38 = .ok (.iaload, 1) := by decide +kernel
theorem dX5_phase_39 : decode cX5_phase 39 = .ok (.istore_n 3, 1) := by decide +kernel
theorem dX5_phase_40 : decode cX5_phase 40 = .ok (.aload_n 0, 1) := by decide +kernel
theorem dX5_phase_41 : decode cX5_phase 41 = .ok (.getfield 60, 3) := by decide +kernel
theorem dX5_phase_44 : decode cX5_phase 44 = .ok (.iload_n 1, 1) := by decide +kernel
theorem dX5_phase_45 : decode cX5_phase 45 = .ok (.iload_n 2, 1) := by decide +kernel
theorem dX5_phase_46 : decode cX5_phase 46 = .ok (.iastore, 1) := by decide +kernel
theorem dX5_phase_47 : decode cX5_phase 47 = .ok (.iload_n 3, 1) := by decide +kernel
theorem dX5_phase_48 : decode cX5_phase 48 = .ok (.ireturn, 1) := by decide +kernel
set_option maxRecDepth 20000 in
theorem ggX5_wind_X5_in : GoodIn wsX5_wind wsX5_in := goodIn_r _ [5] (by decide +kernel) (by decide +kernel)
set_option maxRecDepth 20000 in
theorem gX5_wind_X5_in : GoodIn wsX5_wind (va_wsS RX5 72 yX5_in wsX5_in) := goodIn_app (goodIn_of _ (by decide +kernel)) ggX5_wind_X5_in
set_option maxRecDepth 20000 in
theorem ggX5_wind_X5_goesWell : GoodIn wsX5_wind wsX5_goesWell := goodIn_r _ [9, 10, 11, 12, 13, 14, 15, 16, 17, 18, 19, 20, 21, 22, 23, 24, 25, 26, 27, 28, 29, 30, 31, 32, 33, 34, 35, 36, 37, 38, 39, 40] (by decide +kernel) (by decide +kernel)
set_option maxRecDepth 20000 in
theorem gX5_wind_X5_goesWell : GoodIn wsX5_wind (wsV RX5 83 RX5 yX5_goesWell wsX5_goesWell) := goodIn_app (goodIn_of _ (by decide +kernel)) ggX5_wind_X5_goesWell
theorem dX5_wind_0 : decode cX5_wind 0 = .ok (.aload_n 0, 1) := by decide +kernel
theorem dX5_wind_1 : decode cX5_wind 1 = .ok (.iload_n 1, 1) := by decide +kernel
theorem dX5_wind_2 : decode cX5_wind 2 = .ok (.iconst 0, 1) := by decide +kernel
theorem dX5_wind_3 : decode cX5_wind 3 = .ok (.bipush 8, 2) := by decide +kernel
theorem dX5_wind_5 : decode cX5_wind 5 = .ok (.invokestatic 72, 3) := by decide +kernel
theorem dX5_wind_8 : decode cX5_wind 8 = .ok (.ifCond .eq 7, 3) := by decide +kernel
theorem dX5_wind_11 : decode cX5_wind 11 = .ok (.iconst 0, 1) := by decide +kernel
theorem dX5_wind_12 : decode cX5_wind 12 = .ok (.goto 4, 3) := by decide +kernel
theorem dX5_wind_15 : decode cX5_wind 15 = .ok (.iconst 1, 1) := by decide +kernel
theorem dX5_wind_16 : decode cX5_wind 16 = .ok (.invokevirtual 83, 3) := by decide +kernel
theorem dX5_wind_19 : decode cX5_wind 19 = .ok (.ifCond .ne 5, 3) := by decide +kernel
theorem dX5_wind_22 : decode cX5_wind 22 = .ok (.iconst 0, 1) := by decide +kernel
theorem dX5_wind_23 : decode cX5_wind 23 = .ok (.ireturn, 1) := by decide +kernel
theorem dX5_wind_24 : decode cX5_wind 24 = .ok (.aload_n 0, 1) := by decide +kernel
theorem dX5_wind_25 : decode cX5_wind 25 = .ok (.getfield 106, 3) := by decide +kernel
theorem dX5_wind_28 : decode cX5_wind 28 = .ok (.istore_n 2, 1) := by decide +kernel
theorem dX5_wind_29 : decode cX5_wind 29 = .ok (.aload_n 0, 1) := by decide +kernel
theorem dX5_wind_30 : decode cX5_wind 30 = .ok (.iload_n 1, 1) := by decide +kernel
theorem dX5_wind_31 : decode cX5_wind 31 = .ok (.putfield 106, 3) := by decide +kernel
theorem dX5_wind_34 : decode cX5_wind 34 = .ok (.iload_n 2, 1) := by decide +kernel
theorem dX5_wind_35 : decode cX5_wind 35 = .ok (.ireturn, 1) := by decide +kernel
theorem dX5_cross_0 : decode cX5_cross 0 = .ok (.aload_n 0, 1) := by decide +kernel
theorem dX5_cross_1 : decode cX5_cross 1 = .ok (.getfield 33, 3) := by decide +kernel
theorem dX5_cross_4 : decode cX5_cross 4 = .ok (.iload_n 1, 1) := by decide +kernel
theorem dX5_cross_5 : decode cX5_cross 5 = .ok (.iaload, 1) := by decide +kernel
theorem dX5_cross_6 : decode cX5_cross 6 = .ok (.aload_n 0, 1) := by decide +kernel
theorem dX5_cross_7 : decode cX5_cross 7 = .ok (.getfield 7, 3) := by decide +kernel
theorem dX5_cross_10 : decode cX5_cross 10 = .ok (.iload_n 2, 1) := by decide +kernel
theorem dX5_cross_11 : decode cX5_cross 11 = .ok (.iaload, 1) := by decide +kernel
theorem dX5_cross_12 : decode cX5_cross 12 = .ok (.isub, 1) := by decide +kernel
theorem dX5_cross_13 : decode cX5_cross 13 = .ok (.istore 4, 2) := by decide +kernel
theorem dX5_cross_15 : decode cX5_cross 15 = .ok (.aload_n 0, 1) := by decide +kernel
theorem dX5_cross_16 : decode cX5_cross 16 = .ok (.getfield 30, 3) := by decide +kernel
theorem dX5_cross_19 : decode cX5_cross 19 = .ok (.iload_n 1, 1) := by decide +kernel
theorem dX5_cross_20 : decode cX5_cross 20 = .ok (.iaload, 1) := by decide +kernel
theorem dX5_cross_21 : decode cX5_cross 21 = .ok (.iload 4, 2) := by decide +kernel
theorem dX5_cross_23 : decode cX5_cross 23 = .ok (.imul, 1) := by decide +kernel
theorem dX5_cross_24 : decode cX5_cross 24 = .ok (.iload_n 2, 1) := by decide +kernel
theorem dX5_cross_25 : decode cX5_cross 25 = .ok (.aload_n 0, 1) := by decide +kernel
theorem dX5_cross_26 : decode cX5_cross 26 = .ok (.getfield 30, 3) := by decide +kernel
theorem dX5_cross_29 : decode cX5_cross 29 = .ok (.iload_n 1, 1) := by decide +kernel
theorem dX5_cross_30 : decode cX5_cross 30 = .ok (.iaload, 1) := by decide +kernel
theorem dX5_cross_31 : decode cX5_cross 31 = .ok (.isub, 1) := by decide +kernel
theorem dX5_cross_32 : decode cX5_cross 32 = .ok (.aload_n 0, 1) := by decide +kernel
theorem dX5_cross_33 : decode cX5_cross 33 = .ok (.getfield 33, 3) := by decide +kernel
theorem dX5_cross_36 : decode cX5_cross 36 = .ok (.iload_n 1, 1) := by decide +kernel
theorem dX5_cross_37 : decode cX5_cross 37 = .ok (.iaload, 1) := by decide +kernel
theorem dX5_cross_38 : decode cX5_cross 38 = .ok (.iload_n 3, 1) := by decide +kernel
theorem dX5_cross_39 : decode cX5_cross 39 = .ok (.isub, 1) := by decide +kernel
theorem dX5_cross_40 : decode cX5_cross 40 = .ok (.imul, 1) := by decide +kernel
theorem dX5_cross_41 : decode cX5_cross 41 = .ok (.iadd, 1) := by decide +kernel
theorem dX5_cross_42 : decode cX5_cross 42 = .ok (.istore 5, 2) := by decide +kernel
theorem dX5_cross_44 : decode cX5_cross 44 = .ok (.iconst 2, 1) := by decide +kernel
theorem dX5_cross_45 : decode cX5_cross 45 = .ok (.iload 5, 2) := by decide +kernel
theorem dX5_cross_47 : decode cX5_cross 47 = .ok (.imul, 1) := by decide +kernel
theorem dX5_cross_48 : decode cX5_cross 48 = .ok (.iload 4, 2) := by decide +kernel
theorem dX5_cross_50 : decode cX5_cross 50 = .ok (.iadd, 1) := by decide +kernel
theorem dX5_cross_51 : decode cX5_cross 51 = .ok (.iconst 2, 1) := by decide +kernel
theorem dX5_cross_52 : decode cX5_cross 52 = .ok (.iload 4, 2) := by decide +kernel
theorem dX5_cross_54 : decode cX5_cross 54 = .ok (.imul, 1) := by decide +kernel
theorem dX5_cross_55 : decode cX5_cross 55 = .ok (.idiv, 1) := by decide +kernel
theorem dX5_cross_56 : decode cX5_cross 56 = .ok (.ireturn, 1) := by decide +kernel
set_option maxRecDepth 20000 in
theorem ggX5_through_X5_isProjector : GoodIn wsX5_through wsX5_isProjector := goodIn_r _ [7, 8, 9, 10, 6, 11, 25, 26, 27, 28, 29, 30, 31, 32, 33, 34, 35, 36, 37, 38, 39, 40, 41, 42, 43, 44, 45, 46, 47, 48, 49, 50, 51, 52, 53, 54] (by decide +kernel) (by decide +kernel)
set_option maxRecDepth 20000 in
theorem gX5_through_X5_isProjector : GoodIn wsX5_through (wsV RX5 98 RX5 yX5_isProjector wsX5_isProjector) := goodIn_app (goodIn_of _ (by decide +kernel)) ggX5_through_X5_isProjector
set_option maxRecDepth 20000 in
theorem ggX5_through_X5_isColumn : GoodIn wsX5_through wsX5_isColumn := goodIn_r _ [14, 9, 10, 6, 11] (by decide +kernel) (by decide +kernel)
set_option maxRecDepth 20000 in
theorem gX5_through_X5_isColumn : GoodIn wsX5_through (va_wsS RX5 76 yX5_isColumn wsX5_isColumn) := goodIn_app (goodIn_of _ (by decide +kernel)) ggX5_through_X5_isColumn
set_option maxRecDepth 20000 in
theorem ggX5_through_X5_in : GoodIn wsX5_through wsX5_in := goodIn_r _ [11] (by decide +kernel) (by decide +kernel)
set_option maxRecDepth 20000 in
theorem gX5_through_X5_in : GoodIn wsX5_through (va_wsS RX5 72 yX5_in wsX5_in) := goodIn_app (goodIn_of _ (by decide +kernel)) ggX5_through_X5_in
set_option maxRecDepth 20000 in
theorem ggX5_through_X5_goesWell : GoodIn wsX5_through wsX5_goesWell := goodIn_r _ [18, 19, 25, 26, 27, 28, 29, 30, 31, 32, 33, 34, 35, 36, 37, 38, 39, 40, 41, 42, 43, 44, 45, 46, 47, 48, 49, 50, 51, 52, 53, 54] (by decide +kernel) (by decide +kernel)
set_option maxRecDepth 20000 in
theorem gX5_through_X5_goesWell : GoodIn wsX5_through (wsV RX5 83 RX5 yX5_goesWell wsX5_goesWell) := goodIn_app (goodIn_of _ (by decide +kernel)) ggX5_through_X5_goesWell
set_option maxRecDepth 20000 in
theorem ggX5_through_X5_cross : GoodIn wsX5_through wsX5_cross := goodIn_r _ [23, 2, 1, 24, 25, 26, 27, 28, 29, 30, 31, 32, 33, 34, 35, 36, 37, 38, 39, 40, 41, 42, 43, 44, 45, 46, 47, 48, 49, 50, 51, 52, 53, 54] (by decide +kernel) (by decide +kernel)
set_option maxRecDepth 20000 in
theorem gX5_through_X5_cross : GoodIn wsX5_through (wsV RX5 109 RX5 yX5_cross wsX5_cross) := goodIn_app (goodIn_of _ (by decide +kernel)) ggX5_through_X5_cross
theorem dX5_through_0 : decode cX5_through 0 = .ok (.aload_n 0, 1) := by decide +kernel
theorem dX5_through_1 : decode cX5_through 1 = .ok (.aload_n 0, 1) := by decide +kernel
theorem dX5_through_2 : decode cX5_through 2 = .ok (.iload_n 1, 1) := by decide +kernel
theorem dX5_through_3 : decode cX5_through 3 = .ok (.invokevirtual 98, 3) := by decide +kernel
theorem dX5_through_6 : decode cX5_through 6 = .ok (.ifCond .eq 24, 3) := by decide +kernel
theorem dX5_through_9 : decode cX5_through 9 = .ok (.iload_n 2, 1) := by decide +kernel
theorem dX5_through_10 : decode cX5_through 10 = .ok (.invokestatic 76, 3) := by decide +kernel
theorem dX5_through_13 : decode cX5_through 13 = .ok (.ifCond .eq 17, 3) := by decide +kernel
theorem dX5_through_16 : decode cX5_through 16 = .ok (.iload_n 3, 1) := by decide +kernel
theorem dX5_through_17 : decode cX5_through 17 = .ok (.iconst 0, 1) := by decide +kernel
theorem dX5_through_18 : decode cX5_through 18 = .ok (.bipush 11, 2) := by decide +kernel
theorem dX5_through_20 : decode cX5_through 20 = .ok (.invokestatic 72, 3) := by decide +kernel
theorem dX5_through_23 : decode cX5_through 23 = .ok (.ifCond .eq 7, 3) := by decide +kernel
theorem dX5_through_26 : decode cX5_through 26 = .ok (.iconst 0, 1) := by decide +kernel
theorem dX5_through_27 : decode cX5_through 27 = .ok (.goto 4, 3) := by decide +kernel
theorem dX5_through_30 : decode cX5_through 30 = .ok (.iconst 1, 1) := by decide +kernel
theorem dX5_through_31 : decode cX5_through 31 = .ok (.invokevirtual 83, 3) := by decide +kernel
theorem dX5_through_34 : decode cX5_through 34 = .ok (.ifCond .ne 5, 3) := by decide +kernel
theorem dX5_through_37 : decode cX5_through 37 = .ok (.iconst 0, 1) := by decide +kernel
theorem dX5_through_38 : decode cX5_through 38 = .ok (.ireturn, 1) := by decide +kernel
theorem dX5_through_39 : decode cX5_through 39 = .ok (.iload_n 3, 1) := by decide +kernel
theorem dX5_through_40 : decode cX5_through 40 = .ok (.aload_n 0, 1) := by decide +kernel
theorem dX5_through_41 : decode cX5_through 41 = .ok (.getfield 7, 3) := by decide +kernel
theorem dX5_through_44 : decode cX5_through 44 = .ok (.iload_n 2, 1) := by decide +kernel
theorem dX5_through_45 : decode cX5_through 45 = .ok (.iaload, 1) := by decide +kernel
theorem dX5_through_46 : decode cX5_through 46 = .ok (.if_icmp .le 23, 3) := by decide +kernel
theorem dX5_through_49 : decode cX5_through 49 = .ok (.iload_n 3, 1) := by decide +kernel
theorem dX5_through_50 : decode cX5_through 50 = .ok (.aload_n 0, 1) := by decide +kernel
theorem dX5_through_51 : decode cX5_through 51 = .ok (.getfield 33, 3) := by decide +kernel
theorem dX5_through_54 : decode cX5_through 54 = .ok (.iload_n 1, 1) := by decide +kernel
theorem dX5_through_55 : decode cX5_through 55 = .ok (.iaload, 1) := by decide +kernel
theorem dX5_through_56 : decode cX5_through 56 = .ok (.if_icmp .ge 13, 3) := by decide +kernel
theorem dX5_through_59 : decode cX5_through 59 = .ok (.aload_n 0, 1) := by decide +kernel
theorem dX5_through_60 : decode cX5_through 60 = .ok (.iload_n 1, 1) := by decide +kernel
theorem dX5_through_61 : decode cX5_through 61 = .ok (.iload_n 2, 1) := by decide +kernel
theorem dX5_through_62 : decode cX5_through 62 = .ok (.iload_n 3, 1) := by decide +kernel
theorem dX5_through_63 : decode cX5_through 63 = .ok (.invokevirtual 109, 3) := by decide +kernel
theorem dX5_through_66 : decode cX5_through 66 = .ok (.goto 4, 3) := by decide +kernel
theorem dX5_through_69 : decode cX5_through 69 = .ok (.iconst (-1), 1) := by decide +kernel
theorem dX5_through_70 : decode cX5_through 70 = .ok (.ireturn, 1) := by decide +kernel
set_option maxRecDepth 20000 in
theorem ggX5_isBlocked_X5_cross : GoodIn wsX5_isBlocked wsX5_cross := goodIn_r _ [9, 2, 1, 10, 14, 15, 16, 17, 18, 19, 20, 21, 22, 23, 24, 25, 26, 27, 28, 29, 30, 31, 32, 33, 34, 35, 36, 37, 38, 39, 40, 41, 42, 43] (by decide +kernel) (by decide +kernel)
set_option maxRecDepth 20000 in
theorem gX5_isBlocked_X5_cross : GoodIn wsX5_isBlocked (wsV RX5 109 RX5 yX5_cross wsX5_cross) := goodIn_app (goodIn_of _ (by decide +kernel)) ggX5_isBlocked_X5_cross
set_option maxRecDepth 20000 in
theorem ggX5_isBlocked_X5_at : GoodIn wsX5_isBlocked wsX5_at := goodIn_r _ [13] (by decide +kernel) (by decide +kernel)
set_option maxRecDepth 20000 in
theorem gX5_isBlocked_X5_at : GoodIn wsX5_isBlocked (va_wsS RX5 90 yX5_at wsX5_at) := goodIn_app (goodIn_of _ (by decide +kernel)) ggX5_isBlocked_X5_at
theorem dX5_isBlocked_0 : decode cX5_isBlocked 0 = .ok (.iconst 0, 1) := by decide +kernel
theorem dX5_isBlocked_1 : decode cX5_isBlocked 1 = .ok (.istore_n 3, 1) := by decide +kernel
theorem dX5_isBlocked_2 : decode cX5_isBlocked 2 = .ok (.aload_n 0, 1) := by decide +kernel
theorem dX5_isBlocked_3 : decode cX5_isBlocked 3 = .ok (.getfield 7, 3) := by decide +kernel
theorem dX5_isBlocked_6 : decode cX5_isBlocked 6 = .ok (.iload_n 2, 1) := by decide +kernel
theorem dX5_isBlocked_7 : decode cX5_isBlocked 7 = .ok (.iaload, 1) := by decide +kernel
theorem dX5_isBlocked_8 : decode cX5_isBlocked 8 = .ok (.iconst 1, 1) := by decide +kernel
theorem dX5_isBlocked_9 : decode cX5_isBlocked 9 = .ok (.iadd, 1) := by decide +kernel
theorem dX5_isBlocked_10 : decode cX5_isBlocked 10 = .ok (.istore 4, 2) := by decide +kernel
theorem dX5_isBlocked_12 : decode cX5_isBlocked 12 = .ok (.iload 4, 2) := by decide +kernel
theorem dX5_isBlocked_14 : decode cX5_isBlocked 14 = .ok (.aload_n 0, 1) := by decide +kernel
theorem dX5_isBlocked_15 : decode cX5_isBlocked 15 = .ok (.getfield 33, 3) := by decide +kernel
theorem dX5_isBlocked_18 : decode cX5_isBlocked 18 = .ok (.iload_n 1, 1) := by decide +kernel
theorem dX5_isBlocked_19 : decode cX5_isBlocked 19 = .ok (.iaload, 1) := by decide +kernel
theorem dX5_isBlocked_20 : decode cX5_isBlocked 20 = .ok (.if_icmp .ge 72, 3) := by decide +kernel
theorem dX5_isBlocked_23 : decode cX5_isBlocked 23 = .ok (.aload_n 0, 1) := by decide +kernel
theorem dX5_isBlocked_24 : decode cX5_isBlocked 24 = .ok (.iload_n 1, 1) := by decide +kernel
theorem dX5_isBlocked_25 : decode cX5_isBlocked 25 = .ok (.iload_n 2, 1) := by decide +kernel
theorem dX5_isBlocked_26 : decode cX5_isBlocked 26 = .ok (.iload 4, 2) := by decide +kernel
theorem dX5_isBlocked_28 : decode cX5_isBlocked 28 = .ok (.invokevirtual 109, 3) := by decide +kernel
theorem dX5_isBlocked_31 : decode cX5_isBlocked 31 = .ok (.istore 5, 2) := by decide +kernel
theorem dX5_isBlocked_33 : decode cX5_isBlocked 33 = .ok (.iload_n 3, 1) := by decide +kernel
theorem dX5_isBlocked_34 : decode cX5_isBlocked 34 = .ok (.ifCond .ne 46, 3) := by decide +kernel
theorem dX5_isBlocked_37 : decode cX5_isBlocked 37 = .ok (.iload 4, 2) := by decide +kernel
theorem dX5_isBlocked_39 : decode cX5_isBlocked 39 = .ok (.aload_n 0, 1) := by decide +kernel
theorem dX5_isBlocked_40 : decode cX5_isBlocked 40 = .ok (.getfield 7, 3) := by decide +kernel
theorem dX5_isBlocked_43 : decode cX5_isBlocked 43 = .ok (.iload 5, 2) := by decide +kernel
theorem dX5_isBlocked_45 : decode cX5_isBlocked 45 = .ok (.iaload, 1) := by decide +kernel
theorem dX5_isBlocked_46 : decode cX5_isBlocked 46 = .ok (.if_icmp .lt 34, 3) := by decide +kernel
theorem dX5_isBlocked_49 : decode cX5_isBlocked 49 = .ok (.aload_n 0, 1) := by decide +kernel
theorem dX5_isBlocked_50 : decode cX5_isBlocked 50 = .ok (.getfield 19, 3) := by decide +kernel
theorem dX5_isBlocked_53 : decode cX5_isBlocked 53 = .ok (.iload 5, 2) := by decide +kernel
theorem dX5_isBlocked_55 : decode cX5_isBlocked 55 = .ok (.iload 4, 2) := by decide +kernel
theorem dX5_isBlocked_57 : decode cX5_isBlocked 57 = .ok (.invokestatic 90, 3) := by decide +kernel
theorem dX5_isBlocked_60 : decode cX5_isBlocked 60 = .ok (.iaload, 1) := by decide +kernel
theorem dX5_isBlocked_61 : decode cX5_isBlocked 61 = .ok (.iconst 1, 1) := by decide +kernel
theorem dX5_isBlocked_62 : decode cX5_isBlocked 62 = .ok (.if_icmp .eq 18, 3) := by decide +kernel
theorem dX5_isBlocked_65 : decode cX5_isBlocked 65 = .ok (.aload_n 0, 1) := by decide +kernel
theorem dX5_isBlocked_66 : decode cX5_isBlocked 66 = .ok (.getfield 22, 3) := by decide +kernel
theorem dX5_isBlocked_69 : decode cX5_isBlocked 69 = .ok (.iload 5, 2) := by decide +kernel
theorem dX5_isBlocked_71 : decode cX5_isBlocked 71 = .ok (.iload 4, 2) := by decide +kernel
theorem dX5_isBlocked_73 : decode cX5_isBlocked 73 = .ok (.invokestatic 90, 3) := by decide +kernel
theorem dX5_isBlocked_76 : decode cX5_isBlocked 76 = .ok (.baload, 1) := by decide +kernel
theorem dX5_isBlocked_77 : decode cX5_isBlocked 77 = .ok (.ifCond .eq 7, 3) := by decide +kernel
theorem dX5_isBlocked_80 : decode cX5_isBlocked 80 = .ok (.iconst 1, 1) := by decide +kernel
theorem dX5_isBlocked_81 : decode cX5_isBlocked 81 = .ok (.goto 4, 3) := by decide +kernel
theorem dX5_isBlocked_84 : decode cX5_isBlocked 84 = .ok (.iconst 0, 1) := by decide +kernel
theorem dX5_isBlocked_85 : decode cX5_isBlocked 85 = .ok (.istore_n 3, 1) := by decide +kernel
theorem dX5_isBlocked_86 : decode cX5_isBlocked 86 = .ok (.iinc 4 1, 3) := by decide +kernel
theorem dX5_isBlocked_89 : decode cX5_isBlocked 89 = .ok (.goto (-77), 3) := by decide +kernel
theorem dX5_isBlocked_92 : decode cX5_isBlocked 92 = .ok (.iload_n 3, 1) := by decide +kernel
theorem dX5_isBlocked_93 : decode cX5_isBlocked 93 = .ok (.ireturn, 1) := by decide +kernel
set_option maxRecDepth 20000 in
theorem ggX5_covers_X5_in : GoodIn wsX5_covers wsX5_in := goodIn_r _ [7] (by decide +kernel) (by decide +kernel)
set_option maxRecDepth 20000 in
theorem gX5_covers_X5_in : GoodIn wsX5_covers (va_wsS RX5 72 yX5_in wsX5_in) := goodIn_app (goodIn_of _ (by decide +kernel)) ggX5_covers_X5_in
theorem dX5_covers_0 : decode cX5_covers 0 = .ok (.aload_n 0, 1) := by decide +kernel
theorem dX5_covers_1 : decode cX5_covers 1 = .ok (.getfield 106, 3) := by decide +kernel
theorem dX5_covers_4 : decode cX5_covers 4 = .ok (.iconst 3, 1) := by decide +kernel
theorem dX5_covers_5 : decode cX5_covers 5 = .ok (.if_icmp .le 12, 3) := by decide +kernel
theorem dX5_covers_8 : decode cX5_covers 8 = .ok (.aload_n 0, 1) := by decide +kernel
theorem dX5_covers_9 : decode cX5_covers 9 = .ok (.getfield 106, 3) := by decide +kernel
theorem dX5_covers_12 : decode cX5_covers 12 = .ok (.iconst 3, 1) := by decide +kernel
theorem dX5_covers_13 : decode cX5_covers 13 = .ok (.isub, 1) := by decide +kernel
theorem dX5_covers_14 : decode cX5_covers 14 = .ok (.goto 4, 3) := by decide +kernel
theorem dX5_covers_17 : decode cX5_covers 17 = .ok (.iconst 0, 1) := by decide +kernel
theorem dX5_covers_18 : decode cX5_covers 18 = .ok (.istore_n 3, 1) := by decide +kernel
theorem dX5_covers_19 : decode cX5_covers 19 = .ok (.aload_n 0, 1) := by decide +kernel
theorem dX5_covers_20 : decode cX5_covers 20 = .ok (.getfield 48, 3) := by decide +kernel
theorem dX5_covers_23 : decode cX5_covers 23 = .ok (.iload_n 1, 1) := by decide +kernel
theorem dX5_covers_24 : decode cX5_covers 24 = .ok (.iaload, 1) := by decide +kernel
theorem dX5_covers_25 : decode cX5_covers 25 = .ok (.iconst (-1), 1) := by decide +kernel
theorem dX5_covers_26 : decode cX5_covers 26 = .ok (.if_icmp .eq 28, 3) := by decide +kernel
theorem dX5_covers_29 : decode cX5_covers 29 = .ok (.iload_n 2, 1) := by decide +kernel
theorem dX5_covers_30 : decode cX5_covers 30 = .ok (.iload_n 3, 1) := by decide +kernel
theorem dX5_covers_31 : decode cX5_covers 31 = .ok (.isub, 1) := by decide +kernel
theorem dX5_covers_32 : decode cX5_covers 32 = .ok (.aload_n 0, 1) := by decide +kernel
theorem dX5_covers_33 : decode cX5_covers 33 = .ok (.getfield 45, 3) := by decide +kernel
theorem dX5_covers_36 : decode cX5_covers 36 = .ok (.iload_n 1, 1) := by decide +kernel
theorem dX5_covers_37 : decode cX5_covers 37 = .ok (.iaload, 1) := by decide +kernel
theorem dX5_covers_38 : decode cX5_covers 38 = .ok (.aload_n 0, 1) := by decide +kernel
theorem dX5_covers_39 : decode cX5_covers 39 = .ok (.getfield 48, 3) := by decide +kernel
theorem dX5_covers_42 : decode cX5_covers 42 = .ok (.iload_n 1, 1) := by decide +kernel
theorem dX5_covers_43 : decode cX5_covers 43 = .ok (.iaload, 1) := by decide +kernel
theorem dX5_covers_44 : decode cX5_covers 44 = .ok (.invokestatic 72, 3) := by decide +kernel
theorem dX5_covers_47 : decode cX5_covers 47 = .ok (.ifCond .eq 7, 3) := by decide +kernel
theorem dX5_covers_50 : decode cX5_covers 50 = .ok (.iconst 1, 1) := by decide +kernel
theorem dX5_covers_51 : decode cX5_covers 51 = .ok (.goto 4, 3) := by decide +kernel
theorem dX5_covers_54 : decode cX5_covers 54 = .ok (.iconst 0, 1) := by decide +kernel
theorem dX5_covers_55 : decode cX5_covers 55 = .ok (.ireturn, 1) := by decide +kernel
set_option maxRecDepth 20000 in
theorem ggX5_lightOf_X5_covers : GoodIn wsX5_lightOf wsX5_covers := goodIn_r _ [11, 12, 13, 14, 15, 16, 10, 17, 31, 32, 33, 34, 35, 36, 37, 38, 39, 40, 41, 42, 43, 44, 45, 46, 47, 48, 49, 50, 51, 52, 53, 54, 55, 56, 57, 58, 59, 60] (by decide +kernel) (by decide +kernel)
set_option maxRecDepth 20000 in
theorem gX5_lightOf_X5_covers : GoodIn wsX5_lightOf (wsV RX5 113 RX5 yX5_covers wsX5_covers) := goodIn_app (goodIn_of _ (by decide +kernel)) ggX5_lightOf_X5_covers
set_option maxRecDepth 20000 in
theorem ggX5_lightOf_X5_isBlocked : GoodIn wsX5_lightOf wsX5_isBlocked := goodIn_r _ [21, 3, 2, 22, 23, 24, 25, 26, 10, 27, 1, 28, 29, 30, 31, 32, 33, 34, 35, 36, 37, 38, 39, 40, 41, 42, 43, 44, 45, 46, 47, 48, 49, 50, 51, 52, 53, 54, 55, 56, 57, 58, 59, 60] (by decide +kernel) (by decide +kernel)
set_option maxRecDepth 20000 in
theorem gX5_lightOf_X5_isBlocked : GoodIn wsX5_lightOf (wsV RX5 116 RX5 yX5_isBlocked wsX5_isBlocked) := goodIn_app (goodIn_of _ (by decide +kernel)) ggX5_lightOf_X5_isBlocked
theorem dX5_lightOf_0 : decode cX5_lightOf 0 = .ok (.aload_n 0, 1) := by decide +kernel
theorem dX5_lightOf_1 : decode cX5_lightOf 1 = .ok (.iload_n 1, 1) := by decide +kernel
theorem dX5_lightOf_2 : decode cX5_lightOf 2 = .ok (.iload_n 2, 1) := by decide +kernel
theorem dX5_lightOf_3 : decode cX5_lightOf 3 = .ok (.invokevirtual 113, 3) := by decide +kernel
theorem dX5_lightOf_6 : decode cX5_lightOf 6 = .ok (.ifCond .eq 12, 3) := by decide +kernel
theorem dX5_lightOf_9 : decode cX5_lightOf 9 = .ok (.aload_n 0, 1) := by decide +kernel
theorem dX5_lightOf_10 : decode cX5_lightOf 10 = .ok (.iload_n 1, 1) := by decide +kernel
theorem dX5_lightOf_11 : decode cX5_lightOf 11 = .ok (.iload_n 2, 1) := by decide +kernel
theorem dX5_lightOf_12 : decode cX5_lightOf 12 = .ok (.invokevirtual 116, 3) := by decide +kernel
theorem dX5_lightOf_15 : decode cX5_lightOf 15 = .ok (.ifCond .eq 5, 3) := by decide +kernel
theorem dX5_lightOf_18 : decode cX5_lightOf 18 = .ok (.iconst 0, 1) := by decide +kernel
theorem dX5_lightOf_19 : decode cX5_lightOf 19 = .ok (.ireturn, 1) := by decide +kernel
theorem dX5_lightOf_20 : decode cX5_lightOf 20 = .ok (.iload_n 2, 1) := by decide +kernel
theorem dX5_lightOf_21 : decode cX5_lightOf 21 = .ok (.aload_n 0, 1) := by decide +kernel
theorem dX5_lightOf_22 : decode cX5_lightOf 22 = .ok (.getfield 30, 3) := by decide +kernel
theorem dX5_lightOf_25 : decode cX5_lightOf 25 = .ok (.iload_n 1, 1) := by decide +kernel
theorem dX5_lightOf_26 : decode cX5_lightOf 26 = .ok (.iaload, 1) := by decide +kernel
theorem dX5_lightOf_27 : decode cX5_lightOf 27 = .ok (.isub, 1) := by decide +kernel
theorem dX5_lightOf_28 : decode cX5_lightOf 28 = .ok (.istore_n 3, 1) := by decide +kernel
theorem dX5_lightOf_29 : decode cX5_lightOf 29 = .ok (.aload_n 0, 1) := by decide +kernel
theorem dX5_lightOf_30 : decode cX5_lightOf 30 = .ok (.getfield 33, 3) := by decide +kernel
theorem dX5_lightOf_33 : decode cX5_lightOf 33 = .ok (.iload_n 1, 1) := by decide +kernel
theorem dX5_lightOf_34 : decode cX5_lightOf 34 = .ok (.iaload, 1) := by decide +kernel
theorem dX5_lightOf_35 : decode cX5_lightOf 35 = .ok (.aload_n 0, 1) := by decide +kernel
theorem dX5_lightOf_36 : decode cX5_lightOf 36 = .ok (.getfield 7, 3) := by decide +kernel
theorem dX5_lightOf_39 : decode cX5_lightOf 39 = .ok (.iload_n 2, 1) := by decide +kernel
theorem dX5_lightOf_40 : decode cX5_lightOf 40 = .ok (.iaload, 1) := by decide +kernel
theorem dX5_lightOf_41 : decode cX5_lightOf 41 = .ok (.isub, 1) := by decide +kernel
theorem dX5_lightOf_42 : decode cX5_lightOf 42 = .ok (.istore 4, 2) := by decide +kernel
theorem dX5_lightOf_44 : decode cX5_lightOf 44 = .ok (.bipush 100, 2) := by decide +kernel
theorem dX5_lightOf_46 : decode cX5_lightOf 46 = .ok (.aload_n 0, 1) := by decide +kernel
theorem dX5_lightOf_47 : decode cX5_lightOf 47 = .ok (.getfield 36, 3) := by decide +kernel
theorem dX5_lightOf_50 : decode cX5_lightOf 50 = .ok (.iload_n 1, 1) := by decide +kernel
theorem dX5_lightOf_51 : decode cX5_lightOf 51 = .ok (.iaload, 1) := by decide +kernel
theorem dX5_lightOf_52 : decode cX5_lightOf 52 = .ok (.imul, 1) := by decide +kernel
theorem dX5_lightOf_53 : decode cX5_lightOf 53 = .ok (.iload_n 3, 1) := by decide +kernel
theorem dX5_lightOf_54 : decode cX5_lightOf 54 = .ok (.iload_n 3, 1) := by decide +kernel
theorem dX5_lightOf_55 : decode cX5_lightOf 55 = .ok (.imul, 1) := by decide +kernel
theorem dX5_lightOf_56 : decode cX5_lightOf 56 = .ok (.iload 4, 2) := by decide +kernel
theorem dX5_lightOf_58 : decode cX5_lightOf 58 = .ok (.iload 4, 2) := by decide +kernel
theorem dX5_lightOf_60 : decode cX5_lightOf 60 = .ok (.imul, 1) := by decide +kernel
theorem dX5_lightOf_61 : decode cX5_lightOf 61 = .ok (.iadd, 1) := by decide +kernel
theorem dX5_lightOf_62 : decode cX5_lightOf 62 = .ok (.idiv, 1) := by decide +kernel
theorem dX5_lightOf_63 : decode cX5_lightOf 63 = .ok (.istore 5, 2) := by decide +kernel
theorem dX5_lightOf_65 : decode cX5_lightOf 65 = .ok (.iload 5, 2) := by decide +kernel
theorem dX5_lightOf_67 : decode cX5_lightOf 67 = .ok (.aload_n 0, 1) := by decide +kernel
theorem dX5_lightOf_68 : decode cX5_lightOf 68 = .ok (.getfield 16, 3) := by decide +kernel
theorem dX5_lightOf_71 : decode cX5_lightOf 71 = .ok (.aload_n 0, 1) := by decide +kernel
theorem dX5_lightOf_72 : decode cX5_lightOf 72 = .ok (.getfield 13, 3) := by decide +kernel
theorem dX5_lightOf_75 : decode cX5_lightOf 75 = .ok (.iload_n 2, 1) := by decide +kernel
theorem dX5_lightOf_76 : decode cX5_lightOf 76 = .ok (.iaload, 1) := by decide +kernel
theorem dX5_lightOf_77 : decode cX5_lightOf 77 = .ok (.iaload, 1) := by decide +kernel
theorem dX5_lightOf_78 : decode cX5_lightOf 78 = .ok (.imul, 1) := by decide +kernel
theorem dX5_lightOf_79 : decode cX5_lightOf 79 = .ok (.bipush 100, 2) := by decide +kernel
theorem dX5_lightOf_81 : decode cX5_lightOf 81 = .ok (.idiv, 1) := by decide +kernel
theorem dX5_lightOf_82 : decode cX5_lightOf 82 = .ok (.ireturn, 1) := by decide +kernel
set_option maxRecDepth 20000 in
theorem ggX5_gives_X5_isProjector : GoodIn wsX5_gives wsX5_isProjector := goodIn_r _ [5, 6, 7, 8, 4, 9, 48, 49, 50, 51, 52, 53, 54, 55, 56, 57, 58, 59, 60, 61, 62, 63, 64, 65, 66, 67, 68, 69, 70, 71, 72, 73, 74, 75, 76, 77] (by decide +kernel) (by decide +kernel)
set_option maxRecDepth 20000 in
theorem gX5_gives_X5_isProjector : GoodIn wsX5_gives (wsV RX5 98 RX5 yX5_isProjector wsX5_isProjector) := goodIn_app (goodIn_of _ (by decide +kernel)) ggX5_gives_X5_isProjector
set_option maxRecDepth 20000 in
theorem ggX5_gives_X5_isColumn : GoodIn wsX5_gives wsX5_isColumn := goodIn_r _ [12, 7, 8, 4, 9] (by decide +kernel) (by decide +kernel)
set_option maxRecDepth 20000 in
theorem gX5_gives_X5_isColumn : GoodIn wsX5_gives (va_wsS RX5 76 yX5_isColumn wsX5_isColumn) := goodIn_app (goodIn_of _ (by decide +kernel)) ggX5_gives_X5_isColumn
set_option maxRecDepth 20000 in
theorem ggX5_gives_X5_goesWell : GoodIn wsX5_gives wsX5_goesWell := goodIn_r _ [16, 17, 48, 49, 50, 51, 52, 53, 54, 55, 56, 57, 58, 59, 60, 61, 62, 63, 64, 65, 66, 67, 68, 69, 70, 71, 72, 73, 74, 75, 76, 77] (by decide +kernel) (by decide +kernel)
set_option maxRecDepth 20000 in
theorem gX5_gives_X5_goesWell : GoodIn wsX5_gives (wsV RX5 83 RX5 yX5_goesWell wsX5_goesWell) := goodIn_app (goodIn_of _ (by decide +kernel)) ggX5_gives_X5_goesWell
set_option maxRecDepth 20000 in
theorem ggX5_gives_X5_lightOf : GoodIn wsX5_gives wsX5_lightOf := goodIn_r _ [21, 22, 23, 24, 25, 26, 27, 28, 29, 30, 4, 31, 32, 33, 34, 7, 8, 9, 35, 36, 37, 38, 39, 40, 41, 42, 43, 44, 45, 46, 47, 48, 49, 50, 51, 52, 53, 54, 55, 56, 57, 58, 59, 60, 61, 62, 63, 64, 65, 66, 67, 68, 69, 70, 71, 72, 73, 74, 75, 76, 77] (by decide +kernel) (by decide +kernel)
set_option maxRecDepth 20000 in
theorem gX5_gives_X5_lightOf : GoodIn wsX5_gives (wsV RX5 119 RX5 yX5_lightOf wsX5_lightOf) := goodIn_app (goodIn_of _ (by decide +kernel)) ggX5_gives_X5_lightOf
theorem dX5_gives_0 : decode cX5_gives 0 = .ok (.aload_n 0, 1) := by decide +kernel
theorem dX5_gives_1 : decode cX5_gives 1 = .ok (.aload_n 0, 1) := by decide +kernel
theorem dX5_gives_2 : decode cX5_gives 2 = .ok (.iload_n 1, 1) := by decide +kernel
theorem dX5_gives_3 : decode cX5_gives 3 = .ok (.invokevirtual 98, 3) := by decide +kernel
theorem dX5_gives_6 : decode cX5_gives 6 = .ok (.ifCond .eq 14, 3) := by decide +kernel
theorem dX5_gives_9 : decode cX5_gives 9 = .ok (.iload_n 2, 1) := by decide +kernel
theorem dX5_gives_10 : decode cX5_gives 10 = .ok (.invokestatic 76, 3) := by decide +kernel
theorem dX5_gives_13 : decode cX5_gives 13 = .ok (.ifCond .eq 7, 3) := by decide +kernel
theorem dX5_gives_16 : decode cX5_gives 16 = .ok (.iconst 0, 1) := by decide +kernel
theorem dX5_gives_17 : decode cX5_gives 17 = .ok (.goto 4, 3) := by decide +kernel
theorem dX5_gives_20 : decode cX5_gives 20 = .ok (.iconst 1, 1) := by decide +kernel
theorem dX5_gives_21 : decode cX5_gives 21 = .ok (.invokevirtual 83, 3) := by decide +kernel
theorem dX5_gives_24 : decode cX5_gives 24 = .ok (.ifCond .eq 12, 3) := by decide +kernel
theorem dX5_gives_27 : decode cX5_gives 27 = .ok (.aload_n 0, 1) := by decide +kernel
theorem dX5_gives_28 : decode cX5_gives 28 = .ok (.iload_n 1, 1) := by decide +kernel
theorem dX5_gives_29 : decode cX5_gives 29 = .ok (.iload_n 2, 1) := by decide +kernel
theorem dX5_gives_30 : decode cX5_gives 30 = .ok (.invokevirtual 119, 3) := by decide +kernel
theorem dX5_gives_33 : decode cX5_gives 33 = .ok (.goto 4, 3) := by decide +kernel
theorem dX5_gives_36 : decode cX5_gives 36 = .ok (.iconst 0, 1) := by decide +kernel
theorem dX5_gives_37 : decode cX5_gives 37 = .ok (.ireturn, 1) := by decide +kernel
set_option maxRecDepth 20000 in
theorem ggX5_isSharpAt_X5_in : GoodIn wsX5_isSharpAt wsX5_in := goodIn_r _ [7] (by decide +kernel) (by decide +kernel)
set_option maxRecDepth 20000 in
theorem gX5_isSharpAt_X5_in : GoodIn wsX5_isSharpAt (va_wsS RX5 72 yX5_in wsX5_in) := goodIn_app (goodIn_of _ (by decide +kernel)) ggX5_isSharpAt_X5_in
theorem dX5_isSharpAt_0 : decode cX5_isSharpAt 0 = .ok (.aload_n 0, 1) := by decide +kernel
theorem dX5_isSharpAt_1 : decode cX5_isSharpAt 1 = .ok (.getfield 33, 3) := by decide +kernel
theorem dX5_isSharpAt_4 : decode cX5_isSharpAt 4 = .ok (.iload_n 1, 1) := by decide +kernel
theorem dX5_isSharpAt_5 : decode cX5_isSharpAt 5 = .ok (.iaload, 1) := by decide +kernel
theorem dX5_isSharpAt_6 : decode cX5_isSharpAt 6 = .ok (.aload_n 0, 1) := by decide +kernel
theorem dX5_isSharpAt_7 : decode cX5_isSharpAt 7 = .ok (.getfield 7, 3) := by decide +kernel
theorem dX5_isSharpAt_10 : decode cX5_isSharpAt 10 = .ok (.iload_n 2, 1) := by decide +kernel
theorem dX5_isSharpAt_11 : decode cX5_isSharpAt 11 = .ok (.iaload, 1) := by decide +kernel
theorem dX5_isSharpAt_12 : decode cX5_isSharpAt 12 = .ok (.isub, 1) := by decide +kernel
theorem dX5_isSharpAt_13 : decode cX5_isSharpAt 13 = .ok (.aload_n 0, 1) := by decide +kernel
theorem dX5_isSharpAt_14 : decode cX5_isSharpAt 14 = .ok (.getfield 42, 3) := by decide +kernel
theorem dX5_isSharpAt_17 : decode cX5_isSharpAt 17 = .ok (.iload_n 1, 1) := by decide +kernel
theorem dX5_isSharpAt_18 : decode cX5_isSharpAt 18 = .ok (.iaload, 1) := by decide +kernel
theorem dX5_isSharpAt_19 : decode cX5_isSharpAt 19 = .ok (.isub, 1) := by decide +kernel
theorem dX5_isSharpAt_20 : decode cX5_isSharpAt 20 = .ok (.iconst (-1), 1) := by decide +kernel
theorem dX5_isSharpAt_21 : decode cX5_isSharpAt 21 = .ok (.iconst 1, 1) := by decide +kernel
theorem dX5_isSharpAt_22 : decode cX5_isSharpAt 22 = .ok (.invokestatic 72, 3) := by decide +kernel
theorem dX5_isSharpAt_25 : decode cX5_isSharpAt 25 = .ok (.ireturn, 1) := by decide +kernel
set_option maxRecDepth 20000 in
theorem ggX5_isSharp_X5_isProjector : GoodIn wsX5_isSharp wsX5_isProjector := goodIn_r _ [5, 6, 7, 8, 4, 9, 25, 26, 27, 28, 29, 30, 31, 32, 33, 34, 35, 36, 37, 38, 39, 40, 41, 42, 43, 44, 45, 46, 47, 48, 49, 50, 51, 52, 53, 54] (by decide +kernel) (by decide +kernel)
set_option maxRecDepth 20000 in
theorem gX5_isSharp_X5_isProjector : GoodIn wsX5_isSharp (wsV RX5 98 RX5 yX5_isProjector wsX5_isProjector) := goodIn_app (goodIn_of _ (by decide +kernel)) ggX5_isSharp_X5_isProjector
set_option maxRecDepth 20000 in
theorem ggX5_isSharp_X5_isColumn : GoodIn wsX5_isSharp wsX5_isColumn := goodIn_r _ [12, 7, 8, 4, 9] (by decide +kernel) (by decide +kernel)
set_option maxRecDepth 20000 in
theorem gX5_isSharp_X5_isColumn : GoodIn wsX5_isSharp (va_wsS RX5 76 yX5_isColumn wsX5_isColumn) := goodIn_app (goodIn_of _ (by decide +kernel)) ggX5_isSharp_X5_isColumn
set_option maxRecDepth 20000 in
theorem ggX5_isSharp_X5_goesWell : GoodIn wsX5_isSharp wsX5_goesWell := goodIn_r _ [16, 17, 25, 26, 27, 28, 29, 30, 31, 32, 33, 34, 35, 36, 37, 38, 39, 40, 41, 42, 43, 44, 45, 46, 47, 48, 49, 50, 51, 52, 53, 54] (by decide +kernel) (by decide +kernel)
set_option maxRecDepth 20000 in
theorem gX5_isSharp_X5_goesWell : GoodIn wsX5_isSharp (wsV RX5 83 RX5 yX5_goesWell wsX5_goesWell) := goodIn_app (goodIn_of _ (by decide +kernel)) ggX5_isSharp_X5_goesWell
set_option maxRecDepth 20000 in
theorem ggX5_isSharp_X5_isSharpAt : GoodIn wsX5_isSharp wsX5_isSharpAt := goodIn_r _ [21, 22, 23, 24, 7, 8, 4, 9, 25, 26, 27, 28, 29, 30, 31, 32, 33, 34, 35, 36, 37, 38, 39, 40, 41, 42, 43, 44, 45, 46, 47, 48, 49, 50, 51, 52, 53, 54] (by decide +kernel) (by decide +kernel)
set_option maxRecDepth 20000 in
theorem gX5_isSharp_X5_isSharpAt : GoodIn wsX5_isSharp (wsV RX5 122 RX5 yX5_isSharpAt wsX5_isSharpAt) := goodIn_app (goodIn_of _ (by decide +kernel)) ggX5_isSharp_X5_isSharpAt
theorem dX5_isSharp_0 : decode cX5_isSharp 0 = .ok (.aload_n 0, 1) := by decide +kernel
theorem dX5_isSharp_1 : decode cX5_isSharp 1 = .ok (.aload_n 0, 1) := by decide +kernel
theorem dX5_isSharp_2 : decode cX5_isSharp 2 = .ok (.iload_n 1, 1) := by decide +kernel
theorem dX5_isSharp_3 : decode cX5_isSharp 3 = .ok (.invokevirtual 98, 3) := by decide +kernel
theorem dX5_isSharp_6 : decode cX5_isSharp 6 = .ok (.ifCond .eq 14, 3) := by decide +kernel
theorem dX5_isSharp_9 : decode cX5_isSharp 9 = .ok (.iload_n 2, 1) := by decide +kernel
theorem dX5_isSharp_10 : decode cX5_isSharp 10 = .ok (.invokestatic 76, 3) := by decide +kernel
theorem dX5_isSharp_13 : decode cX5_isSharp 13 = .ok (.ifCond .eq 7, 3) := by decide +kernel
theorem dX5_isSharp_16 : decode cX5_isSharp 16 = .ok (.iconst 0, 1) := by decide +kernel
theorem dX5_isSharp_17 : decode cX5_isSharp 17 = .ok (.goto 4, 3) := by decide +kernel
theorem dX5_isSharp_20 : decode cX5_isSharp 20 = .ok (.iconst 1, 1) := by decide +kernel
theorem dX5_isSharp_21 : decode cX5_isSharp 21 = .ok (.invokevirtual 83, 3) := by decide +kernel
theorem dX5_isSharp_24 : decode cX5_isSharp 24 = .ok (.ifCond .eq 16, 3) := by decide +kernel
theorem dX5_isSharp_27 : decode cX5_isSharp 27 = .ok (.aload_n 0, 1) := by decide +kernel
theorem dX5_isSharp_28 : decode cX5_isSharp 28 = .ok (.iload_n 1, 1) := by decide +kernel
theorem dX5_isSharp_29 : decode cX5_isSharp 29 = .ok (.iload_n 2, 1) := by decide +kernel
theorem dX5_isSharp_30 : decode cX5_isSharp 30 = .ok (.invokevirtual 122, 3) := by decide +kernel
theorem dX5_isSharp_33 : decode cX5_isSharp 33 = .ok (.ifCond .eq 7, 3) := by decide +kernel
theorem dX5_isSharp_36 : decode cX5_isSharp 36 = .ok (.iconst 1, 1) := by decide +kernel
theorem dX5_isSharp_37 : decode cX5_isSharp 37 = .ok (.goto 4, 3) := by decide +kernel
theorem dX5_isSharp_40 : decode cX5_isSharp 40 = .ok (.iconst 0, 1) := by decide +kernel
theorem dX5_isSharp_41 : decode cX5_isSharp 41 = .ok (.ireturn, 1) := by decide +kernel
theorem dX5_shines_0 : decode cX5_shines 0 = .ok (.aload_n 0, 1) := by decide +kernel
theorem dX5_shines_1 : decode cX5_shines 1 = .ok (.getfield 51, 3) := by decide +kernel
theorem dX5_shines_4 : decode cX5_shines 4 = .ok (.iload_n 1, 1) := by decide +kernel
theorem dX5_shines_5 : decode cX5_shines 5 = .ok (.baload, 1) := by decide +kernel
theorem dX5_shines_6 : decode cX5_shines 6 = .ok (.ifCond .eq 16, 3) := by decide +kernel
theorem dX5_shines_9 : decode cX5_shines 9 = .ok (.aload_n 0, 1) := by decide +kernel
theorem dX5_shines_10 : decode cX5_shines 10 = .ok (.getfield 54, 3) := by decide +kernel
theorem dX5_shines_13 : decode cX5_shines 13 = .ok (.iload_n 1, 1) := by decide +kernel
theorem dX5_shines_14 : decode cX5_shines 14 = .ok (.baload, 1) := by decide +kernel
theorem dX5_shines_15 : decode cX5_shines 15 = .ok (.ifCond .ne 7, 3) := by decide +kernel
theorem dX5_shines_18 : decode cX5_shines 18 = .ok (.iconst 1, 1) := by decide +kernel
theorem dX5_shines_19 : decode cX5_shines 19 = .ok (.goto 4, 3) := by decide +kernel
theorem dX5_shines_22 : decode cX5_shines 22 = .ok (.iconst 0, 1) := by decide +kernel
theorem dX5_shines_23 : decode cX5_shines 23 = .ok (.ireturn, 1) := by decide +kernel
end
section
set_option maxRecDepth 20000 in
theorem ggX5_lightAt_X5_shines : GoodIn wsX5_lightAt wsX5_shines := goodIn_r _ [6, 7, 8, 42, 43, 44, 45, 46, 47, 48, 49, 50, 51, 52, 53, 54, 55, 56, 57, 58, 59, 60, 61, 62, 63, 64, 65, 66, 67, 68, 69, 70, 71] (by decide +kernel) (by decide +kernel)
set_option maxRecDepth 20000 in
theorem gX5_lightAt_X5_shines : GoodIn wsX5_lightAt (wsV RX5 125 RX5 yX5_shines wsX5_shines) := goodIn_app (goodIn_of _ (by decide +kernel)) ggX5_lightAt_X5_shines
set_option maxRecDepth 20000 in
theorem ggX5_lightAt_X5_lightOf : GoodIn wsX5_lightAt wsX5_lightOf := goodIn_r _ [12, 13, 14, 15, 16, 17, 18, 19, 20, 21, 5, 22, 23, 24, 25, 26, 27, 28, 29, 30, 31, 32, 33, 34, 35, 36, 37, 38, 39, 40, 41, 42, 43, 44, 45, 46, 47, 48, 49, 50, 51, 52, 53, 54, 55, 56, 57, 58, 59, 60, 61, 62, 63, 64, 65, 66, 67, 68, 69, 70, 71] (by decide +kernel) (by decide +kernel)
set_option maxRecDepth 20000 in
theorem gX5_lightAt_X5_lightOf : GoodIn wsX5_lightAt (wsV RX5 119 RX5 yX5_lightOf wsX5_lightOf) := goodIn_app (goodIn_of _ (by decide +kernel)) ggX5_lightAt_X5_lightOf
theorem dX5_lightAt_0 : decode cX5_lightAt 0 = .ok (.iconst 0, 1) := by decide +kernel
theorem dX5_lightAt_1 : decode cX5_lightAt 1 = .ok (.istore_n 2, 1) := by decide +kernel
theorem dX5_lightAt_2 : decode cX5_lightAt 2 = .ok (.iconst 0, 1) := by decide +kernel
theorem dX5_lightAt_3 : decode cX5_lightAt 3 = .ok (.istore_n 3, 1) := by decide +kernel
theorem dX5_lightAt_4 : decode cX5_lightAt 4 = .ok (.iload_n 3, 1) := by decide +kernel
theorem dX5_lightAt_5 : decode cX5_lightAt 5 = .ok (.aload_n 0, 1) := by decide +kernel
theorem dX5_lightAt_6 : decode cX5_lightAt 6 = .ok (.getfield 80, 3) := by decide +kernel
theorem dX5_lightAt_9 : decode cX5_lightAt 9 = .ok (.if_icmp .ge 30, 3) := by decide +kernel
theorem dX5_lightAt_12 : decode cX5_lightAt 12 = .ok (.iload_n 2, 1) := by decide +kernel
theorem dX5_lightAt_13 : decode cX5_lightAt 13 = .ok (.aload_n 0, 1) := by decide +kernel
theorem dX5_lightAt_14 : decode cX5_lightAt 14 = .ok (.iload_n 3, 1) := by decide +kernel
theorem dX5_lightAt_15 : decode cX5_lightAt 15 = .ok (.invokevirtual 125, 3) := by decide +kernel
theorem dX5_lightAt_18 : decode cX5_lightAt 18 = .ok (.ifCond .eq 12, 3) := by decide +kernel
theorem dX5_lightAt_21 : decode cX5_lightAt 21 = .ok (.aload_n 0, 1) := by decide +kernel
theorem dX5_lightAt_22 : decode cX5_lightAt 22 = .ok (.iload_n 3, 1) := by decide +kernel
theorem dX5_lightAt_23 : decode cX5_lightAt 23 = .ok (.iload_n 1, 1) := by decide +kernel
theorem dX5_lightAt_24 : decode cX5_lightAt 24 = .ok (.invokevirtual 119, 3) := by decide +kernel
theorem dX5_lightAt_27 : decode cX5_lightAt 27 = .ok (.goto 4, 3) := by decide +kernel
theorem dX5_lightAt_30 : decode cX5_lightAt 30 = .ok (.iconst 0, 1) := by decide +kernel
theorem dX5_lightAt_31 : decode cX5_lightAt 31 = .ok (.iadd, 1) := by decide +kernel
theorem dX5_lightAt_32 : decode cX5_lightAt 32 = .ok (.istore_n 2, 1) := by decide +kernel
theorem dX5_lightAt_33 : decode cX5_lightAt 33 = .ok (.iinc 3 1, 3) := by decide +kernel
theorem dX5_lightAt_36 : decode cX5_lightAt 36 = .ok (.goto (-32), 3) := by decide +kernel
theorem dX5_lightAt_39 : decode cX5_lightAt 39 = .ok (.iload_n 2, 1) := by decide +kernel
theorem dX5_lightAt_40 : decode cX5_lightAt 40 = .ok (.ireturn, 1) := by decide +kernel
set_option maxRecDepth 20000 in
theorem ggX5_light_X5_isColumn : GoodIn wsX5_light wsX5_isColumn := goodIn_r _ [4, 5, 6, 3, 7] (by decide +kernel) (by decide +kernel)
set_option maxRecDepth 20000 in
theorem gX5_light_X5_isColumn : GoodIn wsX5_light (va_wsS RX5 76 yX5_isColumn wsX5_isColumn) := goodIn_app (goodIn_of _ (by decide +kernel)) ggX5_light_X5_isColumn
set_option maxRecDepth 20000 in
theorem ggX5_light_X5_goesWell : GoodIn wsX5_light wsX5_goesWell := goodIn_r _ [11, 12, 54, 55, 56, 57, 58, 59, 60, 61, 62, 63, 64, 65, 66, 67, 68, 69, 70, 71, 72, 73, 74, 75, 76, 77, 78, 79, 80, 81, 82, 83] (by decide +kernel) (by decide +kernel)
set_option maxRecDepth 20000 in
theorem gX5_light_X5_goesWell : GoodIn wsX5_light (wsV RX5 83 RX5 yX5_goesWell wsX5_goesWell) := goodIn_app (goodIn_of _ (by decide +kernel)) ggX5_light_X5_goesWell
set_option maxRecDepth 20000 in
theorem ggX5_light_X5_lightAt : GoodIn wsX5_light wsX5_lightAt := goodIn_r _ [16, 17, 18, 19, 20, 3, 21, 22, 23, 24, 25, 26, 27, 28, 29, 30, 31, 32, 33, 34, 35, 36, 37, 38, 39, 40, 5, 6, 7, 41, 42, 43, 44, 45, 46, 47, 48, 49, 50, 51, 52, 53, 54, 55, 56, 57, 58, 59, 60, 61, 62, 63, 64, 65, 66, 67, 68, 69, 70, 71, 72, 73, 74, 75, 76, 77, 78, 79, 80, 81, 82, 83] (by decide +kernel) (by decide +kernel)
set_option maxRecDepth 20000 in
theorem gX5_light_X5_lightAt : GoodIn wsX5_light (wsV RX5 128 RX5 yX5_lightAt wsX5_lightAt) := goodIn_app (goodIn_of _ (by decide +kernel)) ggX5_light_X5_lightAt
theorem dX5_light_0 : decode cX5_light 0 = .ok (.aload_n 0, 1) := by decide +kernel
theorem dX5_light_1 : decode cX5_light 1 = .ok (.iload_n 1, 1) := by decide +kernel
theorem dX5_light_2 : decode cX5_light 2 = .ok (.invokestatic 76, 3) := by decide +kernel
theorem dX5_light_5 : decode cX5_light 5 = .ok (.ifCond .eq 7, 3) := by decide +kernel
theorem dX5_light_8 : decode cX5_light 8 = .ok (.iconst 0, 1) := by decide +kernel
theorem dX5_light_9 : decode cX5_light 9 = .ok (.goto 4, 3) := by decide +kernel
theorem dX5_light_12 : decode cX5_light 12 = .ok (.iconst 1, 1) := by decide +kernel
theorem dX5_light_13 : decode cX5_light 13 = .ok (.invokevirtual 83, 3) := by decide +kernel
theorem dX5_light_16 : decode cX5_light 16 = .ok (.ifCond .eq 11, 3) := by decide +kernel
theorem dX5_light_19 : decode cX5_light 19 = .ok (.aload_n 0, 1) := by decide +kernel
theorem dX5_light_20 : decode cX5_light 20 = .ok (.iload_n 1, 1) := by decide +kernel
theorem dX5_light_21 : decode cX5_light 21 = .ok (.invokevirtual 128, 3) := by decide +kernel
theorem dX5_light_24 : decode cX5_light 24 = .ok (.goto 4, 3) := by decide +kernel
theorem dX5_light_27 : decode cX5_light 27 = .ok (.iconst 0, 1) := by decide +kernel
theorem dX5_light_28 : decode cX5_light 28 = .ok (.ireturn, 1) := by decide +kernel
set_option maxRecDepth 20000 in
theorem ggX5_blended_X5_isProjector : GoodIn wsX5_blended wsX5_isProjector := goodIn_r _ [6, 7, 8, 9, 5, 10, 59, 60, 61, 62, 63, 64, 65, 66, 67, 68, 69, 70, 71, 72, 73, 74, 75, 76, 77, 78, 79, 80, 81, 82, 83, 84, 85, 86, 87, 88] (by decide +kernel) (by decide +kernel)
set_option maxRecDepth 20000 in
theorem gX5_blended_X5_isProjector : GoodIn wsX5_blended (wsV RX5 98 RX5 yX5_isProjector wsX5_isProjector) := goodIn_app (goodIn_of _ (by decide +kernel)) ggX5_blended_X5_isProjector
set_option maxRecDepth 20000 in
theorem ggX5_blended_X5_isColumn : GoodIn wsX5_blended wsX5_isColumn := goodIn_r _ [13, 8, 9, 5, 10] (by decide +kernel) (by decide +kernel)
set_option maxRecDepth 20000 in
theorem gX5_blended_X5_isColumn : GoodIn wsX5_blended (va_wsS RX5 76 yX5_isColumn wsX5_isColumn) := goodIn_app (goodIn_of _ (by decide +kernel)) ggX5_blended_X5_isColumn
set_option maxRecDepth 20000 in
theorem ggX5_blended_X5_goesWell : GoodIn wsX5_blended wsX5_goesWell := goodIn_r _ [17, 18, 59, 60, 61, 62, 63, 64, 65, 66, 67, 68, 69, 70, 71, 72, 73, 74, 75, 76, 77, 78, 79, 80, 81, 82, 83, 84, 85, 86, 87, 88] (by decide +kernel) (by decide +kernel)
set_option maxRecDepth 20000 in
theorem gX5_blended_X5_goesWell : GoodIn wsX5_blended (wsV RX5 83 RX5 yX5_goesWell wsX5_goesWell) := goodIn_app (goodIn_of _ (by decide +kernel)) ggX5_blended_X5_goesWell
set_option maxRecDepth 20000 in
theorem ggX5_blended_X5_shines : GoodIn wsX5_blended wsX5_shines := goodIn_r _ [22, 23, 24, 59, 60, 61, 62, 63, 64, 65, 66, 67, 68, 69, 70, 71, 72, 73, 74, 75, 76, 77, 78, 79, 80, 81, 82, 83, 84, 85, 86, 87, 88] (by decide +kernel) (by decide +kernel)
set_option maxRecDepth 20000 in
theorem gX5_blended_X5_shines : GoodIn wsX5_blended (wsV RX5 125 RX5 yX5_shines wsX5_shines) := goodIn_app (goodIn_of _ (by decide +kernel)) ggX5_blended_X5_shines
set_option maxRecDepth 20000 in
theorem ggX5_blended_X5_lightOf : GoodIn wsX5_blended wsX5_lightOf := goodIn_r _ [28, 29, 30, 31, 32, 33, 34, 35, 36, 37, 5, 38, 39, 40, 41, 8, 9, 10, 42, 43, 44, 45, 46, 47, 48, 49, 50, 51, 52, 53, 54, 59, 60, 61, 62, 63, 64, 65, 66, 67, 68, 69, 70, 71, 72, 73, 74, 75, 76, 77, 78, 79, 80, 81, 82, 83, 84, 85, 86, 87, 88] (by decide +kernel) (by decide +kernel)
set_option maxRecDepth 20000 in
theorem gX5_blended_X5_lightOf : GoodIn wsX5_blended (wsV RX5 119 RX5 yX5_lightOf wsX5_lightOf) := goodIn_app (goodIn_of _ (by decide +kernel)) ggX5_blended_X5_lightOf
set_option maxRecDepth 20000 in
theorem ggX5_blended_X5_lightAt : GoodIn wsX5_blended wsX5_lightAt := goodIn_r _ [58, 7, 19, 20, 21, 5, 22, 23, 24, 25, 26, 27, 28, 29, 30, 31, 32, 33, 34, 35, 36, 37, 38, 39, 40, 41, 8, 9, 10, 42, 43, 44, 45, 46, 47, 48, 49, 50, 51, 52, 53, 54, 59, 60, 61, 62, 63, 64, 65, 66, 67, 68, 69, 70, 71, 72, 73, 74, 75, 76, 77, 78, 79, 80, 81, 82, 83, 84, 85, 86, 87, 88] (by decide +kernel) (by decide +kernel)
set_option maxRecDepth 20000 in
theorem gX5_blended_X5_lightAt : GoodIn wsX5_blended (wsV RX5 128 RX5 yX5_lightAt wsX5_lightAt) := goodIn_app (goodIn_of _ (by decide +kernel)) ggX5_blended_X5_lightAt
theorem dX5_blended_0 : decode cX5_blended 0 = .ok (.aload_n 0, 1) := by decide +kernel
theorem dX5_blended_1 : decode cX5_blended 1 = .ok (.aload_n 0, 1) := by decide +kernel
theorem dX5_blended_2 : decode cX5_blended 2 = .ok (.iload_n 1, 1) := by decide +kernel
theorem dX5_blended_3 : decode cX5_blended 3 = .ok (.invokevirtual 98, 3) := by decide +kernel
theorem dX5_blended_6 : decode cX5_blended 6 = .ok (.ifCond .eq 14, 3) := by decide +kernel
theorem dX5_blended_9 : decode cX5_blended 9 = .ok (.iload_n 2, 1) := by decide +kernel
theorem dX5_blended_10 : decode cX5_blended 10 = .ok (.invokestatic 76, 3) := by decide +kernel
theorem dX5_blended_13 : decode cX5_blended 13 = .ok (.ifCond .eq 7, 3) := by decide +kernel
theorem dX5_blended_16 : decode cX5_blended 16 = .ok (.iconst 0, 1) := by decide +kernel
theorem dX5_blended_17 : decode cX5_blended 17 = .ok (.goto 4, 3) := by decide +kernel
theorem dX5_blended_20 : decode cX5_blended 20 = .ok (.iconst 1, 1) := by decide +kernel
theorem dX5_blended_21 : decode cX5_blended 21 = .ok (.invokevirtual 83, 3) := by decide +kernel
theorem dX5_blended_24 : decode cX5_blended 24 = .ok (.ifCond .ne 5, 3) := by decide +kernel
theorem dX5_blended_27 : decode cX5_blended 27 = .ok (.iconst 0, 1) := by decide +kernel
theorem dX5_blended_28 : decode cX5_blended 28 = .ok (.ireturn, 1) := by decide +kernel
theorem dX5_blended_29 : decode cX5_blended 29 = .ok (.aload_n 0, 1) := by decide +kernel
theorem dX5_blended_30 : decode cX5_blended 30 = .ok (.iload_n 1, 1) := by decide +kernel
theorem dX5_blended_31 : decode cX5_blended 31 = .ok (.invokevirtual 125, 3) := by decide +kernel
theorem dX5_blended_34 : decode cX5_blended 34 = .ok (.ifCond .eq 12, 3) := by decide +kernel
theorem dX5_blended_37 : decode cX5_blended 37 = .ok (.aload_n 0, 1) := by decide +kernel
theorem dX5_blended_38 : decode cX5_blended 38 = .ok (.iload_n 1, 1) := by decide +kernel
theorem dX5_blended_39 : decode cX5_blended 39 = .ok (.iload_n 2, 1) := by decide +kernel
theorem dX5_blended_40 : decode cX5_blended 40 = .ok (.invokevirtual 119, 3) := by decide +kernel
theorem dX5_blended_43 : decode cX5_blended 43 = .ok (.goto 4, 3) := by decide +kernel
theorem dX5_blended_46 : decode cX5_blended 46 = .ok (.iconst 0, 1) := by decide +kernel
theorem dX5_blended_47 : decode cX5_blended 47 = .ok (.istore_n 3, 1) := by decide +kernel
theorem dX5_blended_48 : decode cX5_blended 48 = .ok (.aload_n 0, 1) := by decide +kernel
theorem dX5_blended_49 : decode cX5_blended 49 = .ok (.iload_n 2, 1) := by decide +kernel
theorem dX5_blended_50 : decode cX5_blended 50 = .ok (.invokevirtual 128, 3) := by decide +kernel
theorem dX5_blended_53 : decode cX5_blended 53 = .ok (.istore 4, 2) := by decide +kernel
theorem dX5_blended_55 : decode cX5_blended 55 = .ok (.iload 4, 2) := by decide +kernel
theorem dX5_blended_57 : decode cX5_blended 57 = .ok (.aload_n 0, 1) := by decide +kernel
theorem dX5_blended_58 : decode cX5_blended 58 = .ok (.getfield 26, 3) := by decide +kernel
theorem dX5_blended_61 : decode cX5_blended 61 = .ok (.if_icmp .le 19, 3) := by decide +kernel
theorem dX5_blended_64 : decode cX5_blended 64 = .ok (.iload_n 3, 1) := by decide +kernel
theorem dX5_blended_65 : decode cX5_blended 65 = .ok (.i2l, 1) := by decide +kernel
theorem dX5_blended_66 : decode cX5_blended 66 = .ok (.aload_n 0, 1) := by decide +kernel
theorem dX5_blended_67 : decode cX5_blended 67 = .ok (.getfield 26, 3) := by decide +kernel
theorem dX5_blended_70 : decode cX5_blended 70 = .ok (.i2l, 1) := by decide +kernel
theorem dX5_blended_71 : decode cX5_blended 71 = .ok (.lmul, 1) := by decide +kernel
theorem dX5_blended_72 : decode cX5_blended 72 = .ok (.iload 4, 2) := by decide +kernel
theorem dX5_blended_74 : decode cX5_blended 74 = .ok (.i2l, 1) := by decide +kernel
theorem dX5_blended_75 : decode cX5_blended 75 = .ok (.ldiv, 1) := by decide +kernel
theorem dX5_blended_76 : decode cX5_blended 76 = .ok (.l2i, 1) := by decide +kernel
theorem dX5_blended_77 : decode cX5_blended 77 = .ok (.goto 4, 3) := by decide +kernel
theorem dX5_blended_80 : decode cX5_blended 80 = .ok (.iload_n 3, 1) := by decide +kernel
theorem dX5_blended_81 : decode cX5_blended 81 = .ok (.ireturn, 1) := by decide +kernel
set_option maxRecDepth 20000 in
theorem ggX5_isWell_X5_lightOf : GoodIn wsX5_isWell wsX5_lightOf := goodIn_r _ [8, 9, 10, 11, 12, 13, 14, 15, 16, 17, 7, 18, 19, 20, 21, 22, 23, 24, 25, 26, 27, 28, 29, 30, 31, 32, 33, 34, 35, 36, 37, 43, 44, 45, 46, 47, 48, 49, 50, 51, 52, 53, 54, 55, 56, 57, 58, 59, 60, 61, 62, 63, 64, 65, 66, 67, 68, 69, 70, 71, 72] (by decide +kernel) (by decide +kernel)
set_option maxRecDepth 20000 in
theorem gX5_isWell_X5_lightOf : GoodIn wsX5_isWell (wsV RX5 119 RX5 yX5_lightOf wsX5_lightOf) := goodIn_app (goodIn_of _ (by decide +kernel)) ggX5_isWell_X5_lightOf
set_option maxRecDepth 20000 in
theorem ggX5_isWell_X5_isSharpAt : GoodIn wsX5_isWell wsX5_isSharpAt := goodIn_r _ [41, 10, 11, 42, 22, 23, 7, 24, 43, 44, 45, 46, 47, 48, 49, 50, 51, 52, 53, 54, 55, 56, 57, 58, 59, 60, 61, 62, 63, 64, 65, 66, 67, 68, 69, 70, 71, 72] (by decide +kernel) (by decide +kernel)
set_option maxRecDepth 20000 in
theorem gX5_isWell_X5_isSharpAt : GoodIn wsX5_isWell (wsV RX5 122 RX5 yX5_isSharpAt wsX5_isSharpAt) := goodIn_app (goodIn_of _ (by decide +kernel)) ggX5_isWell_X5_isSharpAt
theorem dX5_isWell_0 : decode cX5_isWell 0 = .ok (.iconst 0, 1) := by decide +kernel
theorem dX5_isWell_1 : decode cX5_isWell 1 = .ok (.istore_n 3, 1) := by decide +kernel
theorem dX5_isWell_2 : decode cX5_isWell 2 = .ok (.iconst 1, 1) := by decide +kernel
theorem dX5_isWell_3 : decode cX5_isWell 3 = .ok (.istore 4, 2) := by decide +kernel
theorem dX5_isWell_5 : decode cX5_isWell 5 = .ok (.iconst 0, 1) := by decide +kernel
theorem dX5_isWell_6 : decode cX5_isWell 6 = .ok (.istore 5, 2) := by decide +kernel
theorem dX5_isWell_8 : decode cX5_isWell 8 = .ok (.iload 5, 2) := by decide +kernel
theorem dX5_isWell_10 : decode cX5_isWell 10 = .ok (.aload_n 0, 1) := by decide +kernel
theorem dX5_isWell_11 : decode cX5_isWell 11 = .ok (.getfield 80, 3) := by decide +kernel
theorem dX5_isWell_14 : decode cX5_isWell 14 = .ok (.if_icmp .ge 74, 3) := by decide +kernel
theorem dX5_isWell_17 : decode cX5_isWell 17 = .ok (.iload_n 1, 1) := by decide +kernel
theorem dX5_isWell_18 : decode cX5_isWell 18 = .ok (.iload 5, 2) := by decide +kernel
theorem dX5_isWell_20 : decode cX5_isWell 20 = .ok (.ishr, 1) := by decide +kernel
theorem dX5_isWell_21 : decode cX5_isWell 21 = .ok (.iconst 1, 1) := by decide +kernel
theorem dX5_isWell_22 : decode cX5_isWell 22 = .ok (.iand, 1) := by decide +kernel
theorem dX5_isWell_23 : decode cX5_isWell 23 = .ok (.iconst 1, 1) := by decide +kernel
theorem dX5_isWell_24 : decode cX5_isWell 24 = .ok (.if_icmp .ne 23, 3) := by decide +kernel
theorem dX5_isWell_27 : decode cX5_isWell 27 = .ok (.aload_n 0, 1) := by decide +kernel
theorem dX5_isWell_28 : decode cX5_isWell 28 = .ok (.getfield 54, 3) := by decide +kernel
theorem dX5_isWell_31 : decode cX5_isWell 31 = .ok (.iload 5, 2) := by decide +kernel
theorem dX5_isWell_33 : decode cX5_isWell 33 = .ok (.baload, 1) := by decide +kernel
theorem dX5_isWell_34 : decode cX5_isWell 34 = .ok (.ifCond .ne 13, 3) := by decide +kernel
theorem dX5_isWell_37 : decode cX5_isWell 37 = .ok (.aload_n 0, 1) := by decide +kernel
theorem dX5_isWell_38 : decode cX5_isWell 38 = .ok (.iload 5, 2) := by decide +kernel
theorem dX5_isWell_40 : decode cX5_isWell 40 = .ok (.iload_n 2, 1) := by decide +kernel
theorem dX5_isWell_41 : decode cX5_isWell 41 = .ok (.invokevirtual 119, 3) := by decide +kernel
theorem dX5_isWell_44 : decode cX5_isWell 44 = .ok (.goto 4, 3) := by decide +kernel
theorem dX5_isWell_47 : decode cX5_isWell 47 = .ok (.iconst 0, 1) := by decide +kernel
theorem dX5_isWell_48 : decode cX5_isWell 48 = .ok (.istore 6, 2) := by decide +kernel
theorem dX5_isWell_50 : decode cX5_isWell 50 = .ok (.iload_n 3, 1) := by decide +kernel
theorem dX5_isWell_51 : decode cX5_isWell 51 = .ok (.iload 6, 2) := by decide +kernel
theorem dX5_isWell_53 : decode cX5_isWell 53 = .ok (.iadd, 1) := by decide +kernel
theorem dX5_isWell_54 : decode cX5_isWell 54 = .ok (.istore_n 3, 1) := by decide +kernel
theorem dX5_isWell_55 : decode cX5_isWell 55 = .ok (.iload 4, 2) := by decide +kernel
theorem dX5_isWell_57 : decode cX5_isWell 57 = .ok (.ifCond .eq 22, 3) := by decide +kernel
theorem dX5_isWell_60 : decode cX5_isWell 60 = .ok (.iload 6, 2) := by decide +kernel
theorem dX5_isWell_62 : decode cX5_isWell 62 = .ok (.ifCond .eq 13, 3) := by decide +kernel
theorem dX5_isWell_65 : decode cX5_isWell 65 = .ok (.aload_n 0, 1) := by decide +kernel
theorem dX5_isWell_66 : decode cX5_isWell 66 = .ok (.iload 5, 2) := by decide +kernel
theorem dX5_isWell_68 : decode cX5_isWell 68 = .ok (.iload_n 2, 1) := by decide +kernel
theorem dX5_isWell_69 : decode cX5_isWell 69 = .ok (.invokevirtual 122, 3) := by decide +kernel
theorem dX5_isWell_72 : decode cX5_isWell 72 = .ok (.ifCond .eq 7, 3) := by decide +kernel
theorem dX5_isWell_75 : decode cX5_isWell 75 = .ok (.iconst 1, 1) := by decide +kernel
theorem dX5_isWell_76 : decode cX5_isWell 76 = .ok (.goto 4, 3) := by decide +kernel
theorem dX5_isWell_79 : decode cX5_isWell 79 = .ok (.iconst 0, 1) := by decide +kernel
theorem dX5_isWell_80 : decode cX5_isWell 80 = .ok (.istore 4, 2) := by decide +kernel
theorem dX5_isWell_82 : decode cX5_isWell 82 = .ok (.iinc 5 1, 3) := by decide +kernel
theorem dX5_isWell_85 : decode cX5_isWell 85 = .ok (.goto (-77), 3) := by decide +kernel
theorem dX5_isWell_88 : decode cX5_isWell 88 = .ok (.iload 4, 2) := by decide +kernel
theorem dX5_isWell_90 : decode cX5_isWell 90 = .ok (.ifCond .eq 15, 3) := by decide +kernel
theorem dX5_isWell_93 : decode cX5_isWell 93 = .ok (.iload_n 3, 1) := by decide +kernel
theorem dX5_isWell_94 : decode cX5_isWell 94 = .ok (.aload_n 0, 1) := by decide +kernel
theorem dX5_isWell_95 : decode cX5_isWell 95 = .ok (.getfield 26, 3) := by decide +kernel
theorem dX5_isWell_98 : decode cX5_isWell 98 = .ok (.if_icmp .lt 7, 3) := by decide +kernel
theorem dX5_isWell_101 : decode cX5_isWell 101 = .ok (.iconst 1, 1) := by decide +kernel
theorem dX5_isWell_102 : decode cX5_isWell 102 = .ok (.goto 4, 3) := by decide +kernel
theorem dX5_isWell_105 : decode cX5_isWell 105 = .ok (.iconst 0, 1) := by decide +kernel
theorem dX5_isWell_106 : decode cX5_isWell 106 = .ok (.ireturn, 1) := by decide +kernel
set_option maxRecDepth 20000 in
theorem ggX5_coveredBy_X5_isWell : GoodIn wsX5_coveredBy wsX5_isWell := goodIn_r _ [5, 6, 7, 8, 9, 10, 11, 4, 12, 13, 14, 15, 16, 17, 18, 19, 20, 21, 22, 23, 24, 25, 26, 27, 28, 29, 30, 31, 32, 33, 34, 35, 36, 37, 38, 39, 40, 41, 42, 43, 44, 45, 46, 47, 48, 49, 50, 51, 52, 53, 54, 55, 56, 57, 58, 59, 60, 61, 62, 63, 64, 65, 66, 67, 68, 69, 70, 71, 72, 73, 74, 75, 76] (by decide +kernel) (by decide +kernel)
set_option maxRecDepth 20000 in
theorem gX5_coveredBy_X5_isWell : GoodIn wsX5_coveredBy (wsV RX5 131 RX5 yX5_isWell wsX5_isWell) := goodIn_app (goodIn_of _ (by decide +kernel)) ggX5_coveredBy_X5_isWell
theorem dX5_coveredBy_0 : decode cX5_coveredBy 0 = .ok (.iconst 0, 1) := by decide +kernel
theorem dX5_coveredBy_1 : decode cX5_coveredBy 1 = .ok (.istore_n 2, 1) := by decide +kernel
theorem dX5_coveredBy_2 : decode cX5_coveredBy 2 = .ok (.iconst 0, 1) := by decide +kernel
theorem dX5_coveredBy_3 : decode cX5_coveredBy 3 = .ok (.istore_n 3, 1) := by decide +kernel
theorem dX5_coveredBy_4 : decode cX5_coveredBy 4 = .ok (.iload_n 3, 1) := by decide +kernel
theorem dX5_coveredBy_5 : decode cX5_coveredBy 5 = .ok (.bipush 16, 2) := by decide +kernel
theorem dX5_coveredBy_7 : decode cX5_coveredBy 7 = .ok (.if_icmp .ge 28, 3) := by decide +kernel
theorem dX5_coveredBy_10 : decode cX5_coveredBy 10 = .ok (.iload_n 2, 1) := by decide +kernel
theorem dX5_coveredBy_11 : decode cX5_coveredBy 11 = .ok (.aload_n 0, 1) := by decide +kernel
theorem dX5_coveredBy_12 : decode cX5_coveredBy 12 = .ok (.iload_n 1, 1) := by decide +kernel
theorem dX5_coveredBy_13 : decode cX5_coveredBy 13 = .ok (.iload_n 3, 1) := by decide +kernel
theorem dX5_coveredBy_14 : decode cX5_coveredBy 14 = .ok (.invokevirtual 131, 3) := by decide +kernel
theorem dX5_coveredBy_17 : decode cX5_coveredBy 17 = .ok (.ifCond .eq 9, 3) := by decide +kernel
theorem dX5_coveredBy_20 : decode cX5_coveredBy 20 = .ok (.iconst 1, 1) := by decide +kernel
theorem dX5_coveredBy_21 : decode cX5_coveredBy 21 = .ok (.iload_n 3, 1) := by decide +kernel
theorem dX5_coveredBy_22 : decode cX5_coveredBy 22 = .ok (.ishl, 1) := by decide +kernel
theorem dX5_coveredBy_23 : decode cX5_coveredBy 23 = .ok (.goto 4, 3) := by decide +kernel
theorem dX5_coveredBy_26 : decode cX5_coveredBy 26 = .ok (.iconst 0, 1) := by decide +kernel
theorem dX5_coveredBy_27 : decode cX5_coveredBy 27 = .ok (.ior, 1) := by decide +kernel
theorem dX5_coveredBy_28 : decode cX5_coveredBy 28 = .ok (.istore_n 2, 1) := by decide +kernel
theorem dX5_coveredBy_29 : decode cX5_coveredBy 29 = .ok (.iinc 3 1, 3) := by decide +kernel
theorem dX5_coveredBy_32 : decode cX5_coveredBy 32 = .ok (.goto (-28), 3) := by decide +kernel
theorem dX5_coveredBy_35 : decode cX5_coveredBy 35 = .ok (.iload_n 2, 1) := by decide +kernel
theorem dX5_coveredBy_36 : decode cX5_coveredBy 36 = .ok (.ireturn, 1) := by decide +kernel
set_option maxRecDepth 20000 in
theorem ggX5_isSet_X5_in : GoodIn wsX5_isSet wsX5_in := goodIn_r _ [5] (by decide +kernel) (by decide +kernel)
set_option maxRecDepth 20000 in
theorem gX5_isSet_X5_in : GoodIn wsX5_isSet (va_wsS RX5 72 yX5_in wsX5_in) := goodIn_app (goodIn_of _ (by decide +kernel)) ggX5_isSet_X5_in
theorem dX5_isSet_0 : decode cX5_isSet 0 = .ok (.iload_n 1, 1) := by decide +kernel
theorem dX5_isSet_1 : decode cX5_isSet 1 = .ok (.iconst 0, 1) := by decide +kernel
theorem dX5_isSet_2 : decode cX5_isSet 2 = .ok (.iconst 1, 1) := by decide +kernel
theorem dX5_isSet_3 : decode cX5_isSet 3 = .ok (.aload_n 0, 1) := by decide +kernel
theorem dX5_isSet_4 : decode cX5_isSet 4 = .ok (.getfield 80, 3) := by decide +kernel
theorem dX5_isSet_7 : decode cX5_isSet 7 = .ok (.ishl, 1) := by decide +kernel
theorem dX5_isSet_8 : decode cX5_isSet 8 = .ok (.iconst 1, 1) := by decide +kernel
theorem dX5_isSet_9 : decode cX5_isSet 9 = .ok (.isub, 1) := by decide +kernel
theorem dX5_isSet_10 : decode cX5_isSet 10 = .ok (.invokestatic 72, 3) := by decide +kernel
theorem dX5_isSet_13 : decode cX5_isSet 13 = .ok (.ireturn, 1) := by decide +kernel
set_option maxRecDepth 20000 in
theorem ggX5_covered_X5_isSet : GoodIn wsX5_covered wsX5_isSet := goodIn_r _ [5, 6, 7, 8, 4, 9, 60, 61, 62, 63, 64, 65, 66, 67, 68, 69, 70, 71, 72, 73, 74, 75, 76, 77, 78, 79, 80, 81, 82, 83, 84, 85, 86, 87, 88, 89] (by decide +kernel) (by decide +kernel)
set_option maxRecDepth 20000 in
theorem gX5_covered_X5_isSet : GoodIn wsX5_covered (wsV RX5 134 RX5 yX5_isSet wsX5_isSet) := goodIn_app (goodIn_of _ (by decide +kernel)) ggX5_covered_X5_isSet
set_option maxRecDepth 20000 in
theorem ggX5_covered_X5_goesWell : GoodIn wsX5_covered wsX5_goesWell := goodIn_r _ [13, 14, 60, 61, 62, 63, 64, 65, 66, 67, 68, 69, 70, 71, 72, 73, 74, 75, 76, 77, 78, 79, 80, 81, 82, 83, 84, 85, 86, 87, 88, 89] (by decide +kernel) (by decide +kernel)
set_option maxRecDepth 20000 in
theorem gX5_covered_X5_goesWell : GoodIn wsX5_covered (wsV RX5 83 RX5 yX5_goesWell wsX5_goesWell) := goodIn_app (goodIn_of _ (by decide +kernel)) ggX5_covered_X5_goesWell
set_option maxRecDepth 20000 in
theorem ggX5_covered_X5_coveredBy : GoodIn wsX5_covered wsX5_coveredBy := goodIn_r _ [18, 19, 20, 21, 4, 22, 6, 23, 24, 25, 26, 27, 28, 29, 30, 31, 32, 33, 34, 35, 36, 37, 38, 39, 40, 41, 7, 8, 9, 42, 43, 44, 45, 46, 47, 48, 49, 50, 51, 52, 53, 54, 55, 56, 57, 58, 59, 60, 61, 62, 63, 64, 65, 66, 67, 68, 69, 70, 71, 72, 73, 74, 75, 76, 77, 78, 79, 80, 81, 82, 83, 84, 85, 86, 87, 88, 89] (by decide +kernel) (by decide +kernel)
set_option maxRecDepth 20000 in
theorem gX5_covered_X5_coveredBy : GoodIn wsX5_covered (wsV RX5 137 RX5 yX5_coveredBy wsX5_coveredBy) := goodIn_app (goodIn_of _ (by decide +kernel)) ggX5_covered_X5_coveredBy
theorem dX5_covered_0 : decode cX5_covered 0 = .ok (.aload_n 0, 1) := by decide +kernel
theorem dX5_covered_1 : decode cX5_covered 1 = .ok (.aload_n 0, 1) := by decide +kernel
theorem dX5_covered_2 : decode cX5_covered 2 = .ok (.iload_n 1, 1) := by decide +kernel
theorem dX5_covered_3 : decode cX5_covered 3 = .ok (.invokevirtual 134, 3) := by decide +kernel
theorem dX5_covered_6 : decode cX5_covered 6 = .ok (.ifCond .eq 7, 3) := by decide +kernel
theorem dX5_covered_9 : decode cX5_covered 9 = .ok (.iconst 0, 1) := by decide +kernel
theorem dX5_covered_10 : decode cX5_covered 10 = .ok (.goto 4, 3) := by decide +kernel
theorem dX5_covered_13 : decode cX5_covered 13 = .ok (.iconst 1, 1) := by decide +kernel
theorem dX5_covered_14 : decode cX5_covered 14 = .ok (.invokevirtual 83, 3) := by decide +kernel
theorem dX5_covered_17 : decode cX5_covered 17 = .ok (.ifCond .eq 11, 3) := by decide +kernel
theorem dX5_covered_20 : decode cX5_covered 20 = .ok (.aload_n 0, 1) := by decide +kernel
theorem dX5_covered_21 : decode cX5_covered 21 = .ok (.iload_n 1, 1) := by decide +kernel
theorem dX5_covered_22 : decode cX5_covered 22 = .ok (.invokevirtual 137, 3) := by decide +kernel
theorem dX5_covered_25 : decode cX5_covered 25 = .ok (.goto 4, 3) := by decide +kernel
theorem dX5_covered_28 : decode cX5_covered 28 = .ok (.iconst 0, 1) := by decide +kernel
theorem dX5_covered_29 : decode cX5_covered 29 = .ok (.ireturn, 1) := by decide +kernel
theorem dX5_bits_0 : decode cX5_bits 0 = .ok (.iconst 0, 1) := by decide +kernel
theorem dX5_bits_1 : decode cX5_bits 1 = .ok (.istore_n 1, 1) := by decide +kernel
theorem dX5_bits_2 : decode cX5_bits 2 = .ok (.iconst 0, 1) := by decide +kernel
theorem dX5_bits_3 : decode cX5_bits 3 = .ok (.istore_n 2, 1) := by decide +kernel
theorem dX5_bits_4 : decode cX5_bits 4 = .ok (.iload_n 2, 1) := by decide +kernel
theorem dX5_bits_5 : decode cX5_bits 5 = .ok (.bipush 10, 2) := by decide +kernel
theorem dX5_bits_7 : decode cX5_bits 7 = .ok (.if_icmp .ge 17, 3) := by decide +kernel
theorem dX5_bits_10 : decode cX5_bits 10 = .ok (.iload_n 1, 1) := by decide +kernel
theorem dX5_bits_11 : decode cX5_bits 11 = .ok (.iload_n 0, 1) := by decide +kernel
theorem dX5_bits_12 : decode cX5_bits 12 = .ok (.iload_n 2, 1) := by decide +kernel
theorem dX5_bits_13 : decode cX5_bits 13 = .ok (.ishr, 1) := by decide +kernel
theorem dX5_bits_14 : decode cX5_bits 14 = .ok (.iconst 1, 1) := by decide +kernel
theorem dX5_bits_15 : decode cX5_bits 15 = .ok (.iand, 1) := by decide +kernel
theorem dX5_bits_16 : decode cX5_bits 16 = .ok (.iadd, 1) := by decide +kernel
theorem dX5_bits_17 : decode cX5_bits 17 = .ok (.istore_n 1, 1) := by decide +kernel
theorem dX5_bits_18 : decode cX5_bits 18 = .ok (.iinc 2 1, 3) := by decide +kernel
theorem dX5_bits_21 : decode cX5_bits 21 = .ok (.goto (-17), 3) := by decide +kernel
theorem dX5_bits_24 : decode cX5_bits 24 = .ok (.iload_n 1, 1) := by decide +kernel
theorem dX5_bits_25 : decode cX5_bits 25 = .ok (.ireturn, 1) := by decide +kernel
set_option maxRecDepth 20000 in
theorem ggX5_isEnough_X5_coveredBy : GoodIn wsX5_isEnough wsX5_coveredBy := goodIn_r _ [6, 7, 8, 9, 5, 10, 11, 12, 13, 14, 15, 16, 17, 18, 19, 20, 21, 22, 23, 24, 25, 26, 27, 28, 29, 30, 31, 32, 33, 34, 35, 36, 37, 38, 39, 40, 41, 42, 43, 44, 45, 46, 47, 48, 49, 50, 51, 52, 53, 54, 55, 56, 57, 58, 59, 60, 61, 62, 63, 64, 65, 66, 67, 68, 69, 70, 71, 72, 73, 74, 75, 76, 77, 78, 79, 80, 81] (by decide +kernel) (by decide +kernel)
set_option maxRecDepth 20000 in
theorem gX5_isEnough_X5_coveredBy : GoodIn wsX5_isEnough (wsV RX5 137 RX5 yX5_coveredBy wsX5_coveredBy) := goodIn_app (goodIn_of _ (by decide +kernel)) ggX5_isEnough_X5_coveredBy
theorem dX5_isEnough_0 : decode cX5_isEnough 0 = .ok (.aload_n 0, 1) := by decide +kernel
theorem dX5_isEnough_1 : decode cX5_isEnough 1 = .ok (.getfield 95, 3) := by decide +kernel
theorem dX5_isEnough_4 : decode cX5_isEnough 4 = .ok (.aload_n 0, 1) := by decide +kernel
theorem dX5_isEnough_5 : decode cX5_isEnough 5 = .ok (.iload_n 1, 1) := by decide +kernel
theorem dX5_isEnough_6 : decode cX5_isEnough 6 = .ok (.invokevirtual 137, 3) := by decide +kernel
theorem dX5_isEnough_9 : decode cX5_isEnough 9 = .ok (.iconst (-1), 1) := by decide +kernel
theorem dX5_isEnough_10 : decode cX5_isEnough 10 = .ok (.ixor, 1) := by decide +kernel
theorem dX5_isEnough_11 : decode cX5_isEnough 11 = .ok (.iand, 1) := by decide +kernel
theorem dX5_isEnough_12 : decode cX5_isEnough 12 = .ok (.ifCond .ne 7, 3) := by decide +kernel
theorem dX5_isEnough_15 : decode cX5_isEnough 15 = .ok (.iconst 1, 1) := by decide +kernel
theorem dX5_isEnough_16 : decode cX5_isEnough 16 = .ok (.goto 4, 3) := by decide +kernel
theorem dX5_isEnough_19 : decode cX5_isEnough 19 = .ok (.iconst 0, 1) := by decide +kernel
theorem dX5_isEnough_20 : decode cX5_isEnough 20 = .ok (.ireturn, 1) := by decide +kernel
set_option maxRecDepth 20000 in
theorem ggX5_leastSet_X5_bits : GoodIn wsX5_leastSet wsX5_bits := goodIn_r _ [6] (by decide +kernel) (by decide +kernel)
set_option maxRecDepth 20000 in
theorem gX5_leastSet_X5_bits : GoodIn wsX5_leastSet (va_wsS RX5 140 yX5_bits wsX5_bits) := goodIn_app (goodIn_of _ (by decide +kernel)) ggX5_leastSet_X5_bits
set_option maxRecDepth 20000 in
theorem ggX5_leastSet_X5_isEnough : GoodIn wsX5_leastSet wsX5_isEnough := goodIn_r _ [10, 11, 12, 13, 14, 5, 15, 16, 17, 18, 19, 1, 2, 20, 21, 22, 23, 24, 25, 26, 27, 28, 29, 30, 31, 32, 33, 34, 35, 36, 37, 38, 39, 40, 41, 42, 43, 44, 45, 46, 47, 48, 49, 50, 51, 52, 53, 54, 55, 56, 57, 58, 59, 60, 61, 62, 63, 64, 65, 66, 67, 68, 69, 70, 71, 72, 73, 74, 75, 76, 77, 78, 79, 80, 81, 82, 83, 84, 85, 86, 87, 88] (by decide +kernel) (by decide +kernel)
set_option maxRecDepth 20000 in
theorem gX5_leastSet_X5_isEnough : GoodIn wsX5_leastSet (wsV RX5 143 RX5 yX5_isEnough wsX5_isEnough) := goodIn_app (goodIn_of _ (by decide +kernel)) ggX5_leastSet_X5_isEnough
theorem dX5_leastSet_0 : decode cX5_leastSet 0 = .ok (.iconst 0, 1) := by decide +kernel
theorem dX5_leastSet_1 : decode cX5_leastSet 1 = .ok (.istore_n 1, 1) := by decide +kernel
theorem dX5_leastSet_2 : decode cX5_leastSet 2 = .ok (.iconst 0, 1) := by decide +kernel
theorem dX5_leastSet_3 : decode cX5_leastSet 3 = .ok (.istore_n 2, 1) := by decide +kernel
theorem dX5_leastSet_4 : decode cX5_leastSet 4 = .ok (.iload_n 2, 1) := by decide +kernel
theorem dX5_leastSet_5 : decode cX5_leastSet 5 = .ok (.aload_n 0, 1) := by decide +kernel
theorem dX5_leastSet_6 : decode cX5_leastSet 6 = .ok (.getfield 80, 3) := by decide +kernel
theorem dX5_leastSet_9 : decode cX5_leastSet 9 = .ok (.if_icmp .ge 28, 3) := by decide +kernel
theorem dX5_leastSet_12 : decode cX5_leastSet 12 = .ok (.iload_n 1, 1) := by decide +kernel
theorem dX5_leastSet_13 : decode cX5_leastSet 13 = .ok (.aload_n 0, 1) := by decide +kernel
theorem dX5_leastSet_14 : decode cX5_leastSet 14 = .ok (.getfield 54, 3) := by decide +kernel
theorem dX5_leastSet_17 : decode cX5_leastSet 17 = .ok (.iload_n 2, 1) := by decide +kernel
theorem dX5_leastSet_18 : decode cX5_leastSet 18 = .ok (.baload, 1) := by decide +kernel
theorem dX5_leastSet_19 : decode cX5_leastSet 19 = .ok (.ifCond .eq 9, 3) := by decide +kernel
theorem dX5_leastSet_22 : decode cX5_leastSet 22 = .ok (.iconst 1, 1) := by decide +kernel
theorem dX5_leastSet_23 : decode cX5_leastSet 23 = .ok (.iload_n 2, 1) := by decide +kernel
theorem dX5_leastSet_24 : decode cX5_leastSet 24 = .ok (.ishl, 1) := by decide +kernel
theorem dX5_leastSet_25 : decode cX5_leastSet 25 = .ok (.goto 4, 3) := by decide +kernel
theorem dX5_leastSet_28 : decode cX5_leastSet 28 = .ok (.iconst 0, 1) := by decide +kernel
theorem dX5_leastSet_29 : decode cX5_leastSet 29 = .ok (.ior, 1) := by decide +kernel
theorem dX5_leastSet_30 : decode cX5_leastSet 30 = .ok (.istore_n 1, 1) := by decide +kernel
theorem dX5_leastSet_31 : decode cX5_leastSet 31 = .ok (.iinc 2 1, 3) := by decide +kernel
theorem dX5_leastSet_34 : decode cX5_leastSet 34 = .ok (.goto (-30), 3) := by decide +kernel
theorem dX5_leastSet_37 : decode cX5_leastSet 37 = .ok (.iconst (-1), 1) := by decide +kernel
theorem dX5_leastSet_38 : decode cX5_leastSet 38 = .ok (.istore_n 2, 1) := by decide +kernel
theorem dX5_leastSet_39 : decode cX5_leastSet 39 = .ok (.iconst 0, 1) := by decide +kernel
theorem dX5_leastSet_40 : decode cX5_leastSet 40 = .ok (.istore_n 3, 1) := by decide +kernel
theorem dX5_leastSet_41 : decode cX5_leastSet 41 = .ok (.iload_n 3, 1) := by decide +kernel
theorem dX5_leastSet_42 : decode cX5_leastSet 42 = .ok (.iconst 1, 1) := by decide +kernel
theorem dX5_leastSet_43 : decode cX5_leastSet 43 = .ok (.aload_n 0, 1) := by decide +kernel
theorem dX5_leastSet_44 : decode cX5_leastSet 44 = .ok (.getfield 80, 3) := by decide +kernel
theorem dX5_leastSet_47 : decode cX5_leastSet 47 = .ok (.ishl, 1) := by decide +kernel
theorem dX5_leastSet_48 : decode cX5_leastSet 48 = .ok (.if_icmp .ge 57, 3) := by decide +kernel
theorem dX5_leastSet_51 : decode cX5_leastSet 51 = .ok (.iload_n 2, 1) := by decide +kernel
theorem dX5_leastSet_52 : decode cX5_leastSet 52 = .ok (.iconst (-1), 1) := by decide +kernel
theorem dX5_leastSet_53 : decode cX5_leastSet 53 = .ok (.if_icmp .eq 14, 3) := by decide +kernel
theorem dX5_leastSet_56 : decode cX5_leastSet 56 = .ok (.iload_n 3, 1) := by decide +kernel
theorem dX5_leastSet_57 : decode cX5_leastSet 57 = .ok (.invokestatic 140, 3) := by decide +kernel
theorem dX5_leastSet_60 : decode cX5_leastSet 60 = .ok (.iload_n 2, 1) := by decide +kernel
theorem dX5_leastSet_61 : decode cX5_leastSet 61 = .ok (.invokestatic 140, 3) := by decide +kernel
theorem dX5_leastSet_64 : decode cX5_leastSet 64 = .ok (.if_icmp .ge 7, 3) := by decide +kernel
theorem dX5_leastSet_67 : decode cX5_leastSet 67 = .ok (.iconst 1, 1) := by decide +kernel
theorem dX5_leastSet_68 : decode cX5_leastSet 68 = .ok (.goto 4, 3) := by decide +kernel
theorem dX5_leastSet_71 : decode cX5_leastSet 71 = .ok (.iconst 0, 1) := by decide +kernel
theorem dX5_leastSet_72 : decode cX5_leastSet 72 = .ok (.istore 4, 2) := by decide +kernel
theorem dX5_leastSet_74 : decode cX5_leastSet 74 = .ok (.iload_n 3, 1) := by decide +kernel
theorem dX5_leastSet_75 : decode cX5_leastSet 75 = .ok (.iload_n 1, 1) := by decide +kernel
theorem dX5_leastSet_76 : decode cX5_leastSet 76 = .ok (.iand, 1) := by decide +kernel
theorem dX5_leastSet_77 : decode cX5_leastSet 77 = .ok (.ifCond .ne 20, 3) := by decide +kernel
theorem dX5_leastSet_80 : decode cX5_leastSet 80 = .ok (.iload 4, 2) := by decide +kernel
theorem dX5_leastSet_82 : decode cX5_leastSet 82 = .ok (.ifCond .eq 15, 3) := by decide +kernel
theorem dX5_leastSet_85 : decode cX5_leastSet 85 = .ok (.aload_n 0, 1) := by decide +kernel
theorem dX5_leastSet_86 : decode cX5_leastSet 86 = .ok (.iload_n 3, 1) := by decide +kernel
theorem dX5_leastSet_87 : decode cX5_leastSet 87 = .ok (.invokevirtual 143, 3) := by decide +kernel
theorem dX5_leastSet_90 : decode cX5_leastSet 90 = .ok (.ifCond .eq 7, 3) := by decide +kernel
theorem dX5_leastSet_93 : decode cX5_leastSet 93 = .ok (.iload_n 3, 1) := by decide +kernel
theorem dX5_leastSet_94 : decode cX5_leastSet 94 = .ok (.goto 4, 3) := by decide +kernel
theorem dX5_leastSet_97 : decode cX5_leastSet 97 = .ok (.iload_n 2, 1) := by decide +kernel
theorem dX5_leastSet_98 : decode cX5_leastSet 98 = .ok (.istore_n 2, 1) := by decide +kernel
theorem dX5_leastSet_99 : decode cX5_leastSet 99 = .ok (.iinc 3 1, 3) := by decide +kernel
theorem dX5_leastSet_102 : decode cX5_leastSet 102 = .ok (.goto (-61), 3) := by decide +kernel
theorem dX5_leastSet_105 : decode cX5_leastSet 105 = .ok (.iload_n 2, 1) := by decide +kernel
theorem dX5_leastSet_106 : decode cX5_leastSet 106 = .ok (.ireturn, 1) := by decide +kernel
set_option maxRecDepth 20000 in
theorem ggX5_least_X5_leastSet : GoodIn wsX5_least wsX5_leastSet := goodIn_r _ [6, 7, 8, 9, 10, 5, 11, 12, 13, 14, 15, 16, 17, 18, 19, 20, 21, 22, 23, 24, 25, 26, 27, 28, 29, 30, 31, 32, 33, 34, 35, 36, 37, 38, 39, 40, 41, 42, 43, 44, 45, 46, 47, 48, 49, 50, 51, 52, 53, 54, 55, 56, 57, 58, 59, 60, 61, 62, 63, 64, 65, 66, 67, 68, 69, 70, 71, 72, 73, 74, 75, 76, 77, 78, 79, 80, 81, 82, 83, 84, 85, 86, 87, 88, 89, 90, 91, 92, 93] (by decide +kernel) (by decide +kernel)
set_option maxRecDepth 20000 in
theorem gX5_least_X5_leastSet : GoodIn wsX5_least (wsV RX5 146 RX5 yX5_leastSet wsX5_leastSet) := goodIn_app (goodIn_of _ (by decide +kernel)) ggX5_least_X5_leastSet
theorem dX5_least_0 : decode cX5_least 0 = .ok (.aload_n 0, 1) := by decide +kernel
theorem dX5_least_1 : decode cX5_least 1 = .ok (.iconst 0, 1) := by decide +kernel
theorem dX5_least_2 : decode cX5_least 2 = .ok (.putfield 69, 3) := by decide +kernel
theorem dX5_least_5 : decode cX5_least 5 = .ok (.aload_n 0, 1) := by decide +kernel
theorem dX5_least_6 : decode cX5_least 6 = .ok (.invokevirtual 146, 3) := by decide +kernel
theorem dX5_least_9 : decode cX5_least 9 = .ok (.ireturn, 1) := by decide +kernel
set_option maxRecDepth 20000 in
theorem ggX5_leastAnew_X5_leastSet : GoodIn wsX5_leastAnew wsX5_leastSet := goodIn_r _ [6, 7, 8, 9, 10, 5, 11, 12, 13, 14, 15, 16, 17, 18, 19, 20, 21, 22, 23, 24, 25, 26, 27, 28, 29, 30, 31, 32, 33, 34, 35, 36, 37, 38, 39, 40, 41, 42, 43, 44, 45, 46, 47, 48, 49, 50, 51, 52, 53, 54, 55, 56, 57, 58, 59, 60, 61, 62, 63, 64, 65, 66, 67, 68, 69, 70, 71, 72, 73, 74, 75, 76, 77, 78, 79, 80, 81, 82, 83, 84, 85, 86, 87, 88, 89, 90, 91, 92, 93] (by decide +kernel) (by decide +kernel)
set_option maxRecDepth 20000 in
theorem gX5_leastAnew_X5_leastSet : GoodIn wsX5_leastAnew (wsV RX5 146 RX5 yX5_leastSet wsX5_leastSet) := goodIn_app (goodIn_of _ (by decide +kernel)) ggX5_leastAnew_X5_leastSet
set_option maxRecDepth 20000 in
theorem ggX5_leastAnew_X5_bits : GoodIn wsX5_leastAnew wsX5_bits := goodIn_r _ [11] (by decide +kernel) (by decide +kernel)
set_option maxRecDepth 20000 in
theorem gX5_leastAnew_X5_bits : GoodIn wsX5_leastAnew (va_wsS RX5 140 yX5_bits wsX5_bits) := goodIn_app (goodIn_of _ (by decide +kernel)) ggX5_leastAnew_X5_bits
theorem dX5_leastAnew_0 : decode cX5_leastAnew 0 = .ok (.aload_n 0, 1) := by decide +kernel
theorem dX5_leastAnew_1 : decode cX5_leastAnew 1 = .ok (.iconst 0, 1) := by decide +kernel
theorem dX5_leastAnew_2 : decode cX5_leastAnew 2 = .ok (.putfield 69, 3) := by decide +kernel
theorem dX5_leastAnew_5 : decode cX5_leastAnew 5 = .ok (.aload_n 0, 1) := by decide +kernel
theorem dX5_leastAnew_6 : decode cX5_leastAnew 6 = .ok (.invokevirtual 146, 3) := by decide +kernel
theorem dX5_leastAnew_9 : decode cX5_leastAnew 9 = .ok (.istore_n 1, 1) := by decide +kernel
theorem dX5_leastAnew_10 : decode cX5_leastAnew 10 = .ok (.iload_n 1, 1) := by decide +kernel
theorem dX5_leastAnew_11 : decode cX5_leastAnew 11 = .ok (.iconst (-1), 1) := by decide +kernel
theorem dX5_leastAnew_12 : decode cX5_leastAnew 12 = .ok (.if_icmp .ne 7, 3) := by decide +kernel
theorem dX5_leastAnew_15 : decode cX5_leastAnew 15 = .ok (.iconst (-1), 1) := by decide +kernel
theorem dX5_leastAnew_16 : decode cX5_leastAnew 16 = .ok (.goto 7, 3) := by decide +kernel
theorem dX5_leastAnew_19 : decode cX5_leastAnew 19 = .ok (.iload_n 1, 1) := by decide +kernel
theorem dX5_leastAnew_20 : decode cX5_leastAnew 20 = .ok (.invokestatic 140, 3) := by decide +kernel
theorem dX5_leastAnew_23 : decode cX5_leastAnew 23 = .ok (.ireturn, 1) := by decide +kernel
set_option maxRecDepth 20000 in
theorem ggX5_bears_X5_isSet : GoodIn wsX5_bears wsX5_isSet := goodIn_r _ [6, 1, 7, 8, 5, 9, 65, 66, 67, 68, 69, 70, 71, 72, 73, 74, 75, 76, 77, 78, 79, 80, 81, 82, 83, 84, 85, 86, 87, 88, 89, 90, 91, 92, 93, 94] (by decide +kernel) (by decide +kernel)
set_option maxRecDepth 20000 in
theorem gX5_bears_X5_isSet : GoodIn wsX5_bears (wsV RX5 134 RX5 yX5_isSet wsX5_isSet) := goodIn_app (goodIn_of _ (by decide +kernel)) ggX5_bears_X5_isSet
set_option maxRecDepth 20000 in
theorem ggX5_bears_X5_goesWell : GoodIn wsX5_bears wsX5_goesWell := goodIn_r _ [13, 14, 65, 66, 67, 68, 69, 70, 71, 72, 73, 74, 75, 76, 77, 78, 79, 80, 81, 82, 83, 84, 85, 86, 87, 88, 89, 90, 91, 92, 93, 94] (by decide +kernel) (by decide +kernel)
set_option maxRecDepth 20000 in
theorem gX5_bears_X5_goesWell : GoodIn wsX5_bears (wsV RX5 83 RX5 yX5_goesWell wsX5_goesWell) := goodIn_app (goodIn_of _ (by decide +kernel)) ggX5_bears_X5_goesWell
set_option maxRecDepth 20000 in
theorem ggX5_bears_X5_isEnough : GoodIn wsX5_bears wsX5_isEnough := goodIn_r _ [18, 19, 20, 21, 22, 5, 23, 24, 25, 26, 27, 1, 28, 29, 30, 31, 32, 33, 34, 35, 36, 37, 38, 39, 40, 41, 42, 43, 44, 45, 46, 7, 8, 9, 47, 48, 49, 50, 51, 52, 53, 54, 55, 56, 57, 58, 59, 60, 61, 62, 63, 64, 65, 66, 67, 68, 69, 70, 71, 72, 73, 74, 75, 76, 77, 78, 79, 80, 81, 82, 83, 84, 85, 86, 87, 88, 89, 90, 91, 92, 93, 94] (by decide +kernel) (by decide +kernel)
set_option maxRecDepth 20000 in
theorem gX5_bears_X5_isEnough : GoodIn wsX5_bears (wsV RX5 143 RX5 yX5_isEnough wsX5_isEnough) := goodIn_app (goodIn_of _ (by decide +kernel)) ggX5_bears_X5_isEnough
theorem dX5_bears_0 : decode cX5_bears 0 = .ok (.aload_n 0, 1) := by decide +kernel
theorem dX5_bears_1 : decode cX5_bears 1 = .ok (.aload_n 0, 1) := by decide +kernel
theorem dX5_bears_2 : decode cX5_bears 2 = .ok (.iload_n 1, 1) := by decide +kernel
theorem dX5_bears_3 : decode cX5_bears 3 = .ok (.invokevirtual 134, 3) := by decide +kernel
theorem dX5_bears_6 : decode cX5_bears 6 = .ok (.ifCond .eq 7, 3) := by decide +kernel
theorem dX5_bears_9 : decode cX5_bears 9 = .ok (.iconst 0, 1) := by decide +kernel
theorem dX5_bears_10 : decode cX5_bears 10 = .ok (.goto 4, 3) := by decide +kernel
theorem dX5_bears_13 : decode cX5_bears 13 = .ok (.iconst 1, 1) := by decide +kernel
theorem dX5_bears_14 : decode cX5_bears 14 = .ok (.invokevirtual 83, 3) := by decide +kernel
theorem dX5_bears_17 : decode cX5_bears 17 = .ok (.ifCond .ne 5, 3) := by decide +kernel
theorem dX5_bears_20 : decode cX5_bears 20 = .ok (.iconst 0, 1) := by decide +kernel
theorem dX5_bears_21 : decode cX5_bears 21 = .ok (.ireturn, 1) := by decide +kernel
theorem dX5_bears_22 : decode cX5_bears 22 = .ok (.aload_n 0, 1) := by decide +kernel
theorem dX5_bears_23 : decode cX5_bears 23 = .ok (.iload_n 1, 1) := by decide +kernel
theorem dX5_bears_24 : decode cX5_bears 24 = .ok (.invokevirtual 143, 3) := by decide +kernel
theorem dX5_bears_27 : decode cX5_bears 27 = .ok (.istore_n 2, 1) := by decide +kernel
theorem dX5_bears_28 : decode cX5_bears 28 = .ok (.iconst 0, 1) := by decide +kernel
theorem dX5_bears_29 : decode cX5_bears 29 = .ok (.istore_n 3, 1) := by decide +kernel
theorem dX5_bears_30 : decode cX5_bears 30 = .ok (.iload_n 3, 1) := by decide +kernel
theorem dX5_bears_31 : decode cX5_bears 31 = .ok (.aload_n 0, 1) := by decide +kernel
theorem dX5_bears_32 : decode cX5_bears 32 = .ok (.getfield 80, 3) := by decide +kernel
theorem dX5_bears_35 : decode cX5_bears 35 = .ok (.if_icmp .ge 41, 3) := by decide +kernel
theorem dX5_bears_38 : decode cX5_bears 38 = .ok (.iload_n 2, 1) := by decide +kernel
theorem dX5_bears_39 : decode cX5_bears 39 = .ok (.ifCond .eq 29, 3) := by decide +kernel
theorem dX5_bears_42 : decode cX5_bears 42 = .ok (.iload_n 1, 1) := by decide +kernel
theorem dX5_bears_43 : decode cX5_bears 43 = .ok (.iload_n 3, 1) := by decide +kernel
theorem dX5_bears_44 : decode cX5_bears 44 = .ok (.ishr, 1) := by decide +kernel
theorem dX5_bears_45 : decode cX5_bears 45 = .ok (.iconst 1, 1) := by decide +kernel
theorem dX5_bears_46 : decode cX5_bears 46 = .ok (.iand, 1) := by decide +kernel
theorem dX5_bears_47 : decode cX5_bears 47 = .ok (.ifCond .eq 17, 3) := by decide +kernel
theorem dX5_bears_50 : decode cX5_bears 50 = .ok (.aload_n 0, 1) := by decide +kernel
theorem dX5_bears_51 : decode cX5_bears 51 = .ok (.iload_n 1, 1) := by decide +kernel
theorem dX5_bears_52 : decode cX5_bears 52 = .ok (.iconst 1, 1) := by decide +kernel
theorem dX5_bears_53 : decode cX5_bears 53 = .ok (.iload_n 3, 1) := by decide +kernel
theorem dX5_bears_54 : decode cX5_bears 54 = .ok (.ishl, 1) := by decide +kernel
theorem dX5_bears_55 : decode cX5_bears 55 = .ok (.iconst (-1), 1) := by decide +kernel
theorem dX5_bears_56 : decode cX5_bears 56 = .ok (.ixor, 1) := by decide +kernel
theorem dX5_bears_57 : decode cX5_bears 57 = .ok (.iand, 1) := by decide +kernel
theorem dX5_bears_58 : decode cX5_bears 58 = .ok (.invokevirtual 143, 3) := by decide +kernel
theorem dX5_bears_61 : decode cX5_bears 61 = .ok (.ifCond .eq 7, 3) := by decide +kernel
theorem dX5_bears_64 : decode cX5_bears 64 = .ok (.iconst 1, 1) := by decide +kernel
theorem dX5_bears_65 : decode cX5_bears 65 = .ok (.goto 4, 3) := by decide +kernel
theorem dX5_bears_68 : decode cX5_bears 68 = .ok (.iconst 0, 1) := by decide +kernel
theorem dX5_bears_69 : decode cX5_bears 69 = .ok (.istore_n 2, 1) := by decide +kernel
theorem dX5_bears_70 : decode cX5_bears 70 = .ok (.iinc 3 1, 3) := by decide +kernel
theorem dX5_bears_73 : decode cX5_bears 73 = .ok (.goto (-43), 3) := by decide +kernel
theorem dX5_bears_76 : decode cX5_bears 76 = .ok (.iload_n 2, 1) := by decide +kernel
theorem dX5_bears_77 : decode cX5_bears 77 = .ok (.ireturn, 1) := by decide +kernel
set_option maxRecDepth 20000 in
theorem ggX5_meets_X5_cross : GoodIn wsX5_meets wsX5_cross := goodIn_r _ [8, 2, 1, 9, 13, 14, 15, 16, 17, 18, 19, 20, 21, 22, 23, 24, 25, 26, 27, 28, 29, 30, 31, 32, 33, 34, 35, 36, 37, 38, 39, 40, 41, 42] (by decide +kernel) (by decide +kernel)
set_option maxRecDepth 20000 in
theorem gX5_meets_X5_cross : GoodIn wsX5_meets (wsV RX5 109 RX5 yX5_cross wsX5_cross) := goodIn_app (goodIn_of _ (by decide +kernel)) ggX5_meets_X5_cross
set_option maxRecDepth 20000 in
theorem ggX5_meets_X5_at : GoodIn wsX5_meets wsX5_at := goodIn_r _ [12] (by decide +kernel) (by decide +kernel)
set_option maxRecDepth 20000 in
theorem gX5_meets_X5_at : GoodIn wsX5_meets (va_wsS RX5 90 yX5_at wsX5_at) := goodIn_app (goodIn_of _ (by decide +kernel)) ggX5_meets_X5_at
theorem dX5_meets_0 : decode cX5_meets 0 = .ok (.iconst 0, 1) := by decide +kernel
theorem dX5_meets_1 : decode cX5_meets 1 = .ok (.istore_n 3, 1) := by decide +kernel
theorem dX5_meets_2 : decode cX5_meets 2 = .ok (.aload_n 0, 1) := by decide +kernel
theorem dX5_meets_3 : decode cX5_meets 3 = .ok (.getfield 7, 3) := by decide +kernel
theorem dX5_meets_6 : decode cX5_meets 6 = .ok (.iload_n 2, 1) := by decide +kernel
theorem dX5_meets_7 : decode cX5_meets 7 = .ok (.iaload, 1) := by decide +kernel
theorem dX5_meets_8 : decode cX5_meets 8 = .ok (.iconst 1, 1) := by decide +kernel
theorem dX5_meets_9 : decode cX5_meets 9 = .ok (.iadd, 1) := by decide +kernel
theorem dX5_meets_10 : decode cX5_meets 10 = .ok (.istore 4, 2) := by decide +kernel
theorem dX5_meets_12 : decode cX5_meets 12 = .ok (.iload 4, 2) := by decide +kernel
theorem dX5_meets_14 : decode cX5_meets 14 = .ok (.aload_n 0, 1) := by decide +kernel
theorem dX5_meets_15 : decode cX5_meets 15 = .ok (.getfield 33, 3) := by decide +kernel
theorem dX5_meets_18 : decode cX5_meets 18 = .ok (.iload_n 1, 1) := by decide +kernel
theorem dX5_meets_19 : decode cX5_meets 19 = .ok (.iaload, 1) := by decide +kernel
theorem dX5_meets_20 : decode cX5_meets 20 = .ok (.if_icmp .ge 51, 3) := by decide +kernel
theorem dX5_meets_23 : decode cX5_meets 23 = .ok (.aload_n 0, 1) := by decide +kernel
theorem dX5_meets_24 : decode cX5_meets 24 = .ok (.getfield 19, 3) := by decide +kernel
theorem dX5_meets_27 : decode cX5_meets 27 = .ok (.aload_n 0, 1) := by decide +kernel
theorem dX5_meets_28 : decode cX5_meets 28 = .ok (.iload_n 1, 1) := by decide +kernel
theorem dX5_meets_29 : decode cX5_meets 29 = .ok (.iload_n 2, 1) := by decide +kernel
theorem dX5_meets_30 : decode cX5_meets 30 = .ok (.iload 4, 2) := by decide +kernel
theorem dX5_meets_32 : decode cX5_meets 32 = .ok (.invokevirtual 109, 3) := by decide +kernel
theorem dX5_meets_35 : decode cX5_meets 35 = .ok (.iload 4, 2) := by decide +kernel
theorem dX5_meets_37 : decode cX5_meets 37 = .ok (.invokestatic 90, 3) := by decide +kernel
theorem dX5_meets_40 : decode cX5_meets 40 = .ok (.iaload, 1) := by decide +kernel
theorem dX5_meets_41 : decode cX5_meets 41 = .ok (.istore 5, 2) := by decide +kernel
theorem dX5_meets_43 : decode cX5_meets 43 = .ok (.iload_n 3, 1) := by decide +kernel
theorem dX5_meets_44 : decode cX5_meets 44 = .ok (.ifCond .ne 15, 3) := by decide +kernel
theorem dX5_meets_47 : decode cX5_meets 47 = .ok (.iload 5, 2) := by decide +kernel
theorem dX5_meets_49 : decode cX5_meets 49 = .ok (.iconst 2, 1) := by decide +kernel
theorem dX5_meets_50 : decode cX5_meets 50 = .ok (.if_icmp .eq 9, 3) := by decide +kernel
theorem dX5_meets_53 : decode cX5_meets 53 = .ok (.iload 5, 2) := by decide +kernel
theorem dX5_meets_55 : decode cX5_meets 55 = .ok (.iconst 3, 1) := by decide +kernel
theorem dX5_meets_56 : decode cX5_meets 56 = .ok (.if_icmp .ne 7, 3) := by decide +kernel
theorem dX5_meets_59 : decode cX5_meets 59 = .ok (.iconst 1, 1) := by decide +kernel
theorem dX5_meets_60 : decode cX5_meets 60 = .ok (.goto 4, 3) := by decide +kernel
theorem dX5_meets_63 : decode cX5_meets 63 = .ok (.iconst 0, 1) := by decide +kernel
theorem dX5_meets_64 : decode cX5_meets 64 = .ok (.istore_n 3, 1) := by decide +kernel
theorem dX5_meets_65 : decode cX5_meets 65 = .ok (.iinc 4 1, 3) := by decide +kernel
theorem dX5_meets_68 : decode cX5_meets 68 = .ok (.goto (-56), 3) := by decide +kernel
theorem dX5_meets_71 : decode cX5_meets 71 = .ok (.iload_n 3, 1) := by decide +kernel
theorem dX5_meets_72 : decode cX5_meets 72 = .ok (.ireturn, 1) := by decide +kernel
set_option maxRecDepth 20000 in
theorem ggX5_breachesNow_X5_shines : GoodIn wsX5_breachesNow wsX5_shines := goodIn_r _ [6, 7, 8, 39, 40, 41, 42, 43, 44, 45, 46, 47, 48, 49, 50, 51, 52, 53, 54, 55, 56, 57, 58, 59, 60, 61, 62, 63, 64, 65, 66, 67, 68] (by decide +kernel) (by decide +kernel)
set_option maxRecDepth 20000 in
theorem gX5_breachesNow_X5_shines : GoodIn wsX5_breachesNow (wsV RX5 125 RX5 yX5_shines wsX5_shines) := goodIn_app (goodIn_of _ (by decide +kernel)) ggX5_breachesNow_X5_shines
set_option maxRecDepth 20000 in
theorem ggX5_breachesNow_X5_covers : GoodIn wsX5_breachesNow wsX5_covers := goodIn_r _ [12, 13, 14, 15, 16, 17, 5, 18, 39, 40, 41, 42, 43, 44, 45, 46, 47, 48, 49, 50, 51, 52, 53, 54, 55, 56, 57, 58, 59, 60, 61, 62, 63, 64, 65, 66, 67, 68] (by decide +kernel) (by decide +kernel)
set_option maxRecDepth 20000 in
theorem gX5_breachesNow_X5_covers : GoodIn wsX5_breachesNow (wsV RX5 113 RX5 yX5_covers wsX5_covers) := goodIn_app (goodIn_of _ (by decide +kernel)) ggX5_breachesNow_X5_covers
set_option maxRecDepth 20000 in
theorem ggX5_breachesNow_X5_isBlocked : GoodIn wsX5_breachesNow wsX5_isBlocked := goodIn_r _ [22, 23, 24, 25, 26, 27, 28, 29, 5, 30, 31, 32, 33, 34, 39, 40, 41, 42, 43, 44, 45, 46, 47, 48, 49, 50, 51, 52, 53, 54, 55, 56, 57, 58, 59, 60, 61, 62, 63, 64, 65, 66, 67, 68] (by decide +kernel) (by decide +kernel)
set_option maxRecDepth 20000 in
theorem gX5_breachesNow_X5_isBlocked : GoodIn wsX5_breachesNow (wsV RX5 116 RX5 yX5_isBlocked wsX5_isBlocked) := goodIn_app (goodIn_of _ (by decide +kernel)) ggX5_breachesNow_X5_isBlocked
set_option maxRecDepth 20000 in
theorem ggX5_breachesNow_X5_meets : GoodIn wsX5_breachesNow wsX5_meets := goodIn_r _ [38, 23, 24, 25, 27, 28, 29, 5, 30, 31, 32, 33, 34, 39, 40, 41, 42, 43, 44, 45, 46, 47, 48, 49, 50, 51, 52, 53, 54, 55, 56, 57, 58, 59, 60, 61, 62, 63, 64, 65, 66, 67, 68] (by decide +kernel) (by decide +kernel)
set_option maxRecDepth 20000 in
theorem gX5_breachesNow_X5_meets : GoodIn wsX5_breachesNow (wsV RX5 150 RX5 yX5_meets wsX5_meets) := goodIn_app (goodIn_of _ (by decide +kernel)) ggX5_breachesNow_X5_meets
theorem dX5_breachesNow_0 : decode cX5_breachesNow 0 = .ok (.iconst 0, 1) := by decide +kernel
theorem dX5_breachesNow_1 : decode cX5_breachesNow 1 = .ok (.istore_n 1, 1) := by decide +kernel
theorem dX5_breachesNow_2 : decode cX5_breachesNow 2 = .ok (.iconst 0, 1) := by decide +kernel
theorem dX5_breachesNow_3 : decode cX5_breachesNow 3 = .ok (.istore_n 2, 1) := by decide +kernel
theorem dX5_breachesNow_4 : decode cX5_breachesNow 4 = .ok (.iload_n 2, 1) := by decide +kernel
theorem dX5_breachesNow_5 : decode cX5_breachesNow 5 = .ok (.aload_n 0, 1) := by decide +kernel
theorem dX5_breachesNow_6 : decode cX5_breachesNow 6 = .ok (.getfield 80, 3) := by decide +kernel
theorem dX5_breachesNow_9 : decode cX5_breachesNow 9 = .ok (.if_icmp .ge 66, 3) := by decide +kernel
theorem dX5_breachesNow_12 : decode cX5_breachesNow 12 = .ok (.iconst 0, 1) := by decide +kernel
theorem dX5_breachesNow_13 : decode cX5_breachesNow 13 = .ok (.istore_n 3, 1) := by decide +kernel
theorem dX5_breachesNow_14 : decode cX5_breachesNow 14 = .ok (.iload_n 3, 1) := by decide +kernel
theorem dX5_breachesNow_15 : decode cX5_breachesNow 15 = .ok (.bipush 16, 2) := by decide +kernel
theorem dX5_breachesNow_17 : decode cX5_breachesNow 17 = .ok (.if_icmp .ge 52, 3) := by decide +kernel
theorem dX5_breachesNow_20 : decode cX5_breachesNow 20 = .ok (.iload_n 1, 1) := by decide +kernel
theorem dX5_breachesNow_21 : decode cX5_breachesNow 21 = .ok (.aload_n 0, 1) := by decide +kernel
theorem dX5_breachesNow_22 : decode cX5_breachesNow 22 = .ok (.iload_n 2, 1) := by decide +kernel
theorem dX5_breachesNow_23 : decode cX5_breachesNow 23 = .ok (.invokevirtual 125, 3) := by decide +kernel
theorem dX5_breachesNow_26 : decode cX5_breachesNow 26 = .ok (.ifCond .eq 34, 3) := by decide +kernel
theorem dX5_breachesNow_29 : decode cX5_breachesNow 29 = .ok (.aload_n 0, 1) := by decide +kernel
theorem dX5_breachesNow_30 : decode cX5_breachesNow 30 = .ok (.iload_n 2, 1) := by decide +kernel
theorem dX5_breachesNow_31 : decode cX5_breachesNow 31 = .ok (.iload_n 3, 1) := by decide +kernel
theorem dX5_breachesNow_32 : decode cX5_breachesNow 32 = .ok (.invokevirtual 113, 3) := by decide +kernel
theorem dX5_breachesNow_35 : decode cX5_breachesNow 35 = .ok (.ifCond .eq 25, 3) := by decide +kernel
theorem dX5_breachesNow_38 : decode cX5_breachesNow 38 = .ok (.aload_n 0, 1) := by decide +kernel
theorem dX5_breachesNow_39 : decode cX5_breachesNow 39 = .ok (.iload_n 2, 1) := by decide +kernel
theorem dX5_breachesNow_40 : decode cX5_breachesNow 40 = .ok (.iload_n 3, 1) := by decide +kernel
theorem dX5_breachesNow_41 : decode cX5_breachesNow 41 = .ok (.invokevirtual 116, 3) := by decide +kernel
theorem dX5_breachesNow_44 : decode cX5_breachesNow 44 = .ok (.ifCond .ne 16, 3) := by decide +kernel
theorem dX5_breachesNow_47 : decode cX5_breachesNow 47 = .ok (.aload_n 0, 1) := by decide +kernel
theorem dX5_breachesNow_48 : decode cX5_breachesNow 48 = .ok (.iload_n 2, 1) := by decide +kernel
theorem dX5_breachesNow_49 : decode cX5_breachesNow 49 = .ok (.iload_n 3, 1) := by decide +kernel
theorem dX5_breachesNow_50 : decode cX5_breachesNow 50 = .ok (.invokevirtual 150, 3) := by decide +kernel
theorem dX5_breachesNow_53 : decode cX5_breachesNow 53 = .ok (.ifCond .eq 7, 3) := by decide +kernel
theorem dX5_breachesNow_56 : decode cX5_breachesNow 56 = .ok (.iconst 1, 1) := by decide +kernel
theorem dX5_breachesNow_57 : decode cX5_breachesNow 57 = .ok (.goto 4, 3) := by decide +kernel
theorem dX5_breachesNow_60 : decode cX5_breachesNow 60 = .ok (.iconst 0, 1) := by decide +kernel
theorem dX5_breachesNow_61 : decode cX5_breachesNow 61 = .ok (.iadd, 1) := by decide +kernel
theorem dX5_breachesNow_62 : decode cX5_breachesNow 62 = .ok (.istore_n 1, 1) := by decide +kernel
theorem dX5_breachesNow_63 : decode cX5_breachesNow 63 = .ok (.iinc 3 1, 3) := by decide +kernel
theorem dX5_breachesNow_66 : decode cX5_breachesNow 66 = .ok (.goto (-52), 3) := by decide +kernel
theorem dX5_breachesNow_69 : decode cX5_breachesNow 69 = .ok (.iinc 2 1, 3) := by decide +kernel
theorem dX5_breachesNow_72 : decode cX5_breachesNow 72 = .ok (.goto (-68), 3) := by decide +kernel
theorem dX5_breachesNow_75 : decode cX5_breachesNow 75 = .ok (.iload_n 1, 1) := by decide +kernel
theorem dX5_breachesNow_76 : decode cX5_breachesNow 76 = .ok (.ireturn, 1) := by decide +kernel
set_option maxRecDepth 20000 in
theorem ggX5_breaches_X5_breachesNow : GoodIn wsX5_breaches wsX5_breachesNow := goodIn_r _ [6, 7, 8, 9, 10, 5, 11, 12, 13, 14, 15, 16, 17, 18, 19, 20, 21, 22, 23, 24, 25, 26, 27, 28, 29, 30, 31, 32, 33, 34, 35, 36, 37, 38, 39, 40, 41, 42, 43, 44, 45, 46, 47, 48, 49, 50, 51, 52, 53, 54, 55, 56, 57, 58, 59, 60, 61, 62, 63, 64, 65, 66, 67, 68, 69, 70, 71, 72, 73] (by decide +kernel) (by decide +kernel)
set_option maxRecDepth 20000 in
theorem gX5_breaches_X5_breachesNow : GoodIn wsX5_breaches (wsV RX5 153 RX5 yX5_breachesNow wsX5_breachesNow) := goodIn_app (goodIn_of _ (by decide +kernel)) ggX5_breaches_X5_breachesNow
theorem dX5_breaches_0 : decode cX5_breaches 0 = .ok (.aload_n 0, 1) := by decide +kernel
theorem dX5_breaches_1 : decode cX5_breaches 1 = .ok (.iconst 0, 1) := by decide +kernel
theorem dX5_breaches_2 : decode cX5_breaches 2 = .ok (.putfield 69, 3) := by decide +kernel
theorem dX5_breaches_5 : decode cX5_breaches 5 = .ok (.aload_n 0, 1) := by decide +kernel
theorem dX5_breaches_6 : decode cX5_breaches 6 = .ok (.invokevirtual 153, 3) := by decide +kernel
theorem dX5_breaches_9 : decode cX5_breaches 9 = .ok (.ireturn, 1) := by decide +kernel
set_option maxRecDepth 20000 in
theorem ggX5_curfew_X5_in : GoodIn wsX5_curfew wsX5_in := goodIn_r _ [6] (by decide +kernel) (by decide +kernel)
set_option maxRecDepth 20000 in
theorem gX5_curfew_X5_in : GoodIn wsX5_curfew (va_wsS RX5 72 yX5_in wsX5_in) := goodIn_app (goodIn_of _ (by decide +kernel)) ggX5_curfew_X5_in
set_option maxRecDepth 20000 in
theorem ggX5_curfew_X5_goesWell : GoodIn wsX5_curfew wsX5_goesWell := goodIn_r _ [10, 11, 12, 13, 14, 15, 16, 17, 18, 19, 20, 21, 22, 23, 24, 25, 26, 27, 28, 29, 30, 31, 32, 33, 34, 35, 36, 37, 38, 39, 40, 41] (by decide +kernel) (by decide +kernel)
set_option maxRecDepth 20000 in
theorem gX5_curfew_X5_goesWell : GoodIn wsX5_curfew (wsV RX5 83 RX5 yX5_goesWell wsX5_goesWell) := goodIn_app (goodIn_of _ (by decide +kernel)) ggX5_curfew_X5_goesWell
theorem dX5_curfew_0 : decode cX5_curfew 0 = .ok (.aload_n 0, 1) := by decide +kernel
theorem dX5_curfew_1 : decode cX5_curfew 1 = .ok (.iload_n 1, 1) := by decide +kernel
theorem dX5_curfew_2 : decode cX5_curfew 2 = .ok (.iconst 0, 1) := by decide +kernel
theorem dX5_curfew_3 : decode cX5_curfew 3 = .ok (.sipush 1439, 3) := by decide +kernel
theorem dX5_curfew_6 : decode cX5_curfew 6 = .ok (.invokestatic 72, 3) := by decide +kernel
theorem dX5_curfew_9 : decode cX5_curfew 9 = .ok (.ifCond .eq 18, 3) := by decide +kernel
theorem dX5_curfew_12 : decode cX5_curfew 12 = .ok (.iload_n 2, 1) := by decide +kernel
theorem dX5_curfew_13 : decode cX5_curfew 13 = .ok (.iload_n 1, 1) := by decide +kernel
theorem dX5_curfew_14 : decode cX5_curfew 14 = .ok (.sipush 1440, 3) := by decide +kernel
theorem dX5_curfew_17 : decode cX5_curfew 17 = .ok (.invokestatic 72, 3) := by decide +kernel
theorem dX5_curfew_20 : decode cX5_curfew 20 = .ok (.ifCond .eq 7, 3) := by decide +kernel
theorem dX5_curfew_23 : decode cX5_curfew 23 = .ok (.iconst 0, 1) := by decide +kernel
theorem dX5_curfew_24 : decode cX5_curfew 24 = .ok (.goto 4, 3) := by decide +kernel
theorem dX5_curfew_27 : decode cX5_curfew 27 = .ok (.iconst 1, 1) := by decide +kernel
theorem dX5_curfew_28 : decode cX5_curfew 28 = .ok (.invokevirtual 83, 3) := by decide +kernel
theorem dX5_curfew_31 : decode cX5_curfew 31 = .ok (.ifCond .eq 13, 3) := by decide +kernel
theorem dX5_curfew_34 : decode cX5_curfew 34 = .ok (.aload_n 0, 1) := by decide +kernel
theorem dX5_curfew_35 : decode cX5_curfew 35 = .ok (.iload_n 1, 1) := by decide +kernel
theorem dX5_curfew_36 : decode cX5_curfew 36 = .ok (.putfield 156, 3) := by decide +kernel
theorem dX5_curfew_39 : decode cX5_curfew 39 = .ok (.aload_n 0, 1) := by decide +kernel
theorem dX5_curfew_40 : decode cX5_curfew 40 = .ok (.iload_n 2, 1) := by decide +kernel
theorem dX5_curfew_41 : decode cX5_curfew 41 = .ok (.putfield 159, 3) := by decide +kernel
theorem dX5_curfew_44 : decode cX5_curfew 44 = .ok (.return_, 1) := by decide +kernel
set_option maxRecDepth 20000 in
theorem ggX5_ready_X5_isProjector : GoodIn wsX5_ready wsX5_isProjector := goodIn_r _ [7, 8, 9, 10, 6, 11, 17, 18, 19, 20, 21, 22, 23, 24, 25, 26, 27, 28, 29, 30, 31, 32, 33, 34, 35, 36, 37, 38, 39, 40, 41, 42, 43, 44, 45, 46] (by decide +kernel) (by decide +kernel)
set_option maxRecDepth 20000 in
theorem gX5_ready_X5_isProjector : GoodIn wsX5_ready (wsV RX5 98 RX5 yX5_isProjector wsX5_isProjector) := goodIn_app (goodIn_of _ (by decide +kernel)) ggX5_ready_X5_isProjector
set_option maxRecDepth 20000 in
theorem ggX5_ready_X5_in : GoodIn wsX5_ready wsX5_in := goodIn_r _ [11] (by decide +kernel) (by decide +kernel)
set_option maxRecDepth 20000 in
theorem gX5_ready_X5_in : GoodIn wsX5_ready (va_wsS RX5 72 yX5_in wsX5_in) := goodIn_app (goodIn_of _ (by decide +kernel)) ggX5_ready_X5_in
set_option maxRecDepth 20000 in
theorem ggX5_ready_X5_goesWell : GoodIn wsX5_ready wsX5_goesWell := goodIn_r _ [15, 16, 17, 18, 19, 20, 21, 22, 23, 24, 25, 26, 27, 28, 29, 30, 31, 32, 33, 34, 35, 36, 37, 38, 39, 40, 41, 42, 43, 44, 45, 46] (by decide +kernel) (by decide +kernel)
set_option maxRecDepth 20000 in
theorem gX5_ready_X5_goesWell : GoodIn wsX5_ready (wsV RX5 83 RX5 yX5_goesWell wsX5_goesWell) := goodIn_app (goodIn_of _ (by decide +kernel)) ggX5_ready_X5_goesWell
theorem dX5_ready_0 : decode cX5_ready 0 = .ok (.aload_n 0, 1) := by decide +kernel
theorem dX5_ready_1 : decode cX5_ready 1 = .ok (.iload_n 1, 1) := by decide +kernel
theorem dX5_ready_2 : decode cX5_ready 2 = .ok (.invokevirtual 98, 3) := by decide +kernel
theorem dX5_ready_5 : decode cX5_ready 5 = .ok (.istore_n 3, 1) := by decide +kernel
theorem dX5_ready_6 : decode cX5_ready 6 = .ok (.aload_n 0, 1) := by decide +kernel
theorem dX5_ready_7 : decode cX5_ready 7 = .ok (.iload_n 3, 1) := by decide +kernel
theorem dX5_ready_8 : decode cX5_ready 8 = .ok (.ifCond .ne 7, 3) := by decide +kernel
theorem dX5_ready_11 : decode cX5_ready 11 = .ok (.iconst 1, 1) := by decide +kernel
theorem dX5_ready_12 : decode cX5_ready 12 = .ok (.goto 18, 3) := by decide +kernel
theorem dX5_ready_15 : decode cX5_ready 15 = .ok (.iload_n 2, 1) := by decide +kernel
theorem dX5_ready_16 : decode cX5_ready 16 = .ok (.iconst 0, 1) := by decide +kernel
theorem dX5_ready_17 : decode cX5_ready 17 = .ok (.ldc 105, 2) := by decide +kernel
theorem dX5_ready_19 : decode cX5_ready 19 = .ok (.invokestatic 72, 3) := by decide +kernel
theorem dX5_ready_22 : decode cX5_ready 22 = .ok (.ifCond .eq 7, 3) := by decide +kernel
theorem dX5_ready_25 : decode cX5_ready 25 = .ok (.iconst 0, 1) := by decide +kernel
theorem dX5_ready_26 : decode cX5_ready 26 = .ok (.goto 4, 3) := by decide +kernel
theorem dX5_ready_29 : decode cX5_ready 29 = .ok (.iconst 2, 1) := by decide +kernel
theorem dX5_ready_30 : decode cX5_ready 30 = .ok (.invokevirtual 83, 3) := by decide +kernel
theorem dX5_ready_33 : decode cX5_ready 33 = .ok (.ifCond .ne 5, 3) := by decide +kernel
theorem dX5_ready_36 : decode cX5_ready 36 = .ok (.iconst 0, 1) := by decide +kernel
theorem dX5_ready_37 : decode cX5_ready 37 = .ok (.ireturn, 1) := by decide +kernel
theorem dX5_ready_38 : decode cX5_ready 38 = .ok (.aload_n 0, 1) := by decide +kernel
theorem dX5_ready_39 : decode cX5_ready 39 = .ok (.getfield 57, 3) := by decide +kernel
theorem dX5_ready_42 : decode cX5_ready 42 = .ok (.iload_n 1, 1) := by decide +kernel
theorem dX5_ready_43 : decode cX5_ready 43 = .ok (.iaload, 1) := by decide +kernel
theorem dX5_ready_44 : decode cX5_ready 44 = .ok (.istore 4, 2) := by decide +kernel
theorem dX5_ready_46 : decode cX5_ready 46 = .ok (.aload_n 0, 1) := by decide +kernel
theorem dX5_ready_47 : decode cX5_ready 47 = .ok (.getfield 57, 3) := by decide +kernel
theorem dX5_ready_50 : decode cX5_ready 50 = .ok (.iload_n 1, 1) := by decide +kernel
theorem dX5_ready_51 : decode cX5_ready 51 = .ok (.iload_n 2, 1) := by decide +kernel
theorem dX5_ready_52 : decode cX5_ready 52 = .ok (.iastore, 1) := by decide +kernel
theorem dX5_ready_53 : decode cX5_ready 53 = .ok (.iload 4, 2) := by decide +kernel
theorem dX5_ready_55 : decode cX5_ready 55 = .ok (.ireturn, 1) := by decide +kernel
set_option maxRecDepth 20000 in
theorem ggX5_propose_X5_in : GoodIn wsX5_propose wsX5_in := goodIn_r _ [5] (by decide +kernel) (by decide +kernel)
set_option maxRecDepth 20000 in
theorem gX5_propose_X5_in : GoodIn wsX5_propose (va_wsS RX5 72 yX5_in wsX5_in) := goodIn_app (goodIn_of _ (by decide +kernel)) ggX5_propose_X5_in
set_option maxRecDepth 20000 in
theorem ggX5_propose_X5_goesWell : GoodIn wsX5_propose wsX5_goesWell := goodIn_r _ [9, 10, 11, 12, 13, 14, 15, 16, 17, 18, 19, 20, 21, 22, 23, 24, 25, 26, 27, 28, 29, 30, 31, 32, 33, 34, 35, 36, 37, 38, 39, 40] (by decide +kernel) (by decide +kernel)
set_option maxRecDepth 20000 in
theorem gX5_propose_X5_goesWell : GoodIn wsX5_propose (wsV RX5 83 RX5 yX5_goesWell wsX5_goesWell) := goodIn_app (goodIn_of _ (by decide +kernel)) ggX5_propose_X5_goesWell
theorem dX5_propose_0 : decode cX5_propose 0 = .ok (.iload_n 1, 1) := by decide +kernel
theorem dX5_propose_1 : decode cX5_propose 1 = .ok (.iconst 0, 1) := by decide +kernel
theorem dX5_propose_2 : decode cX5_propose 2 = .ok (.iconst 3, 1) := by decide +kernel
theorem dX5_propose_3 : decode cX5_propose 3 = .ok (.invokestatic 72, 3) := by decide +kernel
theorem dX5_propose_6 : decode cX5_propose 6 = .ok (.istore_n 3, 1) := by decide +kernel
theorem dX5_propose_7 : decode cX5_propose 7 = .ok (.aload_n 0, 1) := by decide +kernel
theorem dX5_propose_8 : decode cX5_propose 8 = .ok (.iload_n 3, 1) := by decide +kernel
theorem dX5_propose_9 : decode cX5_propose 9 = .ok (.ifCond .ne 7, 3) := by decide +kernel
theorem dX5_propose_12 : decode cX5_propose 12 = .ok (.iconst 1, 1) := by decide +kernel
theorem dX5_propose_13 : decode cX5_propose 13 = .ok (.goto 19, 3) := by decide +kernel
theorem dX5_propose_16 : decode cX5_propose 16 = .ok (.iload_n 2, 1) := by decide +kernel
theorem dX5_propose_17 : decode cX5_propose 17 = .ok (.iconst 0, 1) := by decide +kernel
theorem dX5_propose_18 : decode cX5_propose 18 = .ok (.sipush 999, 3) := by decide +kernel
theorem dX5_propose_21 : decode cX5_propose 21 = .ok (.invokestatic 72, 3) := by decide +kernel
theorem dX5_propose_24 : decode cX5_propose 24 = .ok (.ifCond .eq 7, 3) := by decide +kernel
theorem dX5_propose_27 : decode cX5_propose 27 = .ok (.iconst 0, 1) := by decide +kernel
theorem dX5_propose_28 : decode cX5_propose 28 = .ok (.goto 4, 3) := by decide +kernel
theorem dX5_propose_31 : decode cX5_propose 31 = .ok (.iconst 2, 1) := by decide +kernel
theorem dX5_propose_32 : decode cX5_propose 32 = .ok (.invokevirtual 83, 3) := by decide +kernel
theorem dX5_propose_35 : decode cX5_propose 35 = .ok (.ifCond .ne 5, 3) := by decide +kernel
theorem dX5_propose_38 : decode cX5_propose 38 = .ok (.iconst 0, 1) := by decide +kernel
theorem dX5_propose_39 : decode cX5_propose 39 = .ok (.ireturn, 1) := by decide +kernel
theorem dX5_propose_40 : decode cX5_propose 40 = .ok (.aload_n 0, 1) := by decide +kernel
theorem dX5_propose_41 : decode cX5_propose 41 = .ok (.getfield 66, 3) := by decide +kernel
theorem dX5_propose_44 : decode cX5_propose 44 = .ok (.iload_n 1, 1) := by decide +kernel
theorem dX5_propose_45 : decode cX5_propose 45 = .ok (.iaload, 1) := by decide +kernel
theorem dX5_propose_46 : decode cX5_propose 46 = .ok (.istore 4, 2) := by decide +kernel
theorem dX5_propose_48 : decode cX5_propose 48 = .ok (.aload_n 0, 1) := by decide +kernel
theorem dX5_propose_49 : decode cX5_propose 49 = .ok (.getfield 66, 3) := by decide +kernel
theorem dX5_propose_52 : decode cX5_propose 52 = .ok (.iload_n 1, 1) := by decide +kernel
theorem dX5_propose_53 : decode cX5_propose 53 = .ok (.iload_n 2, 1) := by decide +kernel
theorem dX5_propose_54 : decode cX5_propose 54 = .ok (.iastore, 1) := by decide +kernel
theorem dX5_propose_55 : decode cX5_propose 55 = .ok (.iload 4, 2) := by decide +kernel
theorem dX5_propose_57 : decode cX5_propose 57 = .ok (.ireturn, 1) := by decide +kernel
set_option maxRecDepth 20000 in
theorem ggX5_answer_X5_in : GoodIn wsX5_answer wsX5_in := goodIn_r _ [6] (by decide +kernel) (by decide +kernel)
set_option maxRecDepth 20000 in
theorem gX5_answer_X5_in : GoodIn wsX5_answer (va_wsS RX5 72 yX5_in wsX5_in) := goodIn_app (goodIn_of _ (by decide +kernel)) ggX5_answer_X5_in
set_option maxRecDepth 20000 in
theorem ggX5_answer_X5_goesWell : GoodIn wsX5_answer wsX5_goesWell := goodIn_r _ [10, 11, 12, 13, 14, 15, 16, 17, 18, 19, 20, 21, 22, 23, 24, 25, 26, 27, 28, 29, 30, 31, 32, 33, 34, 35, 36, 37, 38, 39, 40, 41] (by decide +kernel) (by decide +kernel)
set_option maxRecDepth 20000 in
theorem gX5_answer_X5_goesWell : GoodIn wsX5_answer (wsV RX5 83 RX5 yX5_goesWell wsX5_goesWell) := goodIn_app (goodIn_of _ (by decide +kernel)) ggX5_answer_X5_goesWell
theorem dX5_answer_0 : decode cX5_answer 0 = .ok (.iload_n 1, 1) := by decide +kernel
theorem dX5_answer_1 : decode cX5_answer 1 = .ok (.iconst 0, 1) := by decide +kernel
theorem dX5_answer_2 : decode cX5_answer 2 = .ok (.iconst 3, 1) := by decide +kernel
theorem dX5_answer_3 : decode cX5_answer 3 = .ok (.invokestatic 72, 3) := by decide +kernel
theorem dX5_answer_6 : decode cX5_answer 6 = .ok (.istore_n 3, 1) := by decide +kernel
theorem dX5_answer_7 : decode cX5_answer 7 = .ok (.aload_n 0, 1) := by decide +kernel
theorem dX5_answer_8 : decode cX5_answer 8 = .ok (.iload_n 3, 1) := by decide +kernel
theorem dX5_answer_9 : decode cX5_answer 9 = .ok (.ifCond .ne 7, 3) := by decide +kernel
theorem dX5_answer_12 : decode cX5_answer 12 = .ok (.iconst 1, 1) := by decide +kernel
theorem dX5_answer_13 : decode cX5_answer 13 = .ok (.goto 18, 3) := by decide +kernel
theorem dX5_answer_16 : decode cX5_answer 16 = .ok (.aload_n 0, 1) := by decide +kernel
theorem dX5_answer_17 : decode cX5_answer 17 = .ok (.getfield 66, 3) := by decide +kernel
theorem dX5_answer_20 : decode cX5_answer 20 = .ok (.iload_n 1, 1) := by decide +kernel
theorem dX5_answer_21 : decode cX5_answer 21 = .ok (.iaload, 1) := by decide +kernel
theorem dX5_answer_22 : decode cX5_answer 22 = .ok (.iconst (-1), 1) := by decide +kernel
theorem dX5_answer_23 : decode cX5_answer 23 = .ok (.if_icmp .ne 7, 3) := by decide +kernel
theorem dX5_answer_26 : decode cX5_answer 26 = .ok (.iconst 2, 1) := by decide +kernel
theorem dX5_answer_27 : decode cX5_answer 27 = .ok (.goto 4, 3) := by decide +kernel
theorem dX5_answer_30 : decode cX5_answer 30 = .ok (.iconst 0, 1) := by decide +kernel
theorem dX5_answer_31 : decode cX5_answer 31 = .ok (.invokevirtual 83, 3) := by decide +kernel
theorem dX5_answer_34 : decode cX5_answer 34 = .ok (.ifCond .ne 5, 3) := by decide +kernel
theorem dX5_answer_37 : decode cX5_answer 37 = .ok (.iconst 0, 1) := by decide +kernel
theorem dX5_answer_38 : decode cX5_answer 38 = .ok (.ireturn, 1) := by decide +kernel
theorem dX5_answer_39 : decode cX5_answer 39 = .ok (.aload_n 0, 1) := by decide +kernel
theorem dX5_answer_40 : decode cX5_answer 40 = .ok (.getfield 63, 3) := by decide +kernel
theorem dX5_answer_43 : decode cX5_answer 43 = .ok (.iload_n 1, 1) := by decide +kernel
theorem dX5_answer_44 : decode cX5_answer 44 = .ok (.iload_n 2, 1) := by decide +kernel
theorem dX5_answer_45 : decode cX5_answer 45 = .ok (.ifCond .eq 12, 3) := by decide +kernel
theorem dX5_answer_48 : decode cX5_answer 48 = .ok (.aload_n 0, 1) := by decide +kernel
theorem dX5_answer_49 : decode cX5_answer 49 = .ok (.getfield 66, 3) := by decide +kernel
theorem dX5_answer_52 : decode cX5_answer 52 = .ok (.iload_n 1, 1) := by decide +kernel
theorem dX5_answer_53 : decode cX5_answer 53 = .ok (.iaload, 1) := by decide +kernel
theorem dX5_answer_54 : decode cX5_answer 54 = .ok (.goto 9, 3) := by decide +kernel
theorem dX5_answer_57 : decode cX5_answer 57 = .ok (.aload_n 0, 1) := by decide +kernel
theorem dX5_answer_58 : decode cX5_answer 58 = .ok (.getfield 63, 3) := by decide +kernel
theorem dX5_answer_61 : decode cX5_answer 61 = .ok (.iload_n 1, 1) := by decide +kernel
theorem dX5_answer_62 : decode cX5_answer 62 = .ok (.iaload, 1) := by decide +kernel
theorem dX5_answer_63 : decode cX5_answer 63 = .ok (.iastore, 1) := by decide +kernel
theorem dX5_answer_64 : decode cX5_answer 64 = .ok (.aload_n 0, 1) := by decide +kernel
theorem dX5_answer_65 : decode cX5_answer 65 = .ok (.getfield 66, 3) := by decide +kernel
theorem dX5_answer_68 : decode cX5_answer 68 = .ok (.iload_n 1, 1) := by decide +kernel
theorem dX5_answer_69 : decode cX5_answer 69 = .ok (.iconst (-1), 1) := by decide +kernel
theorem dX5_answer_70 : decode cX5_answer 70 = .ok (.iastore, 1) := by decide +kernel
theorem dX5_answer_71 : decode cX5_answer 71 = .ok (.aload_n 0, 1) := by decide +kernel
theorem dX5_answer_72 : decode cX5_answer 72 = .ok (.getfield 63, 3) := by decide +kernel
theorem dX5_answer_75 : decode cX5_answer 75 = .ok (.iload_n 1, 1) := by decide +kernel
theorem dX5_answer_76 : decode cX5_answer 76 = .ok (.iaload, 1) := by decide +kernel
theorem dX5_answer_77 : decode cX5_answer 77 = .ok (.ireturn, 1) := by decide +kernel
set_option maxRecDepth 20000 in
theorem ggX5_scene_X5_in : GoodIn wsX5_scene wsX5_in := goodIn_r _ [6] (by decide +kernel) (by decide +kernel)
set_option maxRecDepth 20000 in
theorem gX5_scene_X5_in : GoodIn wsX5_scene (va_wsS RX5 72 yX5_in wsX5_in) := goodIn_app (goodIn_of _ (by decide +kernel)) ggX5_scene_X5_in
set_option maxRecDepth 20000 in
theorem ggX5_scene_X5_goesWell : GoodIn wsX5_scene wsX5_goesWell := goodIn_r _ [10, 11, 12, 13, 14, 15, 16, 17, 18, 19, 20, 21, 22, 23, 24, 25, 26, 27, 28, 29, 30, 31, 32, 33, 34, 35, 36, 37, 38, 39, 40, 41] (by decide +kernel) (by decide +kernel)
set_option maxRecDepth 20000 in
theorem gX5_scene_X5_goesWell : GoodIn wsX5_scene (wsV RX5 83 RX5 yX5_goesWell wsX5_goesWell) := goodIn_app (goodIn_of _ (by decide +kernel)) ggX5_scene_X5_goesWell
theorem dX5_scene_0 : decode cX5_scene 0 = .ok (.aload_n 0, 1) := by decide +kernel
theorem dX5_scene_1 : decode cX5_scene 1 = .ok (.iload_n 1, 1) := by decide +kernel
theorem dX5_scene_2 : decode cX5_scene 2 = .ok (.iconst 0, 1) := by decide +kernel
theorem dX5_scene_3 : decode cX5_scene 3 = .ok (.iconst 3, 1) := by decide +kernel
theorem dX5_scene_4 : decode cX5_scene 4 = .ok (.invokestatic 72, 3) := by decide +kernel
theorem dX5_scene_7 : decode cX5_scene 7 = .ok (.ifCond .eq 7, 3) := by decide +kernel
theorem dX5_scene_10 : decode cX5_scene 10 = .ok (.iconst 0, 1) := by decide +kernel
theorem dX5_scene_11 : decode cX5_scene 11 = .ok (.goto 4, 3) := by decide +kernel
theorem dX5_scene_14 : decode cX5_scene 14 = .ok (.iconst 1, 1) := by decide +kernel
theorem dX5_scene_15 : decode cX5_scene 15 = .ok (.invokevirtual 83, 3) := by decide +kernel
theorem dX5_scene_18 : decode cX5_scene 18 = .ok (.ifCond .eq 25, 3) := by decide +kernel
theorem dX5_scene_21 : decode cX5_scene 21 = .ok (.iload_n 2, 1) := by decide +kernel
theorem dX5_scene_22 : decode cX5_scene 22 = .ok (.ifCond .eq 12, 3) := by decide +kernel
theorem dX5_scene_25 : decode cX5_scene 25 = .ok (.aload_n 0, 1) := by decide +kernel
theorem dX5_scene_26 : decode cX5_scene 26 = .ok (.getfield 66, 3) := by decide +kernel
theorem dX5_scene_29 : decode cX5_scene 29 = .ok (.iload_n 1, 1) := by decide +kernel
theorem dX5_scene_30 : decode cX5_scene 30 = .ok (.iaload, 1) := by decide +kernel
theorem dX5_scene_31 : decode cX5_scene 31 = .ok (.goto 13, 3) := by decide +kernel
theorem dX5_scene_34 : decode cX5_scene 34 = .ok (.aload_n 0, 1) := by decide +kernel
theorem dX5_scene_35 : decode cX5_scene 35 = .ok (.getfield 63, 3) := by decide +kernel
theorem dX5_scene_38 : decode cX5_scene 38 = .ok (.iload_n 1, 1) := by decide +kernel
theorem dX5_scene_39 : decode cX5_scene 39 = .ok (.iaload, 1) := by decide +kernel
theorem dX5_scene_40 : decode cX5_scene 40 = .ok (.goto 4, 3) := by decide +kernel
theorem dX5_scene_43 : decode cX5_scene 43 = .ok (.iconst 0, 1) := by decide +kernel
theorem dX5_scene_44 : decode cX5_scene 44 = .ok (.ireturn, 1) := by decide +kernel
theorem dX5_on_0 : decode cX5_on 0 = .ok (.iconst 0, 1) := by decide +kernel
theorem dX5_on_1 : decode cX5_on 1 = .ok (.istore_n 1, 1) := by decide +kernel
theorem dX5_on_2 : decode cX5_on 2 = .ok (.iconst 0, 1) := by decide +kernel
theorem dX5_on_3 : decode cX5_on 3 = .ok (.istore_n 2, 1) := by decide +kernel
theorem dX5_on_4 : decode cX5_on 4 = .ok (.iload_n 2, 1) := by decide +kernel
theorem dX5_on_5 : decode cX5_on 5 = .ok (.aload_n 0, 1) := by decide +kernel
theorem dX5_on_6 : decode cX5_on 6 = .ok (.getfield 80, 3) := by decide +kernel
theorem dX5_on_9 : decode cX5_on 9 = .ok (.if_icmp .ge 26, 3) := by decide +kernel
theorem dX5_on_12 : decode cX5_on 12 = .ok (.iload_n 1, 1) := by decide +kernel
theorem dX5_on_13 : decode cX5_on 13 = .ok (.aload_n 0, 1) := by decide +kernel
theorem dX5_on_14 : decode cX5_on 14 = .ok (.getfield 51, 3) := by decide +kernel
theorem dX5_on_17 : decode cX5_on 17 = .ok (.iload_n 2, 1) := by decide +kernel
theorem dX5_on_18 : decode cX5_on 18 = .ok (.baload, 1) := by decide +kernel
theorem dX5_on_19 : decode cX5_on 19 = .ok (.ifCond .eq 7, 3) := by decide +kernel
theorem dX5_on_22 : decode cX5_on 22 = .ok (.iconst 1, 1) := by decide +kernel
theorem dX5_on_23 : decode cX5_on 23 = .ok (.goto 4, 3) := by decide +kernel
theorem dX5_on_26 : decode cX5_on 26 = .ok (.iconst 0, 1) := by decide +kernel
theorem dX5_on_27 : decode cX5_on 27 = .ok (.iadd, 1) := by decide +kernel
theorem dX5_on_28 : decode cX5_on 28 = .ok (.istore_n 1, 1) := by decide +kernel
theorem dX5_on_29 : decode cX5_on 29 = .ok (.iinc 2 1, 3) := by decide +kernel
theorem dX5_on_32 : decode cX5_on 32 = .ok (.goto (-28), 3) := by decide +kernel
theorem dX5_on_35 : decode cX5_on 35 = .ok (.iload_n 1, 1) := by decide +kernel
theorem dX5_on_36 : decode cX5_on 36 = .ok (.ireturn, 1) := by decide +kernel
set_option maxRecDepth 20000 in
theorem ggX5_show_X5_in : GoodIn wsX5_show wsX5_in := goodIn_r _ [9] (by decide +kernel) (by decide +kernel)
set_option maxRecDepth 20000 in
theorem gX5_show_X5_in : GoodIn wsX5_show (va_wsS RX5 72 yX5_in wsX5_in) := goodIn_app (goodIn_of _ (by decide +kernel)) ggX5_show_X5_in
set_option maxRecDepth 20000 in
theorem ggX5_show_X5_goesWell : GoodIn wsX5_show wsX5_goesWell := goodIn_r _ [13, 14, 21, 22, 23, 24, 25, 26, 27, 28, 29, 30, 31, 32, 33, 34, 35, 36, 37, 38, 39, 40, 41, 42, 43, 44, 45, 46, 47, 48, 49, 50] (by decide +kernel) (by decide +kernel)
set_option maxRecDepth 20000 in
theorem gX5_show_X5_goesWell : GoodIn wsX5_show (wsV RX5 83 RX5 yX5_goesWell wsX5_goesWell) := goodIn_app (goodIn_of _ (by decide +kernel)) ggX5_show_X5_goesWell
set_option maxRecDepth 20000 in
theorem ggX5_show_X5_on : GoodIn wsX5_show wsX5_on := goodIn_r _ [18, 19, 20, 21, 22, 23, 24, 25, 26, 27, 28, 29, 30, 31, 32, 33, 34, 35, 36, 37, 38, 39, 40, 41, 42, 43, 44, 45, 46, 47, 48, 49, 50] (by decide +kernel) (by decide +kernel)
set_option maxRecDepth 20000 in
theorem gX5_show_X5_on : GoodIn wsX5_show (wsV RX5 178 RX5 yX5_on wsX5_on) := goodIn_app (goodIn_of _ (by decide +kernel)) ggX5_show_X5_on
theorem dX5_show_0 : decode cX5_show 0 = .ok (.aload_n 0, 1) := by decide +kernel
theorem dX5_show_1 : decode cX5_show 1 = .ok (.iload_n 1, 1) := by decide +kernel
theorem dX5_show_2 : decode cX5_show 2 = .ok (.iconst 0, 1) := by decide +kernel
theorem dX5_show_3 : decode cX5_show 3 = .ok (.iconst 5, 1) := by decide +kernel
theorem dX5_show_4 : decode cX5_show 4 = .ok (.invokestatic 72, 3) := by decide +kernel
theorem dX5_show_7 : decode cX5_show 7 = .ok (.ifCond .eq 7, 3) := by decide +kernel
theorem dX5_show_10 : decode cX5_show 10 = .ok (.iconst 0, 1) := by decide +kernel
theorem dX5_show_11 : decode cX5_show 11 = .ok (.goto 4, 3) := by decide +kernel
theorem dX5_show_14 : decode cX5_show 14 = .ok (.iconst 1, 1) := by decide +kernel
theorem dX5_show_15 : decode cX5_show 15 = .ok (.invokevirtual 83, 3) := by decide +kernel
theorem dX5_show_18 : decode cX5_show 18 = .ok (.ifCond .ne 5, 3) := by decide +kernel
theorem dX5_show_21 : decode cX5_show 21 = .ok (.lconst 0, 1) := by decide +kernel
theorem dX5_show_22 : decode cX5_show 22 = .ok (.lreturn, 1) := by decide +kernel
theorem dX5_show_23 : decode cX5_show 23 = .ok (.iload_n 1, 1) := by decide +kernel
theorem dX5_show_24 : decode cX5_show 24 = .ok (.ifCond .ne 11, 3) := by decide +kernel
theorem dX5_show_27 : decode cX5_show 27 = .ok (.aload_n 0, 1) := by decide +kernel
theorem dX5_show_28 : decode cX5_show 28 = .ok (.getfield 162, 3) := by decide +kernel
theorem dX5_show_31 : decode cX5_show 31 = .ok (.i2l, 1) := by decide +kernel
theorem dX5_show_32 : decode cX5_show 32 = .ok (.goto 58, 3) := by decide +kernel
theorem dX5_show_35 : decode cX5_show 35 = .ok (.iload_n 1, 1) := by decide +kernel
theorem dX5_show_36 : decode cX5_show 36 = .ok (.iconst 1, 1) := by decide +kernel
theorem dX5_show_37 : decode cX5_show 37 = .ok (.if_icmp .ne 11, 3) := by decide +kernel
theorem dX5_show_40 : decode cX5_show 40 = .ok (.aload_n 0, 1) := by decide +kernel
theorem dX5_show_41 : decode cX5_show 41 = .ok (.getfield 165, 3) := by decide +kernel
theorem dX5_show_44 : decode cX5_show 44 = .ok (.i2l, 1) := by decide +kernel
theorem dX5_show_45 : decode cX5_show 45 = .ok (.goto 45, 3) := by decide +kernel
theorem dX5_show_48 : decode cX5_show 48 = .ok (.iload_n 1, 1) := by decide +kernel
theorem dX5_show_49 : decode cX5_show 49 = .ok (.iconst 2, 1) := by decide +kernel
theorem dX5_show_50 : decode cX5_show 50 = .ok (.if_icmp .ne 10, 3) := by decide +kernel
theorem dX5_show_53 : decode cX5_show 53 = .ok (.aload_n 0, 1) := by decide +kernel
theorem dX5_show_54 : decode cX5_show 54 = .ok (.getfield 168, 3) := by decide +kernel
theorem dX5_show_57 : decode cX5_show 57 = .ok (.goto 33, 3) := by decide +kernel
theorem dX5_show_60 : decode cX5_show 60 = .ok (.iload_n 1, 1) := by decide +kernel
theorem dX5_show_61 : decode cX5_show 61 = .ok (.iconst 3, 1) := by decide +kernel
theorem dX5_show_62 : decode cX5_show 62 = .ok (.if_icmp .ne 10, 3) := by decide +kernel
theorem dX5_show_65 : decode cX5_show 65 = .ok (.aload_n 0, 1) := by decide +kernel
theorem dX5_show_66 : decode cX5_show 66 = .ok (.getfield 172, 3) := by decide +kernel
theorem dX5_show_69 : decode cX5_show 69 = .ok (.goto 21, 3) := by decide +kernel
theorem dX5_show_72 : decode cX5_show 72 = .ok (.iload_n 1, 1) := by decide +kernel
theorem dX5_show_73 : decode cX5_show 73 = .ok (.iconst 4, 1) := by decide +kernel
theorem dX5_show_74 : decode cX5_show 74 = .ok (.if_icmp .ne 11, 3) := by decide +kernel
theorem dX5_show_77 : decode cX5_show 77 = .ok (.aload_n 0, 1) := by decide +kernel
theorem dX5_show_78 : decode cX5_show 78 = .ok (.getfield 175, 3) := by decide +kernel
theorem dX5_show_81 : decode cX5_show 81 = .ok (.i2l, 1) := by decide +kernel
theorem dX5_show_82 : decode cX5_show 82 = .ok (.goto 8, 3) := by decide +kernel
theorem dX5_show_85 : decode cX5_show 85 = .ok (.aload_n 0, 1) := by decide +kernel
theorem dX5_show_86 : decode cX5_show 86 = .ok (.invokevirtual 178, 3) := by decide +kernel
theorem dX5_show_89 : decode cX5_show 89 = .ok (.i2l, 1) := by decide +kernel
theorem dX5_show_90 : decode cX5_show 90 = .ok (.lreturn, 1) := by decide +kernel
set_option maxRecDepth 20000 in
theorem ggX5_passOne_X5_on : GoodIn wsX5_passOne wsX5_on := goodIn_r _ [16, 5, 7, 22, 23, 24, 25, 26, 27, 28, 29, 30, 31, 32, 33, 34, 35, 36, 37, 38, 39, 40, 41, 42, 43, 44, 45, 46, 47, 48, 49, 50, 51] (by decide +kernel) (by decide +kernel)
set_option maxRecDepth 20000 in
theorem gX5_passOne_X5_on : GoodIn wsX5_passOne (wsV RX5 178 RX5 yX5_on wsX5_on) := goodIn_app (goodIn_of _ (by decide +kernel)) ggX5_passOne_X5_on
set_option maxRecDepth 20000 in
theorem ggX5_passOne_X5_shines : GoodIn wsX5_passOne wsX5_shines := goodIn_r _ [20, 7, 21, 22, 23, 24, 25, 26, 27, 28, 29, 30, 31, 32, 33, 34, 35, 36, 37, 38, 39, 40, 41, 42, 43, 44, 45, 46, 47, 48, 49, 50, 51] (by decide +kernel) (by decide +kernel)
set_option maxRecDepth 20000 in
theorem gX5_passOne_X5_shines : GoodIn wsX5_passOne (wsV RX5 125 RX5 yX5_shines wsX5_shines) := goodIn_app (goodIn_of _ (by decide +kernel)) ggX5_passOne_X5_shines
theorem dX5_passOne_0 : decode cX5_passOne 0 = .ok (.aload_n 0, 1) := by decide +kernel
theorem dX5_passOne_1 : decode cX5_passOne 1 = .ok (.getfield 175, 3) := by decide +kernel
theorem dX5_passOne_4 : decode cX5_passOne 4 = .ok (.sipush 1440, 3) := by decide +kernel
theorem dX5_passOne_7 : decode cX5_passOne 7 = .ok (.irem, 1) := by decide +kernel
theorem dX5_passOne_8 : decode cX5_passOne 8 = .ok (.aload_n 0, 1) := by decide +kernel
theorem dX5_passOne_9 : decode cX5_passOne 9 = .ok (.getfield 156, 3) := by decide +kernel
theorem dX5_passOne_12 : decode cX5_passOne 12 = .ok (.if_icmp .lt 22, 3) := by decide +kernel
theorem dX5_passOne_15 : decode cX5_passOne 15 = .ok (.aload_n 0, 1) := by decide +kernel
theorem dX5_passOne_16 : decode cX5_passOne 16 = .ok (.getfield 175, 3) := by decide +kernel
theorem dX5_passOne_19 : decode cX5_passOne 19 = .ok (.sipush 1440, 3) := by decide +kernel
theorem dX5_passOne_22 : decode cX5_passOne 22 = .ok (.irem, 1) := by decide +kernel
theorem dX5_passOne_23 : decode cX5_passOne 23 = .ok (.aload_n 0, 1) := by decide +kernel
theorem dX5_passOne_24 : decode cX5_passOne 24 = .ok (.getfield 159, 3) := by decide +kernel
theorem dX5_passOne_27 : decode cX5_passOne 27 = .ok (.if_icmp .ge 7, 3) := by decide +kernel
theorem dX5_passOne_30 : decode cX5_passOne 30 = .ok (.iconst 1, 1) := by decide +kernel
theorem dX5_passOne_31 : decode cX5_passOne 31 = .ok (.goto 4, 3) := by decide +kernel
theorem dX5_passOne_34 : decode cX5_passOne 34 = .ok (.iconst 0, 1) := by decide +kernel
theorem dX5_passOne_35 : decode cX5_passOne 35 = .ok (.istore_n 2, 1) := by decide +kernel
theorem dX5_passOne_36 : decode cX5_passOne 36 = .ok (.aload_n 0, 1) := by decide +kernel
theorem dX5_passOne_37 : decode cX5_passOne 37 = .ok (.dup, 1) := by decide +kernel
theorem dX5_passOne_38 : decode cX5_passOne 38 = .ok (.getfield 168, 3) := by decide +kernel
theorem dX5_passOne_41 : decode cX5_passOne 41 = .ok (.iload_n 1, 1) := by decide +kernel
theorem dX5_passOne_42 : decode cX5_passOne 42 = .ok (.iload_n 2, 1) := by decide +kernel
theorem dX5_passOne_43 : decode cX5_passOne 43 = .ok (.ifCond .eq 10, 3) := by decide +kernel
theorem dX5_passOne_46 : decode cX5_passOne 46 = .ok (.aload_n 0, 1) := by decide +kernel
theorem dX5_passOne_47 : decode cX5_passOne 47 = .ok (.invokevirtual 178, 3) := by decide +kernel
theorem dX5_passOne_50 : decode cX5_passOne 50 = .ok (.goto 4, 3) := by decide +kernel
theorem dX5_passOne_53 : decode cX5_passOne 53 = .ok (.iconst 0, 1) := by decide +kernel
theorem dX5_passOne_54 : decode cX5_passOne 54 = .ok (.iadd, 1) := by decide +kernel
theorem dX5_passOne_55 : decode cX5_passOne 55 = .ok (.i2l, 1) := by decide +kernel
theorem dX5_passOne_56 : decode cX5_passOne 56 = .ok (.ladd, 1) := by decide +kernel
theorem dX5_passOne_57 : decode cX5_passOne 57 = .ok (.putfield 168, 3) := by decide +kernel
theorem dX5_passOne_60 : decode cX5_passOne 60 = .ok (.iconst 0, 1) := by decide +kernel
theorem dX5_passOne_61 : decode cX5_passOne 61 = .ok (.istore_n 3, 1) := by decide +kernel
theorem dX5_passOne_62 : decode cX5_passOne 62 = .ok (.iconst 0, 1) := by decide +kernel
theorem dX5_passOne_63 : decode cX5_passOne 63 = .ok (.istore 4, 2) := by decide +kernel
theorem dX5_passOne_65 : decode cX5_passOne 65 = .ok (.iconst 0, 1) := by decide +kernel
theorem dX5_passOne_66 : decode cX5_passOne 66 = .ok (.istore 5, 2) := by decide +kernel
theorem dX5_passOne_68 : decode cX5_passOne 68 = .ok (.iload 5, 2) := by decide +kernel
theorem dX5_passOne_70 : decode cX5_passOne 70 = .ok (.aload_n 0, 1) := by decide +kernel
theorem dX5_passOne_71 : decode cX5_passOne 71 = .ok (.getfield 80, 3) := by decide +kernel
theorem dX5_passOne_74 : decode cX5_passOne 74 = .ok (.if_icmp .ge 96, 3) := by decide +kernel
theorem dX5_passOne_77 : decode cX5_passOne 77 = .ok (.aload_n 0, 1) := by decide +kernel
theorem dX5_passOne_78 : decode cX5_passOne 78 = .ok (.dup, 1) := by decide +kernel
theorem dX5_passOne_79 : decode cX5_passOne 79 = .ok (.getfield 172, 3) := by decide +kernel
theorem dX5_passOne_82 : decode cX5_passOne 82 = .ok (.aload_n 0, 1) := by decide +kernel
theorem dX5_passOne_83 : decode cX5_passOne 83 = .ok (.getfield 51, 3) := by decide +kernel
theorem dX5_passOne_86 : decode cX5_passOne 86 = .ok (.iload 5, 2) := by decide +kernel
theorem dX5_passOne_88 : decode cX5_passOne 88 = .ok (.baload, 1) := by decide +kernel
theorem dX5_passOne_89 : decode cX5_passOne 89 = .ok (.ifCond .eq 14, 3) := by decide +kernel
theorem dX5_passOne_92 : decode cX5_passOne 92 = .ok (.aload_n 0, 1) := by decide +kernel
theorem dX5_passOne_93 : decode cX5_passOne 93 = .ok (.getfield 36, 3) := by decide +kernel
theorem dX5_passOne_96 : decode cX5_passOne 96 = .ok (.iload 5, 2) := by decide +kernel
theorem dX5_passOne_98 : decode cX5_passOne 98 = .ok (.iaload, 1) := by decide +kernel
theorem dX5_passOne_99 : decode cX5_passOne 99 = .ok (.i2l, 1) := by decide +kernel
theorem dX5_passOne_100 : decode cX5_passOne 100 = .ok (.goto 4, 3) := by decide +kernel
theorem dX5_passOne_103 : decode cX5_passOne 103 = .ok (.lconst 0, 1) := by decide +kernel
theorem dX5_passOne_104 : decode cX5_passOne 104 = .ok (.ladd, 1) := by decide +kernel
theorem dX5_passOne_105 : decode cX5_passOne 105 = .ok (.putfield 172, 3) := by decide +kernel
theorem dX5_passOne_108 : decode cX5_passOne 108 = .ok (.iload_n 3, 1) := by decide +kernel
theorem dX5_passOne_109 : decode cX5_passOne 109 = .ok (.ifCond .ne 12, 3) := by decide +kernel
theorem dX5_passOne_112 : decode cX5_passOne 112 = .ok (.aload_n 0, 1) := by decide +kernel
theorem dX5_passOne_113 : decode cX5_passOne 113 = .ok (.iload 5, 2) := by decide +kernel
theorem dX5_passOne_115 : decode cX5_passOne 115 = .ok (.invokevirtual 125, 3) := by decide +kernel
theorem dX5_passOne_118 : decode cX5_passOne 118 = .ok (.ifCond .eq 7, 3) := by decide +kernel
theorem dX5_passOne_121 : decode cX5_passOne 121 = .ok (.iconst 1, 1) := by decide +kernel
theorem dX5_passOne_122 : decode cX5_passOne 122 = .ok (.goto 4, 3) := by decide +kernel
theorem dX5_passOne_125 : decode cX5_passOne 125 = .ok (.iconst 0, 1) := by decide +kernel
theorem dX5_passOne_126 : decode cX5_passOne 126 = .ok (.istore_n 3, 1) := by decide +kernel
theorem dX5_passOne_127 : decode cX5_passOne 127 = .ok (.iload 4, 2) := by decide +kernel
theorem dX5_passOne_129 : decode cX5_passOne 129 = .ok (.ifCond .ne 28, 3) := by decide +kernel
theorem dX5_passOne_132 : decode cX5_passOne 132 = .ok (.aload_n 0, 1) := by decide +kernel
theorem dX5_passOne_133 : decode cX5_passOne 133 = .ok (.iload 5, 2) := by decide +kernel
theorem dX5_passOne_135 : decode cX5_passOne 135 = .ok (.invokevirtual 125, 3) := by decide +kernel
theorem dX5_passOne_138 : decode cX5_passOne 138 = .ok (.ifCond .eq 23, 3) := by decide +kernel
theorem dX5_passOne_141 : decode cX5_passOne 141 = .ok (.aload_n 0, 1) := by decide +kernel
theorem dX5_passOne_142 : decode cX5_passOne 142 = .ok (.getfield 57, 3) := by decide +kernel
theorem dX5_passOne_145 : decode cX5_passOne 145 = .ok (.iload 5, 2) := by decide +kernel
theorem dX5_passOne_147 : decode cX5_passOne 147 = .ok (.iaload, 1) := by decide +kernel
theorem dX5_passOne_148 : decode cX5_passOne 148 = .ok (.aload_n 0, 1) := by decide +kernel
theorem dX5_passOne_149 : decode cX5_passOne 149 = .ok (.getfield 162, 3) := by decide +kernel
theorem dX5_passOne_152 : decode cX5_passOne 152 = .ok (.iconst 1, 1) := by decide +kernel
theorem dX5_passOne_153 : decode cX5_passOne 153 = .ok (.iadd, 1) := by decide +kernel
theorem dX5_passOne_154 : decode cX5_passOne 154 = .ok (.if_icmp .ge 7, 3) := by decide +kernel
theorem dX5_passOne_157 : decode cX5_passOne 157 = .ok (.iconst 1, 1) := by decide +kernel
theorem dX5_passOne_158 : decode cX5_passOne 158 = .ok (.goto 4, 3) := by decide +kernel
theorem dX5_passOne_161 : decode cX5_passOne 161 = .ok (.iconst 0, 1) := by decide +kernel
theorem dX5_passOne_162 : decode cX5_passOne 162 = .ok (.istore 4, 2) := by decide +kernel
theorem dX5_passOne_164 : decode cX5_passOne 164 = .ok (.iinc 5 1, 3) := by decide +kernel
theorem dX5_passOne_167 : decode cX5_passOne 167 = .ok (.goto (-99), 3) := by decide +kernel
theorem dX5_passOne_170 : decode cX5_passOne 170 = .ok (.aload_n 0, 1) := by decide +kernel
theorem dX5_passOne_171 : decode cX5_passOne 171 = .ok (.dup, 1) := by decide +kernel
theorem dX5_passOne_172 : decode cX5_passOne 172 = .ok (.getfield 162, 3) := by decide +kernel
theorem dX5_passOne_175 : decode cX5_passOne 175 = .ok (.iload_n 3, 1) := by decide +kernel
theorem dX5_passOne_176 : decode cX5_passOne 176 = .ok (.ifCond .eq 12, 3) := by decide +kernel
theorem dX5_passOne_179 : decode cX5_passOne 179 = .ok (.iload 4, 2) := by decide +kernel
theorem dX5_passOne_181 : decode cX5_passOne 181 = .ok (.ifCond .ne 7, 3) := by decide +kernel
theorem dX5_passOne_184 : decode cX5_passOne 184 = .ok (.iconst 1, 1) := by decide +kernel
theorem dX5_passOne_185 : decode cX5_passOne 185 = .ok (.goto 4, 3) := by decide +kernel
theorem dX5_passOne_188 : decode cX5_passOne 188 = .ok (.iconst 0, 1) := by decide +kernel
theorem dX5_passOne_189 : decode cX5_passOne 189 = .ok (.iadd, 1) := by decide +kernel
theorem dX5_passOne_190 : decode cX5_passOne 190 = .ok (.putfield 162, 3) := by decide +kernel
theorem dX5_passOne_193 : decode cX5_passOne 193 = .ok (.aload_n 0, 1) := by decide +kernel
theorem dX5_passOne_194 : decode cX5_passOne 194 = .ok (.dup, 1) := by decide +kernel
theorem dX5_passOne_195 : decode cX5_passOne 195 = .ok (.getfield 165, 3) := by decide +kernel
theorem dX5_passOne_198 : decode cX5_passOne 198 = .ok (.iload_n 3, 1) := by decide +kernel
theorem dX5_passOne_199 : decode cX5_passOne 199 = .ok (.ifCond .eq 12, 3) := by decide +kernel
theorem dX5_passOne_202 : decode cX5_passOne 202 = .ok (.iload 4, 2) := by decide +kernel
theorem dX5_passOne_204 : decode cX5_passOne 204 = .ok (.ifCond .ne 7, 3) := by decide +kernel
theorem dX5_passOne_207 : decode cX5_passOne 207 = .ok (.iconst 0, 1) := by decide +kernel
theorem dX5_passOne_208 : decode cX5_passOne 208 = .ok (.goto 4, 3) := by decide +kernel
theorem dX5_passOne_211 : decode cX5_passOne 211 = .ok (.iconst 1, 1) := by decide +kernel
theorem dX5_passOne_212 : decode cX5_passOne 212 = .ok (.iadd, 1) := by decide +kernel
theorem dX5_passOne_213 : decode cX5_passOne 213 = .ok (.putfield 165, 3) := by decide +kernel
theorem dX5_passOne_216 : decode cX5_passOne 216 = .ok (.aload_n 0, 1) := by decide +kernel
theorem dX5_passOne_217 : decode cX5_passOne 217 = .ok (.dup, 1) := by decide +kernel
theorem dX5_passOne_218 : decode cX5_passOne 218 = .ok (.getfield 175, 3) := by decide +kernel
theorem dX5_passOne_221 : decode cX5_passOne 221 = .ok (.iconst 1, 1) := by decide +kernel
theorem dX5_passOne_222 : decode cX5_passOne 222 = .ok (.iadd, 1) := by decide +kernel
theorem dX5_passOne_223 : decode cX5_passOne 223 = .ok (.putfield 175, 3) := by decide +kernel
theorem dX5_passOne_226 : decode cX5_passOne 226 = .ok (.return_, 1) := by decide +kernel
set_option maxRecDepth 20000 in
theorem ggX5_pass_X5_in : GoodIn wsX5_pass wsX5_in := goodIn_r _ [6] (by decide +kernel) (by decide +kernel)
set_option maxRecDepth 20000 in
theorem gX5_pass_X5_in : GoodIn wsX5_pass (va_wsS RX5 72 yX5_in wsX5_in) := goodIn_app (goodIn_of _ (by decide +kernel)) ggX5_pass_X5_in
set_option maxRecDepth 20000 in
theorem ggX5_pass_X5_goesWell : GoodIn wsX5_pass wsX5_goesWell := goodIn_r _ [10, 11, 66, 67, 68, 69, 70, 71, 72, 73, 74, 75, 76, 77, 78, 79, 80, 81, 82, 83, 84, 85, 86, 87, 88, 89, 90, 91, 92, 93, 94, 95] (by decide +kernel) (by decide +kernel)
set_option maxRecDepth 20000 in
theorem gX5_pass_X5_goesWell : GoodIn wsX5_pass (wsV RX5 83 RX5 yX5_goesWell wsX5_goesWell) := goodIn_app (goodIn_of _ (by decide +kernel)) ggX5_pass_X5_goesWell
set_option maxRecDepth 20000 in
theorem ggX5_pass_X5_breachesNow : GoodIn wsX5_pass wsX5_breachesNow := goodIn_r _ [15, 16, 17, 18, 19, 5, 20, 21, 22, 23, 24, 25, 26, 27, 28, 29, 3, 4, 6, 30, 31, 32, 33, 34, 35, 36, 37, 38, 39, 40, 41, 42, 43, 44, 45, 46, 47, 48, 49, 66, 67, 68, 69, 70, 71, 72, 73, 74, 75, 76, 77, 78, 79, 80, 81, 82, 83, 84, 85, 86, 87, 88, 89, 90, 91, 92, 93, 94, 95] (by decide +kernel) (by decide +kernel)
set_option maxRecDepth 20000 in
theorem gX5_pass_X5_breachesNow : GoodIn wsX5_pass (wsV RX5 153 RX5 yX5_breachesNow wsX5_breachesNow) := goodIn_app (goodIn_of _ (by decide +kernel)) ggX5_pass_X5_breachesNow
set_option maxRecDepth 20000 in
theorem ggX5_pass_X5_passOne : GoodIn wsX5_pass wsX5_passOne := goodIn_r _ [53, 1, 54, 55, 56, 16, 57, 21, 58, 59, 60, 61, 62, 63, 64, 5, 65, 17, 18, 19, 20, 22, 66, 67, 68, 69, 70, 71, 72, 73, 74, 75, 76, 77, 78, 79, 80, 81, 82, 83, 84, 85, 86, 87, 88, 89, 90, 91, 92, 93, 94, 95] (by decide +kernel) (by decide +kernel)
set_option maxRecDepth 20000 in
theorem gX5_pass_X5_passOne : GoodIn wsX5_pass (wsV RX5 181 RX5 yX5_passOne wsX5_passOne) := goodIn_app (goodIn_of _ (by decide +kernel)) ggX5_pass_X5_passOne
theorem dX5_pass_0 : decode cX5_pass 0 = .ok (.iload_n 1, 1) := by decide +kernel
theorem dX5_pass_1 : decode cX5_pass 1 = .ok (.iconst 1, 1) := by decide +kernel
theorem dX5_pass_2 : decode cX5_pass 2 = .ok (.sipush 1440, 3) := by decide +kernel
theorem dX5_pass_5 : decode cX5_pass 5 = .ok (.invokestatic 72, 3) := by decide +kernel
theorem dX5_pass_8 : decode cX5_pass 8 = .ok (.istore_n 2, 1) := by decide +kernel
theorem dX5_pass_9 : decode cX5_pass 9 = .ok (.aload_n 0, 1) := by decide +kernel
theorem dX5_pass_10 : decode cX5_pass 10 = .ok (.iload_n 2, 1) := by decide +kernel
theorem dX5_pass_11 : decode cX5_pass 11 = .ok (.ifCond .ne 7, 3) := by decide +kernel
theorem dX5_pass_14 : decode cX5_pass 14 = .ok (.iconst 1, 1) := by decide +kernel
theorem dX5_pass_15 : decode cX5_pass 15 = .ok (.goto 19, 3) := by decide +kernel
theorem dX5_pass_18 : decode cX5_pass 18 = .ok (.aload_n 0, 1) := by decide +kernel
theorem dX5_pass_19 : decode cX5_pass 19 = .ok (.getfield 175, 3) := by decide +kernel
theorem dX5_pass_22 : decode cX5_pass 22 = .ok (.iload_n 1, 1) := by decide +kernel
theorem dX5_pass_23 : decode cX5_pass 23 = .ok (.iadd, 1) := by decide +kernel
theorem dX5_pass_24 : decode cX5_pass 24 = .ok (.ldc 105, 2) := by decide +kernel
theorem dX5_pass_26 : decode cX5_pass 26 = .ok (.if_icmp .le 7, 3) := by decide +kernel
theorem dX5_pass_29 : decode cX5_pass 29 = .ok (.iconst 2, 1) := by decide +kernel
theorem dX5_pass_30 : decode cX5_pass 30 = .ok (.goto 4, 3) := by decide +kernel
theorem dX5_pass_33 : decode cX5_pass 33 = .ok (.iconst 0, 1) := by decide +kernel
theorem dX5_pass_34 : decode cX5_pass 34 = .ok (.invokevirtual 83, 3) := by decide +kernel
theorem dX5_pass_37 : decode cX5_pass 37 = .ok (.ifCond .ne 5, 3) := by decide +kernel
theorem dX5_pass_40 : decode cX5_pass 40 = .ok (.iconst 0, 1) := by decide +kernel
theorem dX5_pass_41 : decode cX5_pass 41 = .ok (.ireturn, 1) := by decide +kernel
theorem dX5_pass_42 : decode cX5_pass 42 = .ok (.aload_n 0, 1) := by decide +kernel
theorem dX5_pass_43 : decode cX5_pass 43 = .ok (.invokevirtual 153, 3) := by decide +kernel
theorem dX5_pass_46 : decode cX5_pass 46 = .ok (.istore_n 3, 1) := by decide +kernel
theorem dX5_pass_47 : decode cX5_pass 47 = .ok (.iconst 0, 1) := by decide +kernel
theorem dX5_pass_48 : decode cX5_pass 48 = .ok (.istore 4, 2) := by decide +kernel
theorem dX5_pass_50 : decode cX5_pass 50 = .ok (.iload 4, 2) := by decide +kernel
theorem dX5_pass_52 : decode cX5_pass 52 = .ok (.iload_n 1, 1) := by decide +kernel
theorem dX5_pass_53 : decode cX5_pass 53 = .ok (.if_icmp .ge 14, 3) := by decide +kernel
theorem dX5_pass_56 : decode cX5_pass 56 = .ok (.aload_n 0, 1) := by decide +kernel
theorem dX5_pass_57 : decode cX5_pass 57 = .ok (.iload_n 3, 1) := by decide +kernel
theorem dX5_pass_58 : decode cX5_pass 58 = .ok (.invokevirtual 181, 3) := by decide +kernel
theorem dX5_pass_61 : decode cX5_pass 61 = .ok (.iinc 4 1, 3) := by decide +kernel
theorem dX5_pass_64 : decode cX5_pass 64 = .ok (.goto (-14), 3) := by decide +kernel
theorem dX5_pass_67 : decode cX5_pass 67 = .ok (.aload_n 0, 1) := by decide +kernel
theorem dX5_pass_68 : decode cX5_pass 68 = .ok (.getfield 175, 3) := by decide +kernel
theorem dX5_pass_71 : decode cX5_pass 71 = .ok (.ireturn, 1) := by decide +kernel
end
section
/-! the worlds of the class and of the reference, as functions of plain numbers; what every method needs of the machine; derived rows -/
abbrev XS : Type := (Nat → Nat → Int32) × (Nat → Int64) × Nat
def si (x : XS) (a k : Nat) (v : Int32) : XS := (fun a' => if a' = a then upd (x.1 a) k v else x.1 a', x.2)
def sl (x : XS) (k : Nat) (v : Int64) : XS := (x.1, vp_updL x.2.1 k v, x.2.2)
abbrev tyA (ca : Nat → ClassId) : List (ClassId × FieldType) := [(ca 0, .int), (ca 1, .boolean), (ca 2, .long), (ca 3, .object "FacadeShow$Projector"), (ca 4, .object "FacadeShow$Scene")]
def adP (g : Nat → Nat) : Nat → Nat := fun j => g (15 + j)
def adS (g : Nat → Nat) : Nat → Nat := fun j => g (11 + j)
def fsX (g : Nat → Nat) (x : XS) : List Value := [.ref (g 1), .ref (g 2), .int (x.1 0 2), .ref (g 3), .int (x.1 0 4), .int (x.1 0 5), .int (x.1 0 6), .ref (g 4), .int (x.1 0 8), .int (x.1 0 9), .ref (g 5), .int (x.1 0 11), .int (x.1 0 12), .long (x.2.1 0), .long (x.2.1 1), .int (x.1 0 15)]
def fsS (x : XS) (j : Nat) : List Value := [.int (x.1 11 j), .int (x.1 12 j)]
def fsP (x : XS) (j : Nat) : List Value := [.int (x.1 20 j), .int (x.1 21 j), .int (x.1 22 j), .int (x.1 23 j), .int (x.1 24 j), .int (x.1 25 j), .int (x.1 26 j), .int (x.1 27 j), .int (x.1 28 j), .int (x.1 29 j)]
def plX (g : Nat → Nat) (n : Nat) : Nat → Option Nat := fun j => if j < n then some (adP g j) else none
def plS (g : Nat → Nat) : Nat → Option Nat := fun j => if j < 4 then some (adS g j) else none
def wXf (g : Nat → Nat) (ca : Nat → ClassId) (x : XS) : va_W := [
  (g 0, .inr (4, fsX g x)),
  (g 1, .inr (2, [.ref (g 6), .ref (g 7), .ref (g 8)])),
  (g 6, .inl (ca 0, 16, .inl (x.1 6))),
  (g 7, .inl (ca 0, 16, .inl (x.1 7))),
  (g 8, .inl (ca 0, 192, .inl (x.1 8))),
  (g 2, .inl (ca 3, 10, .inr (.inr (.inr (.inr (plX g x.2.2)))))),
  (g 3, .inl (ca 0, 3, .inl (x.1 3))),
  (g 4, .inr (3, [.ref (g 9), .ref (g 10)])),
  (g 9, .inl (ca 0, 160, .inl (x.1 9))),
  (g 10, .inl (ca 0, 16, .inl (x.1 10))),
  (g 5, .inl (ca 4, 4, .inr (.inr (.inr (.inr (plS g))))))]
def wXs (g : Nat → Nat) (x : XS) : va_W := (List.range 4).map (fun j => (adS g j, .inr (1, fsS x j)))
def wXp (g : Nat → Nat) (x : XS) : va_W := (List.range x.2.2).map (fun j => (adP g j, .inr (0, fsP x j)))
def wX (g : Nat → Nat) (ca : Nat → ClassId) (x : XS) : va_W := wXf g ca x ++ (wXs g x ++ wXp g x)
theorem wX_scene {g : Nat → Nat} {ca : Nat → ClassId} {x : XS} {j : Nat} (h : j < 4) : (wX g ca x)[11 + j]? = some (adS g j, .inr (1, fsS x j)) := by
  unfold wX
  rw [List.getElem?_append_right (by simp [wXf]), List.getElem?_append_left (by simp [wXf, wXs]; omega)]
  simp [wXf, wXs, h]
theorem wX_proj {g : Nat → Nat} {ca : Nat → ClassId} {x : XS} {j : Nat} (h : j < x.2.2) : (wX g ca x)[15 + j]? = some (adP g j, .inr (0, fsP x j)) := by
  unfold wX
  rw [List.getElem?_append_right (by simp [wXf]; omega), List.getElem?_append_right (by simp [wXf, wXs]; omega)]
  rw [show 15 + j - (wXf g ca x).length - (wXs g x).length = j by simp [wXf, wXs]; omega]
  simp [wXp, h]
theorem si_other {x : XS} {a k : Nat} {v : Int32} {b : Nat} (h : b ≠ a) : (si x a k v).1 b = x.1 b := by simp [si, h]
theorem si_same {x : XS} {a k : Nat} {v : Int32} : (si x a k v).1 a = upd (x.1 a) k v := by simp [si]
theorem si_2 {x : XS} {a k : Nat} {v : Int32} : (si x a k v).2 = x.2 := rfl
theorem si_get {x : XS} {a k : Nat} {v : Int32} {b j : Nat} : (si x a k v).1 b j = if b = a ∧ j = k then v else x.1 b j := by
  by_cases h : b = a
  · subst h; rw [si_same]; by_cases q : j = k <;> simp [upd, q]
  · rw [si_other h]; simp [h]
theorem wX_f2 {g : Nat → Nat} {ca : Nat → ClassId} {x : XS} {v : Int32} : (wX g ca x).set 0 (g 0, .inr (4, (fsX g x).set 2 (.int v))) = wX g ca (si x 0 2 v) := by
  simp [wX, wXf, wXs, wXp, fsX, fsS, fsP, si, upd]
theorem wX_f4 {g : Nat → Nat} {ca : Nat → ClassId} {x : XS} {v : Int32} : (wX g ca x).set 0 (g 0, .inr (4, (fsX g x).set 4 (.int v))) = wX g ca (si x 0 4 v) := by
  simp [wX, wXf, wXs, wXp, fsX, fsS, fsP, si, upd]
theorem wX_f5 {g : Nat → Nat} {ca : Nat → ClassId} {x : XS} {v : Int32} : (wX g ca x).set 0 (g 0, .inr (4, (fsX g x).set 5 (.int v))) = wX g ca (si x 0 5 v) := by
  simp [wX, wXf, wXs, wXp, fsX, fsS, fsP, si, upd]
theorem wX_f6 {g : Nat → Nat} {ca : Nat → ClassId} {x : XS} {v : Int32} : (wX g ca x).set 0 (g 0, .inr (4, (fsX g x).set 6 (.int v))) = wX g ca (si x 0 6 v) := by
  simp [wX, wXf, wXs, wXp, fsX, fsS, fsP, si, upd]
theorem wX_f8 {g : Nat → Nat} {ca : Nat → ClassId} {x : XS} {v : Int32} : (wX g ca x).set 0 (g 0, .inr (4, (fsX g x).set 8 (.int v))) = wX g ca (si x 0 8 v) := by
  simp [wX, wXf, wXs, wXp, fsX, fsS, fsP, si, upd]
theorem wX_f9 {g : Nat → Nat} {ca : Nat → ClassId} {x : XS} {v : Int32} : (wX g ca x).set 0 (g 0, .inr (4, (fsX g x).set 9 (.int v))) = wX g ca (si x 0 9 v) := by
  simp [wX, wXf, wXs, wXp, fsX, fsS, fsP, si, upd]
theorem wX_f11 {g : Nat → Nat} {ca : Nat → ClassId} {x : XS} {v : Int32} : (wX g ca x).set 0 (g 0, .inr (4, (fsX g x).set 11 (.int v))) = wX g ca (si x 0 11 v) := by
  simp [wX, wXf, wXs, wXp, fsX, fsS, fsP, si, upd]
theorem wX_f12 {g : Nat → Nat} {ca : Nat → ClassId} {x : XS} {v : Int32} : (wX g ca x).set 0 (g 0, .inr (4, (fsX g x).set 12 (.int v))) = wX g ca (si x 0 12 v) := by
  simp [wX, wXf, wXs, wXp, fsX, fsS, fsP, si, upd]
theorem wX_f15 {g : Nat → Nat} {ca : Nat → ClassId} {x : XS} {v : Int32} : (wX g ca x).set 0 (g 0, .inr (4, (fsX g x).set 15 (.int v))) = wX g ca (si x 0 15 v) := by
  simp [wX, wXf, wXs, wXp, fsX, fsS, fsP, si, upd]
theorem wX_f13 {g : Nat → Nat} {ca : Nat → ClassId} {x : XS} {v : Int64} : (wX g ca x).set 0 (g 0, .inr (4, (fsX g x).set 13 (.long v))) = wX g ca (sl x 0 v) := by
  simp [wX, wXf, wXs, wXp, fsX, fsS, fsP, sl, vp_updL]
theorem wX_f14 {g : Nat → Nat} {ca : Nat → ClassId} {x : XS} {v : Int64} : (wX g ca x).set 0 (g 0, .inr (4, (fsX g x).set 14 (.long v))) = wX g ca (sl x 1 v) := by
  simp [wX, wXf, wXs, wXp, fsX, fsS, fsP, sl, vp_updL]
theorem wX_a3 {g : Nat → Nat} {ca : Nat → ClassId} {x : XS} {i : Nat} {v : Int32} : (wX g ca x).set 6 (g 3, .inl (ca 0, 3, .inl (upd (x.1 3) i v))) = wX g ca (si x 3 i v) := by
  simp [wX, wXf, wXs, wXp, fsX, fsS, fsP, si]
theorem wX_a6 {g : Nat → Nat} {ca : Nat → ClassId} {x : XS} {i : Nat} {v : Int32} : (wX g ca x).set 2 (g 6, .inl (ca 0, 16, .inl (upd (x.1 6) i v))) = wX g ca (si x 6 i v) := by
  simp [wX, wXf, wXs, wXp, fsX, fsS, fsP, si]
theorem wX_a7 {g : Nat → Nat} {ca : Nat → ClassId} {x : XS} {i : Nat} {v : Int32} : (wX g ca x).set 3 (g 7, .inl (ca 0, 16, .inl (upd (x.1 7) i v))) = wX g ca (si x 7 i v) := by
  simp [wX, wXf, wXs, wXp, fsX, fsS, fsP, si]
theorem wX_a8 {g : Nat → Nat} {ca : Nat → ClassId} {x : XS} {i : Nat} {v : Int32} : (wX g ca x).set 4 (g 8, .inl (ca 0, 192, .inl (upd (x.1 8) i v))) = wX g ca (si x 8 i v) := by
  simp [wX, wXf, wXs, wXp, fsX, fsS, fsP, si]
theorem wX_a9 {g : Nat → Nat} {ca : Nat → ClassId} {x : XS} {i : Nat} {v : Int32} : (wX g ca x).set 8 (g 9, .inl (ca 0, 160, .inl (upd (x.1 9) i v))) = wX g ca (si x 9 i v) := by
  simp [wX, wXf, wXs, wXp, fsX, fsS, fsP, si]
theorem wX_a10 {g : Nat → Nat} {ca : Nat → ClassId} {x : XS} {i : Nat} {v : Int32} : (wX g ca x).set 9 (g 10, .inl (ca 0, 16, .inl (upd (x.1 10) i v))) = wX g ca (si x 10 i v) := by
  simp [wX, wXf, wXs, wXp, fsX, fsS, fsP, si]
theorem map_range_set {α : Type} {f h : Nat → α} {n j : Nat} {e : α} (hj : h j = e) (ho : ∀ i, i ≠ j → h i = f i) : ((List.range n).map f).set j e = (List.range n).map h := by
  apply List.ext_getElem?
  intro i
  rw [List.getElem?_set]
  by_cases q : j = i
  · subst q
    by_cases r : j < n <;> simp [r, hj]
  · rw [if_neg q]
    by_cases r : i < n <;> simp [r, ho i (Ne.symm q)]
theorem wX_s0 {g : Nat → Nat} {ca : Nat → ClassId} {x : XS} {j : Nat} {v : Int32} (h : j < 4) : (wX g ca x).set (11 + j) (adS g j, .inr (1, (fsS x j).set 0 (.int v))) = wX g ca (si x 11 j v) := by
  unfold wX
  rw [List.set_append_right _ _ (by simp [wXf]), List.set_append_left _ _ (by simp [wXf, wXs]; omega)]
  have e1 : wXf g ca (si x 11 j v) = wXf g ca x := by simp [wXf, fsX, si]
  have e2 : wXp g (si x 11 j v) = wXp g x := by simp [wXp, fsP, si]
  rw [e1, e2]
  congr 2
  unfold wXs
  rw [show 11 + j - (wXf g ca x).length = j by simp [wXf]]
  exact map_range_set (by simp [fsS, si, upd]) (fun i hi => by simp [fsS, si, upd, hi])
theorem wX_s1 {g : Nat → Nat} {ca : Nat → ClassId} {x : XS} {j : Nat} {v : Int32} (h : j < 4) : (wX g ca x).set (11 + j) (adS g j, .inr (1, (fsS x j).set 1 (.int v))) = wX g ca (si x 12 j v) := by
  unfold wX
  rw [List.set_append_right _ _ (by simp [wXf]), List.set_append_left _ _ (by simp [wXf, wXs]; omega)]
  have e1 : wXf g ca (si x 12 j v) = wXf g ca x := by simp [wXf, fsX, si]
  have e2 : wXp g (si x 12 j v) = wXp g x := by simp [wXp, fsP, si]
  rw [e1, e2]
  congr 2
  unfold wXs
  rw [show 11 + j - (wXf g ca x).length = j by simp [wXf]]
  exact map_range_set (by simp [fsS, si, upd]) (fun i hi => by simp [fsS, si, upd, hi])
theorem wX_p5 {g : Nat → Nat} {ca : Nat → ClassId} {x : XS} {j : Nat} {v : Int32} (h : j < x.2.2) : (wX g ca x).set (15 + j) (adP g j, .inr (0, (fsP x j).set 5 (.int v))) = wX g ca (si x 25 j v) := by
  unfold wX
  rw [List.set_append_right _ _ (by simp [wXf]; omega), List.set_append_right _ _ (by simp [wXf, wXs]; omega)]
  have e1 : wXf g ca (si x 25 j v) = wXf g ca x := by simp [wXf, fsX, si]
  have e2 : wXs g (si x 25 j v) = wXs g x := by simp [wXs, fsS, si]
  rw [e1, e2]
  congr 2
  unfold wXp
  rw [show 15 + j - (wXf g ca x).length - (wXs g x).length = j by simp [wXf, wXs]; omega]
  exact map_range_set (by simp [fsP, si, upd]) (fun i hi => by simp [fsP, si, upd, hi])
theorem wX_p6 {g : Nat → Nat} {ca : Nat → ClassId} {x : XS} {j : Nat} {v : Int32} (h : j < x.2.2) : (wX g ca x).set (15 + j) (adP g j, .inr (0, (fsP x j).set 6 (.int v))) = wX g ca (si x 26 j v) := by
  unfold wX
  rw [List.set_append_right _ _ (by simp [wXf]; omega), List.set_append_right _ _ (by simp [wXf, wXs]; omega)]
  have e1 : wXf g ca (si x 26 j v) = wXf g ca x := by simp [wXf, fsX, si]
  have e2 : wXs g (si x 26 j v) = wXs g x := by simp [wXs, fsS, si]
  rw [e1, e2]
  congr 2
  unfold wXp
  rw [show 15 + j - (wXf g ca x).length - (wXs g x).length = j by simp [wXf, wXs]; omega]
  exact map_range_set (by simp [fsP, si, upd]) (fun i hi => by simp [fsP, si, upd, hi])
theorem wX_p7 {g : Nat → Nat} {ca : Nat → ClassId} {x : XS} {j : Nat} {v : Int32} (h : j < x.2.2) : (wX g ca x).set (15 + j) (adP g j, .inr (0, (fsP x j).set 7 (.int v))) = wX g ca (si x 27 j v) := by
  unfold wX
  rw [List.set_append_right _ _ (by simp [wXf]; omega), List.set_append_right _ _ (by simp [wXf, wXs]; omega)]
  have e1 : wXf g ca (si x 27 j v) = wXf g ca x := by simp [wXf, fsX, si]
  have e2 : wXs g (si x 27 j v) = wXs g x := by simp [wXs, fsS, si]
  rw [e1, e2]
  congr 2
  unfold wXp
  rw [show 15 + j - (wXf g ca x).length - (wXs g x).length = j by simp [wXf, wXs]; omega]
  exact map_range_set (by simp [fsP, si, upd]) (fun i hi => by simp [fsP, si, upd, hi])
theorem wX_p8 {g : Nat → Nat} {ca : Nat → ClassId} {x : XS} {j : Nat} {v : Int32} (h : j < x.2.2) : (wX g ca x).set (15 + j) (adP g j, .inr (0, (fsP x j).set 8 (.int v))) = wX g ca (si x 28 j v) := by
  unfold wX
  rw [List.set_append_right _ _ (by simp [wXf]; omega), List.set_append_right _ _ (by simp [wXf, wXs]; omega)]
  have e1 : wXf g ca (si x 28 j v) = wXf g ca x := by simp [wXf, fsX, si]
  have e2 : wXs g (si x 28 j v) = wXs g x := by simp [wXs, fsS, si]
  rw [e1, e2]
  congr 2
  unfold wXp
  rw [show 15 + j - (wXf g ca x).length - (wXs g x).length = j by simp [wXf, wXs]; omega]
  exact map_range_set (by simp [fsP, si, upd]) (fun i hi => by simp [fsP, si, upd, hi])
theorem wX_p9 {g : Nat → Nat} {ca : Nat → ClassId} {x : XS} {j : Nat} {v : Int32} (h : j < x.2.2) : (wX g ca x).set (15 + j) (adP g j, .inr (0, (fsP x j).set 9 (.int v))) = wX g ca (si x 29 j v) := by
  unfold wX
  rw [List.set_append_right _ _ (by simp [wXf]; omega), List.set_append_right _ _ (by simp [wXf, wXs]; omega)]
  have e1 : wXf g ca (si x 29 j v) = wXf g ca x := by simp [wXf, fsX, si]
  have e2 : wXs g (si x 29 j v) = wXs g x := by simp [wXs, fsS, si]
  rw [e1, e2]
  congr 2
  unfold wXp
  rw [show 15 + j - (wXf g ca x).length - (wXs g x).length = j by simp [wXf, wXs]; omega]
  exact map_range_set (by simp [fsP, si, upd]) (fun i hi => by simp [fsP, si, upd, hi])
def fsM (h : Nat → Nat) (y : XS) : List Value := [.int (y.1 0 0), .ref (h 1), .ref (h 2), .ref (h 3), .ref (h 4), .ref (h 5), .int (y.1 0 6), .int (y.1 0 7), .int (y.1 0 8), .ref (h 6), .ref (h 7), .ref (h 8), .ref (h 9), .ref (h 10), .ref (h 11), .ref (h 12), .ref (h 13), .ref (h 14), .ref (h 15), .ref (h 16), .int (y.1 0 20), .int (y.1 0 21), .int (y.1 0 22), .ref (h 17), .ref (h 18), .int (y.1 0 25), .int (y.1 0 26), .long (y.2.1 0), .long (y.2.1 1), .int (y.1 0 29)]
def wM (h : Nat → Nat) (ca : Nat → ClassId) (y : XS) : va_W := [
  (h 0, .inr (5, fsM h y)),
  (h 1, .inl (ca 0, 16, .inl (y.1 1))),
  (h 2, .inl (ca 0, 16, .inl (y.1 2))),
  (h 3, .inl (ca 0, 3, .inl (y.1 3))),
  (h 4, .inl (ca 0, 192, .inl (y.1 4))),
  (h 5, .inl (ca 1, 192, .inl (y.1 5))),
  (h 6, .inl (ca 0, 10, .inl (y.1 6))),
  (h 7, .inl (ca 0, 10, .inl (y.1 7))),
  (h 8, .inl (ca 0, 10, .inl (y.1 8))),
  (h 9, .inl (ca 0, 10, .inl (y.1 9))),
  (h 10, .inl (ca 0, 10, .inl (y.1 10))),
  (h 11, .inl (ca 0, 10, .inl (y.1 11))),
  (h 12, .inl (ca 0, 10, .inl (y.1 12))),
  (h 13, .inl (ca 1, 10, .inl (y.1 13))),
  (h 14, .inl (ca 1, 10, .inl (y.1 14))),
  (h 15, .inl (ca 0, 10, .inl (y.1 15))),
  (h 16, .inl (ca 0, 3, .inl (y.1 16))),
  (h 17, .inl (ca 0, 4, .inl (y.1 17))),
  (h 18, .inl (ca 0, 4, .inl (y.1 18)))]
theorem wM_f0 {h : Nat → Nat} {ca : Nat → ClassId} {y : XS} {v : Int32} : (wM h ca y).set 0 (h 0, .inr (5, (fsM h y).set 0 (.int v))) = wM h ca (si y 0 0 v) := by
  simp [wM, fsM, si, upd]
theorem wM_f6 {h : Nat → Nat} {ca : Nat → ClassId} {y : XS} {v : Int32} : (wM h ca y).set 0 (h 0, .inr (5, (fsM h y).set 6 (.int v))) = wM h ca (si y 0 6 v) := by
  simp [wM, fsM, si, upd]
theorem wM_f7 {h : Nat → Nat} {ca : Nat → ClassId} {y : XS} {v : Int32} : (wM h ca y).set 0 (h 0, .inr (5, (fsM h y).set 7 (.int v))) = wM h ca (si y 0 7 v) := by
  simp [wM, fsM, si, upd]
theorem wM_f8 {h : Nat → Nat} {ca : Nat → ClassId} {y : XS} {v : Int32} : (wM h ca y).set 0 (h 0, .inr (5, (fsM h y).set 8 (.int v))) = wM h ca (si y 0 8 v) := by
  simp [wM, fsM, si, upd]
theorem wM_f20 {h : Nat → Nat} {ca : Nat → ClassId} {y : XS} {v : Int32} : (wM h ca y).set 0 (h 0, .inr (5, (fsM h y).set 20 (.int v))) = wM h ca (si y 0 20 v) := by
  simp [wM, fsM, si, upd]
theorem wM_f21 {h : Nat → Nat} {ca : Nat → ClassId} {y : XS} {v : Int32} : (wM h ca y).set 0 (h 0, .inr (5, (fsM h y).set 21 (.int v))) = wM h ca (si y 0 21 v) := by
  simp [wM, fsM, si, upd]
theorem wM_f22 {h : Nat → Nat} {ca : Nat → ClassId} {y : XS} {v : Int32} : (wM h ca y).set 0 (h 0, .inr (5, (fsM h y).set 22 (.int v))) = wM h ca (si y 0 22 v) := by
  simp [wM, fsM, si, upd]
theorem wM_f25 {h : Nat → Nat} {ca : Nat → ClassId} {y : XS} {v : Int32} : (wM h ca y).set 0 (h 0, .inr (5, (fsM h y).set 25 (.int v))) = wM h ca (si y 0 25 v) := by
  simp [wM, fsM, si, upd]
theorem wM_f26 {h : Nat → Nat} {ca : Nat → ClassId} {y : XS} {v : Int32} : (wM h ca y).set 0 (h 0, .inr (5, (fsM h y).set 26 (.int v))) = wM h ca (si y 0 26 v) := by
  simp [wM, fsM, si, upd]
theorem wM_f27 {h : Nat → Nat} {ca : Nat → ClassId} {y : XS} {v : Int64} : (wM h ca y).set 0 (h 0, .inr (5, (fsM h y).set 27 (.long v))) = wM h ca (sl y 0 v) := by
  simp [wM, fsM, sl, vp_updL]
theorem wM_f28 {h : Nat → Nat} {ca : Nat → ClassId} {y : XS} {v : Int64} : (wM h ca y).set 0 (h 0, .inr (5, (fsM h y).set 28 (.long v))) = wM h ca (sl y 1 v) := by
  simp [wM, fsM, sl, vp_updL]
theorem wM_f29 {h : Nat → Nat} {ca : Nat → ClassId} {y : XS} {v : Int32} : (wM h ca y).set 0 (h 0, .inr (5, (fsM h y).set 29 (.int v))) = wM h ca (si y 0 29 v) := by
  simp [wM, fsM, si, upd]
theorem wM_a1 {h : Nat → Nat} {ca : Nat → ClassId} {y : XS} {i : Nat} {v : Int32} : (wM h ca y).set 1 (h 1, .inl (ca 0, 16, .inl (upd (y.1 1) i v))) = wM h ca (si y 1 i v) := by
  simp [wM, fsM, si]
theorem wM_a2 {h : Nat → Nat} {ca : Nat → ClassId} {y : XS} {i : Nat} {v : Int32} : (wM h ca y).set 2 (h 2, .inl (ca 0, 16, .inl (upd (y.1 2) i v))) = wM h ca (si y 2 i v) := by
  simp [wM, fsM, si]
theorem wM_a3 {h : Nat → Nat} {ca : Nat → ClassId} {y : XS} {i : Nat} {v : Int32} : (wM h ca y).set 3 (h 3, .inl (ca 0, 3, .inl (upd (y.1 3) i v))) = wM h ca (si y 3 i v) := by
  simp [wM, fsM, si]
theorem wM_a4 {h : Nat → Nat} {ca : Nat → ClassId} {y : XS} {i : Nat} {v : Int32} : (wM h ca y).set 4 (h 4, .inl (ca 0, 192, .inl (upd (y.1 4) i v))) = wM h ca (si y 4 i v) := by
  simp [wM, fsM, si]
theorem wM_a5 {h : Nat → Nat} {ca : Nat → ClassId} {y : XS} {i : Nat} {v : Int32} : (wM h ca y).set 5 (h 5, .inl (ca 1, 192, .inl (upd (y.1 5) i v))) = wM h ca (si y 5 i v) := by
  simp [wM, fsM, si]
theorem wM_a6 {h : Nat → Nat} {ca : Nat → ClassId} {y : XS} {i : Nat} {v : Int32} : (wM h ca y).set 6 (h 6, .inl (ca 0, 10, .inl (upd (y.1 6) i v))) = wM h ca (si y 6 i v) := by
  simp [wM, fsM, si]
theorem wM_a7 {h : Nat → Nat} {ca : Nat → ClassId} {y : XS} {i : Nat} {v : Int32} : (wM h ca y).set 7 (h 7, .inl (ca 0, 10, .inl (upd (y.1 7) i v))) = wM h ca (si y 7 i v) := by
  simp [wM, fsM, si]
theorem wM_a8 {h : Nat → Nat} {ca : Nat → ClassId} {y : XS} {i : Nat} {v : Int32} : (wM h ca y).set 8 (h 8, .inl (ca 0, 10, .inl (upd (y.1 8) i v))) = wM h ca (si y 8 i v) := by
  simp [wM, fsM, si]
theorem wM_a9 {h : Nat → Nat} {ca : Nat → ClassId} {y : XS} {i : Nat} {v : Int32} : (wM h ca y).set 9 (h 9, .inl (ca 0, 10, .inl (upd (y.1 9) i v))) = wM h ca (si y 9 i v) := by
  simp [wM, fsM, si]
theorem wM_a10 {h : Nat → Nat} {ca : Nat → ClassId} {y : XS} {i : Nat} {v : Int32} : (wM h ca y).set 10 (h 10, .inl (ca 0, 10, .inl (upd (y.1 10) i v))) = wM h ca (si y 10 i v) := by
  simp [wM, fsM, si]
theorem wM_a11 {h : Nat → Nat} {ca : Nat → ClassId} {y : XS} {i : Nat} {v : Int32} : (wM h ca y).set 11 (h 11, .inl (ca 0, 10, .inl (upd (y.1 11) i v))) = wM h ca (si y 11 i v) := by
  simp [wM, fsM, si]
theorem wM_a12 {h : Nat → Nat} {ca : Nat → ClassId} {y : XS} {i : Nat} {v : Int32} : (wM h ca y).set 12 (h 12, .inl (ca 0, 10, .inl (upd (y.1 12) i v))) = wM h ca (si y 12 i v) := by
  simp [wM, fsM, si]
theorem wM_a13 {h : Nat → Nat} {ca : Nat → ClassId} {y : XS} {i : Nat} {v : Int32} : (wM h ca y).set 13 (h 13, .inl (ca 1, 10, .inl (upd (y.1 13) i v))) = wM h ca (si y 13 i v) := by
  simp [wM, fsM, si]
theorem wM_a14 {h : Nat → Nat} {ca : Nat → ClassId} {y : XS} {i : Nat} {v : Int32} : (wM h ca y).set 14 (h 14, .inl (ca 1, 10, .inl (upd (y.1 14) i v))) = wM h ca (si y 14 i v) := by
  simp [wM, fsM, si]
theorem wM_a15 {h : Nat → Nat} {ca : Nat → ClassId} {y : XS} {i : Nat} {v : Int32} : (wM h ca y).set 15 (h 15, .inl (ca 0, 10, .inl (upd (y.1 15) i v))) = wM h ca (si y 15 i v) := by
  simp [wM, fsM, si]
theorem wM_a16 {h : Nat → Nat} {ca : Nat → ClassId} {y : XS} {i : Nat} {v : Int32} : (wM h ca y).set 16 (h 16, .inl (ca 0, 3, .inl (upd (y.1 16) i v))) = wM h ca (si y 16 i v) := by
  simp [wM, fsM, si]
theorem wM_a17 {h : Nat → Nat} {ca : Nat → ClassId} {y : XS} {i : Nat} {v : Int32} : (wM h ca y).set 17 (h 17, .inl (ca 0, 4, .inl (upd (y.1 17) i v))) = wM h ca (si y 17 i v) := by
  simp [wM, fsM, si]
theorem wM_a18 {h : Nat → Nat} {ca : Nat → ClassId} {y : XS} {i : Nat} {v : Int32} : (wM h ca y).set 18 (h 18, .inl (ca 0, 4, .inl (upd (y.1 18) i v))) = wM h ca (si y 18 i v) := by
  simp [wM, fsM, si]
def nests : List Cond := [(.methodLinkNest RX4 9 yX2_init "FacadeShow"), (.methodLinkNest RX4 41 yX3_init "FacadeShow"), (.methodLinkNest RX4 54 yX1_init "FacadeShow"), (.fieldLinkNest RX4 247 "FacadeShow$Scene" "version" "I" "FacadeShow"), (.fieldLinkNest RX4 242 "FacadeShow$Scene" "proposed" "I" "FacadeShow"), (.methodLinkNest RX4 300 yX3_note "FacadeShow"), (.methodLinkNest RX3 18 yX4_isColumn "FacadeShow"), (.methodLinkNest RX4 269 yX2_reliefOf "FacadeShow"), (.methodLinkNest RX2 21 yX4_isColumn "FacadeShow"), (.methodLinkNest RX4 278 yX2_stopsRays "FacadeShow"), (.methodLinkNest RX4 294 yX2_hundredthsOf "FacadeShow"), (.methodLinkNest RX4 218 yX3_coversAll "FacadeShow"), (.methodLinkNest RX4 193 yX0_shines "FacadeShow"), (.methodLinkNest RX4 282 yX2_hasTheLiving "FacadeShow"), (.methodLinkNest RX4 93 yX2_build "FacadeShow"), (.methodLinkNest RX4 104 yX2_contentOf "FacadeShow"), (.methodLinkNest RX4 113 yX2_put "FacadeShow"), (.methodLinkNest RX4 134 yX0_init "FacadeShow"), (.fieldLinkNest RX4 275 "FacadeShow$Projector" "column" "I" "FacadeShow"), (.fieldLinkNest RX4 272 "FacadeShow$Projector" "row" "I" "FacadeShow"), (.fieldLinkNest RX4 162 "FacadeShow$Projector" "power" "I" "FacadeShow"), (.fieldLinkNest RX4 155 "FacadeShow$Projector" "phase" "I" "FacadeShow"), (.fieldLinkNest RX4 297 "FacadeShow$Projector" "focus" "I" "FacadeShow"), (.fieldLinkNest RX4 145 "FacadeShow$Projector" "from" "I" "FacadeShow"), (.fieldLinkNest RX4 148 "FacadeShow$Projector" "to" "I" "FacadeShow"), (.fieldLinkNest RX4 151 "FacadeShow$Projector" "isOn" "Z" "FacadeShow"), (.fieldLinkNest RX4 170 "FacadeShow$Projector" "hasFailed" "Z" "FacadeShow"), (.fieldLinkNest RX4 231 "FacadeShow$Projector" "readyUpTo" "I" "FacadeShow"), (.methodLinkNest RX4 205 yX3_isWellCovered "FacadeShow"), (.declares ⟨"java/lang/RuntimeException", "<init>", "(Ljava/lang/String;)V"⟩), (.declares ⟨"java/lang/Exception", "<init>", "(Ljava/lang/String;)V"⟩), (.declares ⟨"java/lang/Throwable", "<init>", "(Ljava/lang/String;)V"⟩), (.castable "java/lang/IndexOutOfBoundsException" "java/lang/IndexOutOfBoundsException"), (.castable "java/lang/IllegalArgumentException" "java/lang/IllegalArgumentException"), (.castable "java/lang/IllegalStateException" "java/lang/IllegalStateException")]
def ncs : List (String × String) := [("java/lang/IllegalArgumentException", "java/lang/IndexOutOfBoundsException"), ("java/lang/IllegalStateException", "java/lang/IndexOutOfBoundsException"), ("java/lang/IllegalStateException", "java/lang/IllegalArgumentException")]
def texts : List (Nat × String) := [(81, "no such column"), (88, "relief is out of range"), (91, "surface is out of range"), (100, "no such cell"), (102, "what is out of range"), (110, "the cell has a mast"), (117, "columns is out of range"), (119, "level is out of range"), (121, "power is out of range"), (126, "phase is out of range"), (128, "focus is out of range"), (130, "the cell is not empty"), (132, "there are as many projectors as there may be"), (141, "no such projector"), (143, "to is below from, or too far"), (168, "its phase would bear more than it may"), (174, "wind is out of range"), (176, "no such row"), (200, "projectors has others"), (225, "from is out of range"), (227, "to is out of range"), (229, "frame is out of range"), (238, "no such scene"), (240, "version is out of range"), (245, "nothing is proposed"), (253, "minutes is out of range"), (255, "the minute would be above the last one")]
/-! what every method of the class needs of the machine -/
def isNest (w : Cond) : Bool := match w with
  | .fieldLinkNest _ _ _ _ _ _ => true
  | .methodLinkNest _ _ _ _ => true
  | .declares _ => true
  | .castable _ _ => true
  | _ => false
theorem nests_ok : nests.all isNest = true := by decide +kernel
theorem isNest_warm {w : Cond} (h : isNest w = true) {s U : State} (hW : s.WarmedH U.vm) (hZ : va_Nw w s) : va_Nw w U := by
  unfold isNest at h
  split at h
  · exact va_Nw.warmF hW hZ
  · exact va_Nw.warmM hW hZ
  · exact va_Nw.warmD hW hZ
  · exact va_Nw.warmC hW hZ
  · cases h
theorem isNest_tab {w : Cond} (h : isNest w = true) : w.onTables = true := by
  unfold isNest at h
  split at h
  · rfl
  · rfl
  · rfl
  · rfl
  · cases h
def aos : List String := ["FacadeShow$Projector", "FacadeShow$Scene"]
def cx (D : va_G) (ca : Nat → ClassId) (U : State) : Prop := va_K D vwCl (tyA ca) U ∧ (∀ w ∈ nests, va_Nw w U) ∧ (∀ q ∈ texts, ∃ a, vk_R RX4 q.1 q.2 a U) ∧ (∀ q ∈ ncs, va_Nc q.1 q.2 U) ∧ ∀ C ∈ aos, va_AO C U
theorem cx.warm {D : va_G} {ca : Nat → ClassId} {s U : State} (hW : s.WarmedH U.vm) (h : cx D ca s) : cx D ca U :=
  ⟨va_K.moved hW.alike h.1, fun w hw => isNest_warm (List.all_eq_true.mp nests_ok w hw) hW (h.2.1 w hw), fun q hq => by obtain ⟨a, ha⟩ := h.2.2.1 q hq; exact ⟨a, vk_R.warm hW ha⟩, fun q hq => va_Nc.moved hW.alike (h.2.2.2.1 q hq), fun C hq => va_AO.moved hW.alike (h.2.2.2.2 C hq)⟩
theorem cx.use {D : va_G} {ca : Nat → ClassId} {s : State} {args : Array Value} (h : cx D ca s) : ∀ w ∈ nests, w.before args s = true := fun w hw => va_Nw.use (isNest_tab (List.all_eq_true.mp nests_ok w hw)) (h.2.1 w hw)
/-! readers -/
def rP (av : List Value) (D : va_G) (ca : Nat → ClassId) (w : va_W) : Array Value → State → Prop := va_Pc av (fun U => va_P D vwCl w U.heap ∧ cx D ca U)
theorem rP_blind {av : List Value} {D : va_G} {ca : Nat → ClassId} {w : va_W} : FrameBlind (rP av D ca w) := by
  intro a U g mk h
  obtain ⟨h1, h2, h3⟩ := h
  exact ⟨h1, h2, cx.warm (s := U) (U := U.calling g mk a) (State.WarmedH.refl U) h3⟩
theorem rP_V {D : va_G} {ca : Nat → ClassId} {w : va_W} {H : Heap} {s : State} (hP : va_P D vwCl w H) (hC : cx D ca s) (q0 : Nat) {b ci : Nat} {fs : List Value} {q : vw_C} {As : List Value} (he : w[q0]? = some (b, .inr (ci, fs))) (hc : vwCl[ci]? = some q) : PreV s H q.1 b (rP (.ref b :: As) D ca w) As :=
  ⟨rP_blind, va_recv hC.1 hP hc he, fun U hU hW => ⟨rfl, by rw [hU]; exact hP, hC.warm hW⟩⟩
theorem rP_S {D : va_G} {ca : Nat → ClassId} {w : va_W} {H : Heap} {s : State} (hP : va_P D vwCl w H) (hC : cx D ca s) {As : List Value} : PreS s H (rP As D ca w) As :=
  ⟨rP_blind, fun U hU hW => ⟨rfl, by rw [hU]; exact hP, hC.warm hW⟩⟩
theorem va_P_nil {D : va_G} {H : Heap} : va_P D vwCl [] H := fun k q h => by simp at h
section RDR
variable {p : Program} {l : Launch} {e : Env} {R : Room} {s : State} {m : MethodId} {args : Array Value} {below : List Frame} {meth : Method} {c : Code} {H : Heap} {locs : List Loc} {cells slots : Nat} {Q : State → Prop}
variable {cc : ByteArray} {pc : Nat} {ls : Array Slot} {rest st0 : List Value} {a : Array Value}
theorem rd_i {v : Int32} (hr : va_Run p l e R s m args below meth c H locs cells slots 0 0 (F0 m pc ls st0) rest (vp_Si (fun z => z = v) a) (fun _ => False))
    (kk : W p l e R s m args below meth c H locs cells slots Q (F0 m (pc + 3) ls (.int v :: rest))) : W p l e R s m args below meth c H locs cells slots Q (F0 m pc ls st0) :=
  vp_callSi hr.run (fun z h => by rw [h]; exact kk)
theorem rd_q {o : Option Nat} {ad : Nat → Nat} (hr : va_Run p l e R s m args below meth c H locs cells slots 0 0 (F0 m pc ls st0) rest (va_Se ad (fun z => z = o) a) (fun _ => False))
    (kn : o = none → W p l e R s m args below meth c H locs cells slots Q (F0 m (pc + 3) ls (.null :: rest)))
    (ks : ∀ j : Nat, o = some j → W p l e R s m args below meth c H locs cells slots Q (F0 m (pc + 3) ls (.ref (ad j) :: rest))) : W p l e R s m args below meth c H locs cells slots Q (F0 m pc ls st0) :=
  va_cse hr.run (fun z h => by
    subst h
    cases z with
    | none => exact kn rfl
    | some j => exact ks j rfl)
theorem rt_i {v r : Int32} (hx : p.tables.exec = Jvm.exec) (hb : c.code = cc) (hr : meth.sig.returnType = some .int) (he : some v = some r) (hdg : decode cc pc = .ok (.ireturn, 1)) (hlocks : meth.locks = false) :
    W p l e R s m args below meth c s.heap [] 0 0 (MQ below (vp_Si (fun z => z = r)) args s 0 0 (fun _ => False)) (F0 m pc ls [.int v]) :=
  W.iret (v := v) hx hb hr (fun _ ht _ => ⟨v, rfl, Option.some.inj he, ht⟩) (fun _ h => nomatch h) hdg hlocks
theorem nz_b {v : Int32} (h : v = 0 ∨ v = 1) : narrow .boolean (.int v) = .int v := by
  rcases h with rfl | rfl <;> decide +kernel
theorem fit_b {v : Int32} (h : v = 0 ∨ v = 1) : fits .boolean (.int v) = true := by
  rcases h with rfl | rfl <;> decide +kernel
theorem nar_b {v : Int32} (h : v = 0 ∨ v = 1) : vp_nar .boolean v = v := by
  rcases h with rfl | rfl <;> decide +kernel
theorem rt_z {v r : Int32} (hx : p.tables.exec = Jvm.exec) (hb : c.code = cc) (hr : meth.sig.returnType = some .boolean) (hz : v = 0 ∨ v = 1) (he : some v = some r) (hdg : decode cc pc = .ok (.ireturn, 1)) (hlocks : meth.locks = false) :
    W p l e R s m args below meth c s.heap [] 0 0 (MQ below (vp_Si (fun z => z = r)) args s 0 0 (fun _ => False)) (F0 m pc ls [.int v]) :=
  W.zret (v := v) hx hb hr (nz_b hz) (fun _ ht _ => ⟨v, rfl, Option.some.inj he, ht⟩) (fun _ h => nomatch h) hdg hlocks
theorem rt_qn {r : Option Nat} {ad : Nat → Nat} {rt : FieldType} (hx : p.tables.exec = Jvm.exec) (hb : c.code = cc) (hr : meth.sig.returnType = some rt) (hrt : (∃ n, rt = .object n) ∨ ∃ t, rt = .array t) (he : (some none : Option (Option Nat)) = some r) (hdg : decode cc pc = .ok (.areturn, 1)) (hlocks : meth.locks = false) :
    W p l e R s m args below meth c s.heap [] 0 0 (MQ below (va_Se ad (fun z => z = r)) args s 0 0 (fun _ => False)) (F0 m pc ls [.null]) :=
  W.aret (v := .null) hx hb hr hrt (Or.inl rfl) (fun _ ht _ => ⟨none, rfl, Option.some.inj he, ht⟩) (fun _ h => nomatch h) hdg hlocks
theorem rt_qs {r : Option Nat} {j : Nat} {ad : Nat → Nat} {rt : FieldType} (hx : p.tables.exec = Jvm.exec) (hb : c.code = cc) (hr : meth.sig.returnType = some rt) (hrt : (∃ n, rt = .object n) ∨ ∃ t, rt = .array t) (he : some (some j) = some r) (hdg : decode cc pc = .ok (.areturn, 1)) (hlocks : meth.locks = false) :
    W p l e R s m args below meth c s.heap [] 0 0 (MQ below (va_Se ad (fun z => z = r)) args s 0 0 (fun _ => False)) (F0 m pc ls [.ref (ad j)]) :=
  W.aret (v := .ref (ad j)) hx hb hr hrt (Or.inr ⟨_, rfl⟩) (fun _ ht _ => ⟨some j, rfl, Option.some.inj he, ht⟩) (fun _ h => nomatch h) hdg hlocks
/-! writers -/
def wP (av : List Value) (D : va_G) (ca : Nat → ClassId) (w : va_W) (sz : Nat) : Array Value → State → Prop := va_Pc av (fun U => U.heap.size = sz ∧ va_P D vwCl w U.heap ∧ cx D ca U ∧ va_D (fun _ => True) w)
theorem wP_blind {av : List Value} {D : va_G} {ca : Nat → ClassId} {w : va_W} {sz : Nat} : FrameBlind (wP av D ca w sz) := by
  intro a U g mk h
  obtain ⟨h1, h0, h2, h3, h4⟩ := h
  exact ⟨h1, h0, h2, cx.warm (s := U) (U := U.calling g mk a) (State.WarmedH.refl U) h3, h4⟩
theorem wP_V {D : va_G} {ca : Nat → ClassId} {w : va_W} {A : Nat → Prop} (hP : va_P D vwCl w H) (hC : cx D ca s) (hD : va_D A w) (q0 : Nat) {b ci : Nat} {fs : List Value} {q : vw_C} {As : List Value} (he : w[q0]? = some (b, .inr (ci, fs))) (hc : vwCl[ci]? = some q) : PreV s H q.1 b (wP (.ref b :: As) D ca w H.size) As :=
  ⟨wP_blind, va_recv hC.1 hP hc he, fun U hU hW => ⟨rfl, by rw [hU], by rw [hU]; exact hP, hC.warm hW, hD.weaken (fun _ _ _ _ => trivial)⟩⟩
theorem wP_S {D : va_G} {ca : Nat → ClassId} {w : va_W} {A : Nat → Prop} (hP : va_P D vwCl w H) (hC : cx D ca s) (hD : va_D A w) {As : List Value} : PreS s H (wP As D ca w H.size) As :=
  ⟨wP_blind, fun U hU hW => ⟨rfl, by rw [hU], by rw [hU]; exact hP, hC.warm hW, hD.weaken (fun _ _ _ _ => trivial)⟩⟩
def wB (D : va_G) (w w' : va_W) (sz : Nat) : Unit → State → Prop := fun _ t => va_P D vwCl w' t.heap ∧ va_D (va_A w sz) w'
def wQi (v : Int32) (D : va_G) (w w' : va_W) (sz : Nat) : Array Value → State → Outcome → State → Prop := va_Qi (S := Unit) (fun z _ => z = v) (wB D w w' sz) (va_A w sz)
def wQl (v : Int64) (D : va_G) (w w' : va_W) (sz : Nat) : Array Value → State → Outcome → State → Prop := va_Ql (S := Unit) (fun z _ => z = v) (wB D w w' sz) (va_A w sz)
def wQv (D : va_G) (w w' : va_W) (sz : Nat) : Array Value → State → Outcome → State → Prop := va_Qv (S := Unit) (fun _ => True) (wB D w w' sz) (va_A w sz)
theorem va_A_in {A0 A1 : Nat → Prop} {w : va_W} {H0 : Heap} (hD : va_D A0 w) (hS : va_S A1 H0 H locs) (hA : ∀ q, H0.size ≤ q → A0 q) : ∀ q, va_A w H.size q → A0 q := by
  intro q h
  rcases h with ⟨k, e, h⟩ | h
  · exact hD.2 k (q, e) h
  · exact hA q (Nat.le_trans hS.1 h)
theorem wr_i {v : Int32} {D : va_G} {w w' : va_W} {A : Nat → Prop} {H0 : Heap} {mc ms : Nat} (hr : va_Run p l e R s m args below meth c H locs cells slots mc ms (F0 m pc ls st0) rest (wQi v D w w' H.size a) (va_A w H.size)) (hD : va_D A w) (hS : va_S A H0 H locs) (hA : ∀ q, H0.size ≤ q → A q)
    (kk : ∀ (H1 : Heap) (locs1 : List Loc), va_P D vwCl w' H1 → va_D A w' → va_S A H0 H1 locs1 → W p l e R s m args below meth c H1 locs1 (cells + mc) (slots + ms) Q (F0 m (pc + 3) ls (.int v :: rest))) : W p l e R s m args below meth c H locs cells slots Q (F0 m pc ls st0) :=
  va_calli hr hS (fun q _ h => va_A_in hD hS hA q h) (va_A_in hD hS hA) (fun z u t H1 locs1 ht _ hp hB _ _ hS1 => by
    rw [hp]
    exact kk H1 locs1 (ht ▸ hB.1) (hB.2.weaken (fun _ _ _ h => va_A_in hD hS hA _ h)) hS1)
theorem wr_v {D : va_G} {w w' : va_W} {A : Nat → Prop} {H0 : Heap} {mc ms : Nat} (hr : va_Run p l e R s m args below meth c H locs cells slots mc ms (F0 m pc ls st0) rest (wQv D w w' H.size a) (va_A w H.size)) (hD : va_D A w) (hS : va_S A H0 H locs) (hA : ∀ q, H0.size ≤ q → A q)
    (kk : ∀ (H1 : Heap) (locs1 : List Loc), va_P D vwCl w' H1 → va_D A w' → va_S A H0 H1 locs1 → W p l e R s m args below meth c H1 locs1 (cells + mc) (slots + ms) Q (F0 m (pc + 3) ls rest)) : W p l e R s m args below meth c H locs cells slots Q (F0 m pc ls st0) :=
  va_callv hr hS (fun q _ h => va_A_in hD hS hA q h) (va_A_in hD hS hA) (fun u t H1 locs1 ht _ _ hB _ _ hS1 =>
    kk H1 locs1 (ht ▸ hB.1) (hB.2.weaken (fun _ _ _ h => va_A_in hD hS hA _ h)) hS1)
theorem wt_i {v : Int32} {xe : XS} {r : Int32 × XS} {f : XS → va_W} {D : va_G} {w : va_W} {A : Nat → Prop} (hx : p.tables.exec = Jvm.exec) (hb : c.code = cc) (hr : meth.sig.returnType = some .int) (hA : va_A w s.heap.size = A) (hv : some (v, xe) = some r) (hP : va_P D vwCl (f xe) H) (hD : va_D A (f xe)) (hS : va_S A s.heap H locs) (hdg : decode cc pc = .ok (.ireturn, 1)) (hlocks : meth.locks = false) :
    W p l e R s m args below meth c H locs cells slots (MQ below (wQi r.1 D w (f r.2) s.heap.size) args s cells slots A) (F0 m pc ls [.int v]) := by
  subst hA
  cases hv
  exact W.iret (v := v) hx hb hr (fun t ht _ => ⟨⟨v, (), rfl, rfl, by rw [ht]; exact hP, hD⟩, hS.F ht⟩) hS.2.2 hdg hlocks
theorem wt_z {v : Int32} {xe : XS} {r : Int32 × XS} {f : XS → va_W} {D : va_G} {w : va_W} {A : Nat → Prop} (hx : p.tables.exec = Jvm.exec) (hb : c.code = cc) (hr : meth.sig.returnType = some .boolean) (hA : va_A w s.heap.size = A) (hz : v = 0 ∨ v = 1) (hv : some (v, xe) = some r) (hP : va_P D vwCl (f xe) H) (hD : va_D A (f xe)) (hS : va_S A s.heap H locs) (hdg : decode cc pc = .ok (.ireturn, 1)) (hlocks : meth.locks = false) :
    W p l e R s m args below meth c H locs cells slots (MQ below (wQi r.1 D w (f r.2) s.heap.size) args s cells slots A) (F0 m pc ls [.int v]) := by
  subst hA
  cases hv
  exact W.zret (v := v) hx hb hr (nz_b hz) (fun t ht _ => ⟨⟨v, (), rfl, rfl, by rw [ht]; exact hP, hD⟩, hS.F ht⟩) hS.2.2 hdg hlocks
theorem wt_l {v : Int64} {xe : XS} {r : Int64 × XS} {f : XS → va_W} {D : va_G} {w : va_W} {A : Nat → Prop} (hx : p.tables.exec = Jvm.exec) (hb : c.code = cc) (hr : meth.sig.returnType = some .long) (hA : va_A w s.heap.size = A) (hv : some (v, xe) = some r) (hP : va_P D vwCl (f xe) H) (hD : va_D A (f xe)) (hS : va_S A s.heap H locs) (hdg : decode cc pc = .ok (.lreturn, 1)) (hlocks : meth.locks = false) :
    W p l e R s m args below meth c H locs cells slots (MQ below (wQl r.1 D w (f r.2) s.heap.size) args s cells slots A) (F0 m pc ls [.long v]) := by
  subst hA
  cases hv
  exact W.lret (v := v) hx hb hr (fun t ht _ => ⟨⟨v, (), rfl, rfl, by rw [ht]; exact hP, hD⟩, hS.F ht⟩) hS.2.2 hdg hlocks
theorem wt_v {xe : XS} {r : XS} {f : XS → va_W} {D : va_G} {w : va_W} {A : Nat → Prop} (hx : p.tables.exec = Jvm.exec) (hb : c.code = cc) (hr : meth.sig.returnType = none) (hA : va_A w s.heap.size = A) (hv : some xe = some r) (hP : va_P D vwCl (f xe) H) (hD : va_D A (f xe)) (hS : va_S A s.heap H locs) (hdg : decode cc pc = .ok (.return_, 1)) (hlocks : meth.locks = false) :
    W p l e R s m args below meth c H locs cells slots (MQ below (wQv D w (f r) s.heap.size) args s cells slots A) (F0 m pc ls []) := by
  subst hA
  cases hv
  exact W.vret hx hb hr (fun t ht _ => ⟨⟨(), rfl, trivial, by rw [ht]; exact hP, hD⟩, hS.F ht⟩) hS.2.2 hdg hlocks
end RDR
/-! a method's own meaning, as a partial function: what a step of it asks for -/
def chk {α : Type} (n : Nat) (i : Int32) (B : Option α) : Option α := if i < 0 ∨ n ≤ i.toNatClampNeg then none else B
def dvz {α : Type} (d : Int32) (B : Option α) : Option α := if d = 0 then none else B
def dvzL {α : Type} (d : Int64) (B : Option α) : Option α := if d = 0 then none else B
def grd {α : Type} (j n : Nat) (B : Option α) : Option α := if j < n then B else none
def zb {α : Type} (v : Int32) (B : Option α) : Option α := if v = 0 ∨ v = 1 then B else none
def opq {α : Type} (o : Option Nat) (A : Option α) (B : Nat → Option α) : Option α := match o with
  | none => A
  | some j => B j
theorem sp_t {α : Type} {c : Prop} {ic : Decidable c} {A B : Option α} {r : α} (h : c) (hs : (@ite _ c ic A B) = some r) : A = some r := by rw [if_pos h] at hs; exact hs
theorem sp_f {α : Type} {c : Prop} {ic : Decidable c} {A B : Option α} {r : α} (h : ¬ c) (hs : (@ite _ c ic A B) = some r) : B = some r := by rw [if_neg h] at hs; exact hs
theorem sp_b {α β : Type} {A : Option α} {k : α → Option β} {r : β} (hs : A.bind k = some r) : ∃ v, A = some v ∧ k v = some r := Option.bind_eq_some_iff.mp hs
theorem sp_c {α : Type} {n : Nat} {i : Int32} {B : Option α} {r : α} (hs : chk n i B = some r) : vp_in i n ∧ B = some r := by
  unfold chk at hs
  by_cases h : i < 0 ∨ n ≤ i.toNatClampNeg
  · rw [if_pos h] at hs; cases hs
  · rw [if_neg h] at hs; exact ⟨h, hs⟩
theorem sp_d {α : Type} {d : Int32} {B : Option α} {r : α} (hs : dvz d B = some r) : ¬ d = 0 ∧ B = some r := by
  unfold dvz at hs
  by_cases h : d = 0
  · rw [if_pos h] at hs; cases hs
  · rw [if_neg h] at hs; exact ⟨h, hs⟩
theorem sp_dL {α : Type} {d : Int64} {B : Option α} {r : α} (hs : dvzL d B = some r) : ¬ d = 0 ∧ B = some r := by
  unfold dvzL at hs
  by_cases h : d = 0
  · rw [if_pos h] at hs; cases hs
  · rw [if_neg h] at hs; exact ⟨h, hs⟩
theorem sp_g {α : Type} {j n : Nat} {B : Option α} {r : α} (hs : grd j n B = some r) : j < n ∧ B = some r := by
  unfold grd at hs
  by_cases h : j < n
  · rw [if_pos h] at hs; exact ⟨h, hs⟩
  · rw [if_neg h] at hs; cases hs
theorem sp_z {α : Type} {v : Int32} {B : Option α} {r : α} (hs : zb v B = some r) : (v = 0 ∨ v = 1) ∧ B = some r := by
  unfold zb at hs
  by_cases h : v = 0 ∨ v = 1
  · rw [if_pos h] at hs; exact ⟨h, hs⟩
  · rw [if_neg h] at hs; cases hs
theorem sp_on {α : Type} {o : Option Nat} {A : Option α} {B : Nat → Option α} {r : α} (h : o = none) (hs : opq o A B = some r) : A = some r := by subst h; exact hs
theorem sp_os {α : Type} {o : Option Nat} {A : Option α} {B : Nat → Option α} {r : α} {j : Nat} (h : o = some j) (hs : opq o A B = some r) : B j = some r := by subst h; exact hs
theorem nk_X4_9 : (.methodLinkNest RX4 9 yX2_init "FacadeShow" : Cond) ∈ nests := by decide +kernel
theorem nk_X4_41 : (.methodLinkNest RX4 41 yX3_init "FacadeShow" : Cond) ∈ nests := by decide +kernel
theorem nk_X4_54 : (.methodLinkNest RX4 54 yX1_init "FacadeShow" : Cond) ∈ nests := by decide +kernel
theorem nk_X4_247 : (.fieldLinkNest RX4 247 "FacadeShow$Scene" "version" "I" "FacadeShow" : Cond) ∈ nests := by decide +kernel
theorem nk_X4_242 : (.fieldLinkNest RX4 242 "FacadeShow$Scene" "proposed" "I" "FacadeShow" : Cond) ∈ nests := by decide +kernel
theorem nk_X4_300 : (.methodLinkNest RX4 300 yX3_note "FacadeShow" : Cond) ∈ nests := by decide +kernel
theorem nk_X3_18 : (.methodLinkNest RX3 18 yX4_isColumn "FacadeShow" : Cond) ∈ nests := by decide +kernel
theorem nk_X4_269 : (.methodLinkNest RX4 269 yX2_reliefOf "FacadeShow" : Cond) ∈ nests := by decide +kernel
theorem nk_X2_21 : (.methodLinkNest RX2 21 yX4_isColumn "FacadeShow" : Cond) ∈ nests := by decide +kernel
theorem nk_X4_278 : (.methodLinkNest RX4 278 yX2_stopsRays "FacadeShow" : Cond) ∈ nests := by decide +kernel
theorem nk_X4_294 : (.methodLinkNest RX4 294 yX2_hundredthsOf "FacadeShow" : Cond) ∈ nests := by decide +kernel
theorem nk_X4_218 : (.methodLinkNest RX4 218 yX3_coversAll "FacadeShow" : Cond) ∈ nests := by decide +kernel
theorem nk_X4_193 : (.methodLinkNest RX4 193 yX0_shines "FacadeShow" : Cond) ∈ nests := by decide +kernel
theorem nk_X4_282 : (.methodLinkNest RX4 282 yX2_hasTheLiving "FacadeShow" : Cond) ∈ nests := by decide +kernel
theorem nk_X4_93 : (.methodLinkNest RX4 93 yX2_build "FacadeShow" : Cond) ∈ nests := by decide +kernel
theorem nk_X4_104 : (.methodLinkNest RX4 104 yX2_contentOf "FacadeShow" : Cond) ∈ nests := by decide +kernel
theorem nk_X4_113 : (.methodLinkNest RX4 113 yX2_put "FacadeShow" : Cond) ∈ nests := by decide +kernel
theorem nk_X4_134 : (.methodLinkNest RX4 134 yX0_init "FacadeShow" : Cond) ∈ nests := by decide +kernel
theorem nk_X4_275 : (.fieldLinkNest RX4 275 "FacadeShow$Projector" "column" "I" "FacadeShow" : Cond) ∈ nests := by decide +kernel
theorem nk_X4_272 : (.fieldLinkNest RX4 272 "FacadeShow$Projector" "row" "I" "FacadeShow" : Cond) ∈ nests := by decide +kernel
theorem nk_X4_162 : (.fieldLinkNest RX4 162 "FacadeShow$Projector" "power" "I" "FacadeShow" : Cond) ∈ nests := by decide +kernel
theorem nk_X4_155 : (.fieldLinkNest RX4 155 "FacadeShow$Projector" "phase" "I" "FacadeShow" : Cond) ∈ nests := by decide +kernel
theorem nk_X4_297 : (.fieldLinkNest RX4 297 "FacadeShow$Projector" "focus" "I" "FacadeShow" : Cond) ∈ nests := by decide +kernel
theorem nk_X4_145 : (.fieldLinkNest RX4 145 "FacadeShow$Projector" "from" "I" "FacadeShow" : Cond) ∈ nests := by decide +kernel
theorem nk_X4_148 : (.fieldLinkNest RX4 148 "FacadeShow$Projector" "to" "I" "FacadeShow" : Cond) ∈ nests := by decide +kernel
theorem nk_X4_151 : (.fieldLinkNest RX4 151 "FacadeShow$Projector" "isOn" "Z" "FacadeShow" : Cond) ∈ nests := by decide +kernel
theorem nk_X4_170 : (.fieldLinkNest RX4 170 "FacadeShow$Projector" "hasFailed" "Z" "FacadeShow" : Cond) ∈ nests := by decide +kernel
theorem nk_X4_231 : (.fieldLinkNest RX4 231 "FacadeShow$Projector" "readyUpTo" "I" "FacadeShow" : Cond) ∈ nests := by decide +kernel
theorem nk_X4_205 : (.methodLinkNest RX4 205 yX3_isWellCovered "FacadeShow" : Cond) ∈ nests := by decide +kernel
section LDR
variable {p : Program} {l : Launch} {e : Env} {R : Room} {s : State} {m : MethodId} {args : Array Value} {below : List Frame} {meth : Method} {c : Code} {H : Heap} {locs : List Loc} {cells slots : Nat} {Q : State → Prop}
variable {cc : ByteArray} {pc : Nat} {ls : Array Slot} {rest : List Value}
theorem ld_P {D : va_G} {ca g : Nat → Nat} {x : XS} {i : Int32} (hx : p.tables.exec = Jvm.exec) (hb : c.code = cc) (hK : va_K D vwCl (tyA ca) s) (hP : va_P D vwCl (wX g ca x) H) (hin : vp_in i 10) (hdg : decode cc pc = .ok (.aaload, 1))
    (kt : i.toNatClampNeg < x.2.2 → W p l e R s m args below meth c H locs cells slots Q (F0 m (pc + 1) ls (.ref (adP g i.toNatClampNeg) :: rest)))
    (kf : ¬ i.toNatClampNeg < x.2.2 → W p l e R s m args below meth c H locs cells slots Q (F0 m (pc + 1) ls (.null :: rest))) :
    W p l e R s m args below meth c H locs cells slots Q (F0 m pc ls (.int i :: .ref (g 2) :: rest)) := by
  refine va_aldq (cA := ca 3) (n := 10) (f := plX g x.2.2) hx hb hK hP 5 3 rfl rfl hin hdg ?_
  by_cases h : i.toNatClampNeg < x.2.2
  · have e : plX g x.2.2 i.toNatClampNeg = some (adP g i.toNatClampNeg) := by simp [plX, h]
    rw [e]
    exact kt h
  · have e : plX g x.2.2 i.toNatClampNeg = none := by simp [plX, h]
    rw [e]
    exact kf h
theorem ld_S {D : va_G} {ca g : Nat → Nat} {x : XS} {i : Int32} (hx : p.tables.exec = Jvm.exec) (hb : c.code = cc) (hK : va_K D vwCl (tyA ca) s) (hP : va_P D vwCl (wX g ca x) H) (hin : vp_in i 4) (hdg : decode cc pc = .ok (.aaload, 1))
    (kk : W p l e R s m args below meth c H locs cells slots Q (F0 m (pc + 1) ls (.ref (adS g i.toNatClampNeg) :: rest))) :
    W p l e R s m args below meth c H locs cells slots Q (F0 m pc ls (.int i :: .ref (g 5) :: rest)) :=
  by
  refine va_aldq (cA := ca 4) (n := 4) (f := plS g) hx hb hK hP 10 4 rfl rfl hin hdg ?_
  have e : plS g i.toNatClampNeg = some (adS g i.toNatClampNeg) := by
    have hlt : i.toNatClampNeg < 4 := Nat.not_le.mp fun q => hin (Or.inr q)
    simp [plS, hlt]
  rw [e]
  exact kk
end LDR
def FU : Nat := 2000
end
section
/-! methods that return or throw: a result is (0, answer, state) or (k, _, state) with k the exception -/
def exn (k : Nat) : String := if k = 1 then "java/lang/IndexOutOfBoundsException" else if k = 2 then "java/lang/IllegalArgumentException" else "java/lang/IllegalStateException"
def exNames : List String := ["java/lang/RuntimeException", "java/lang/Exception"]
def zz (A : Nat → Prop) (U : State) : Prop := vx_Zq Bundle.tN "UNASSIGNED_STACK" Bundle.steD A U U.heap ∧ vx_Zq Bundle.tN "SUPPRESSED_SENTINEL" Bundle.listD A U U.heap
theorem zz_with {A : Nat → Prop} {u U : State} (hvm : u.vm.Alike U.vm) (hh : U.heap = u.heap) (h : zz A u) : zz A U := by
  obtain ⟨h1, h2⟩ := h
  exact ⟨by rw [hh]; exact vx_Zq.moved hvm h1, by rw [hh]; exact vx_Zq.moved hvm h2⟩
def tP (av : List Value) (D : va_G) (ca : Nat → ClassId) (w : va_W) (sz : Nat) : Array Value → State → Prop := va_Pc av (fun U => U.heap.size = sz ∧ va_P D vwCl w U.heap ∧ cx D ca U ∧ va_D (fun _ => True) w ∧ zz (va_A w sz) U)
theorem tP_blind {av : List Value} {D : va_G} {ca : Nat → ClassId} {w : va_W} {sz : Nat} : FrameBlind (tP av D ca w sz) := by
  intro a U g mk h
  obtain ⟨h1, h0, h2, h3, h4, h5⟩ := h
  exact ⟨h1, h0, h2, cx.warm (s := U) (U := U.calling g mk a) (State.WarmedH.refl U) h3, h4, zz_with (u := U) (U := U.calling g mk a) (Vm.Alike.refl U.vm) rfl h5⟩
def tQi (r : Nat × Int32 × XS) (D : va_G) (w : va_W) (f : XS → va_W) (sz : Nat) : Array Value → State → Outcome → State → Prop := va_Qi (S := Unit) (fun z _ => r.1 = 0 ∧ z = r.2.1) (wB D w (f r.2.2) sz) (va_A w sz)
def tQl (r : Nat × Int64 × XS) (D : va_G) (w : va_W) (f : XS → va_W) (sz : Nat) : Array Value → State → Outcome → State → Prop := va_Ql (S := Unit) (fun z _ => r.1 = 0 ∧ z = r.2.1) (wB D w (f r.2.2) sz) (va_A w sz)
def tQv (r : Nat × Int32 × XS) (D : va_G) (w : va_W) (f : XS → va_W) (sz : Nat) : Array Value → State → Outcome → State → Prop := va_Qv (S := Unit) (fun _ => r.1 = 0) (wB D w (f r.2.2) sz) (va_A w sz)
def tX (k : Nat) (x : XS) (D : va_G) (w : va_W) (f : XS → va_W) (sz : Nat) : String → State → State → Prop := vx_X (S := Unit) (fun _ => True) (fun E _ t => (k = 1 ∨ k = 2 ∨ k = 3) ∧ E = exn k ∧ wB D w (f x) sz () t) (va_A w sz)
section TRW
variable {p : Program} {l : Launch} {e : Env} {R : Room} {s : State} {m : MethodId} {args : Array Value} {below : List Frame} {meth : Method} {c : Code} {H : Heap} {locs : List Loc} {cells slots : Nat} {Q : State → Prop}
variable {cc : ByteArray} {pc : Nat} {ls : Array Slot} {rest st0 : List Value} {a : Array Value}
theorem tP_V {D : va_G} {ca : Nat → ClassId} {w : va_W} {A : Nat → Prop} {H0 : Heap} (hP : va_P D vwCl w H) (hC : cx D ca s) (hD : va_D A w) (hz : zz A s) (hS : va_S A s.heap H locs) (hA : ∀ q, s.heap.size ≤ q → A q) (q0 : Nat) {b ci : Nat} {fs : List Value} {q : vw_C} {As : List Value} (he : w[q0]? = some (b, .inr (ci, fs))) (hc : vwCl[ci]? = some q) : PreV s H q.1 b (tP (.ref b :: As) D ca w H.size) As :=
  ⟨tP_blind, va_recv hC.1 hP hc he, fun U hU hW => ⟨rfl, by rw [hU], by rw [hU]; exact hP, hC.warm hW, hD.weaken (fun _ _ _ _ => trivial), by
    rw [zz, hU]
    exact ⟨(vx_Zq.moved hW.alike (hz.1.kept hS.2.1)).narrow (va_A_in hD hS hA), (vx_Zq.moved hW.alike (hz.2.kept hS.2.1)).narrow (va_A_in hD hS hA)⟩⟩⟩
theorem tt_i {v : Int32} {xe : XS} {r : Nat × Int32 × XS} {f : XS → va_W} {D : va_G} {w : va_W} {A : Nat → Prop} {mc ms : Nat} {XC : String → State → State → Prop} (hx : p.tables.exec = Jvm.exec) (hb : c.code = cc) (hr : meth.sig.returnType = some .int) (hA : va_A w s.heap.size = A) (hv : some (0, v, xe) = some r) (hP : va_P D vwCl (f xe) H) (hD : va_D A (f xe)) (hS : va_S A s.heap H locs) (h1 : cells ≤ mc) (h2 : slots ≤ ms) (hdg : decode cc pc = .ok (.ireturn, 1)) (hlocks : meth.locks = false) :
    W p l e R s m args below meth c H locs cells slots (vx_MQ below (tQi r D w f s.heap.size) XC args s mc ms A) (F0 m pc ls [.int v]) := by
  subst hA
  cases hv
  exact W.widen h1 h2 (vx_ret (W.iret (v := v) hx hb hr (fun t ht _ => ⟨⟨v, (), rfl, ⟨rfl, rfl⟩, by rw [ht]; exact hP, hD⟩, hS.F ht⟩) hS.2.2 hdg hlocks))
theorem tt_z {v : Int32} {xe : XS} {r : Nat × Int32 × XS} {f : XS → va_W} {D : va_G} {w : va_W} {A : Nat → Prop} {mc ms : Nat} {XC : String → State → State → Prop} (hx : p.tables.exec = Jvm.exec) (hb : c.code = cc) (hr : meth.sig.returnType = some .boolean) (hA : va_A w s.heap.size = A) (hz : v = 0 ∨ v = 1) (hv : some (0, v, xe) = some r) (hP : va_P D vwCl (f xe) H) (hD : va_D A (f xe)) (hS : va_S A s.heap H locs) (h1 : cells ≤ mc) (h2 : slots ≤ ms) (hdg : decode cc pc = .ok (.ireturn, 1)) (hlocks : meth.locks = false) :
    W p l e R s m args below meth c H locs cells slots (vx_MQ below (tQi r D w f s.heap.size) XC args s mc ms A) (F0 m pc ls [.int v]) := by
  subst hA
  cases hv
  exact W.widen h1 h2 (vx_ret (W.zret (v := v) hx hb hr (nz_b hz) (fun t ht _ => ⟨⟨v, (), rfl, ⟨rfl, rfl⟩, by rw [ht]; exact hP, hD⟩, hS.F ht⟩) hS.2.2 hdg hlocks))
theorem tt_l {v : Int64} {xe : XS} {r : Nat × Int64 × XS} {f : XS → va_W} {D : va_G} {w : va_W} {A : Nat → Prop} {mc ms : Nat} {XC : String → State → State → Prop} (hx : p.tables.exec = Jvm.exec) (hb : c.code = cc) (hr : meth.sig.returnType = some .long) (hA : va_A w s.heap.size = A) (hv : some (0, v, xe) = some r) (hP : va_P D vwCl (f xe) H) (hD : va_D A (f xe)) (hS : va_S A s.heap H locs) (h1 : cells ≤ mc) (h2 : slots ≤ ms) (hdg : decode cc pc = .ok (.lreturn, 1)) (hlocks : meth.locks = false) :
    W p l e R s m args below meth c H locs cells slots (vx_MQ below (tQl r D w f s.heap.size) XC args s mc ms A) (F0 m pc ls [.long v]) := by
  subst hA
  cases hv
  exact W.widen h1 h2 (vx_ret (W.lret (v := v) hx hb hr (fun t ht _ => ⟨⟨v, (), rfl, ⟨rfl, rfl⟩, by rw [ht]; exact hP, hD⟩, hS.F ht⟩) hS.2.2 hdg hlocks))
theorem tt_v {v : Int32} {xe : XS} {r : Nat × Int32 × XS} {f : XS → va_W} {D : va_G} {w : va_W} {A : Nat → Prop} {mc ms : Nat} {XC : String → State → State → Prop} (hx : p.tables.exec = Jvm.exec) (hb : c.code = cc) (hr : meth.sig.returnType = none) (hA : va_A w s.heap.size = A) (hv : some (0, v, xe) = some r) (hP : va_P D vwCl (f xe) H) (hD : va_D A (f xe)) (hS : va_S A s.heap H locs) (h1 : cells ≤ mc) (h2 : slots ≤ ms) (hdg : decode cc pc = .ok (.return_, 1)) (hlocks : meth.locks = false) :
    W p l e R s m args below meth c H locs cells slots (vx_MQ below (tQv r D w f s.heap.size) XC args s mc ms A) (F0 m pc ls []) := by
  subst hA
  cases hv
  exact W.widen h1 h2 (vx_ret (W.vret hx hb hr (fun t ht _ => ⟨⟨(), rfl, rfl, by rw [ht]; exact hP, hD⟩, hS.F ht⟩) hS.2.2 hdg hlocks))
/-- 'throw new E(text)': the world stays, a new cell comes -/
theorem th_row {α : Type} {z : α} {xe : XS} {r : Nat × α × XS} {f : XS → va_W} {D : va_G} {ca : Nat → ClassId} {w : va_W} {A : Nat → Prop} {mc ms : Nat} {Qc : Array Value → State → Outcome → State → Prop} (k : Nat) (hk : k = 1 ∨ k = 2 ∨ k = 3) {ik is ic : Nat} {text : String}
    (hx : p.tables.exec = Jvm.exec) (hb : c.code = cc) (hl : l.stackTraces = false) (hown : s.vm.findClass RX4 = some m.cls)
    (hk1 : (Cond.classLink RX4 ik (exn k)).before args s = true) (hini : (Cond.initialized (exn k)).before args s = true) (htx : (is, text) ∈ texts) (hC : cx D ca s)
    (hat : ∀ w ∈ (vx_atS RX4 ic (exn k) exNames).filter goodWord, w.before args s = true) (hat2 : ∀ w ∈ (vx_atS RX4 ic (exn k) exNames).filter (fun w => !goodWord w), w ∈ nests)
    (hgood : ∀ w ∈ Cond.classLink RX4 ik (exn k) :: Cond.initialized (exn k) :: vx_atS RX4 ic (exn k) exNames, vx_ot w = true)
    (hz : zz A s) (hA : va_A w s.heap.size = A) (hv : some (k, z, xe) = some r) (hP : va_P D vwCl (f xe) H) (hD : va_D A (f xe)) (hS : va_S A s.heap H locs) (hsize : ls.size = c.maxLocals)
    (d0 : decode cc pc = .ok (.new ik, 3)) (d3 : decode cc (pc + 3) = .ok (.dup, 1)) (d4 : decode cc (pc + 4) = .ok (.ldc is, 2)) (d6 : decode cc (pc + 6) = .ok (.invokespecial ic, 3)) (d9 : decode cc (pc + 9) = .ok (.athrow, 1))
    (hout : ∀ x ∈ c.exceptionTable.toList, False)
    (hRframes : 6 ≤ R.frames) (hRlocals : (rest.map fun v => v.category).sum + 82 ≤ R.locals) (hRcells : cells + 1 ≤ R.cells) (hRslots : slots + 6 ≤ R.slots) (hlocks : meth.locks = false) (hc : cells + 1 ≤ mc) (hs : slots + 6 ≤ ms) :
    W p l e R s m args below meth c H locs cells slots (vx_MQ below Qc (tX r.1 r.2.2 D w f s.heap.size) args s mc ms A) (F0 m pc ls rest) := by
  subst hA
  cases hv
  obtain ⟨sa, hsa⟩ := hC.2.2.1 (is, text) htx
  have hf : Bundle.fit (exn k) = true := by
    rcases hk with rfl | rfl | rfl <;> decide +kernel
  refine vx_throwS (names := exNames) hx hb hl hown hf (by decide +kernel) hk1 hini hsa (vx_hat hat hat2 hC.use) hgood hz.1 hz.2 hS hsize d0 d3 d4 d6 d9 (fun x hx => (hout x hx).elim) hRframes hRlocals hRcells hRslots hlocks (fun t hal h1 h2 => ⟨(), trivial, ⟨hk, rfl, hP.kept (fun j q hq => h2 _ (hP j q hq).lt), hD⟩, ?_⟩) hS.2.2 hc hs
  exact ⟨Nat.le_trans hS.1 h1, fun q h3 h4 => (h2 q (Nat.lt_of_lt_of_le h3 hS.1)).trans (hS.2.1 q h3 h4)⟩
end TRW
theorem xg_1 : ∀ w ∈ (vx_atS RX4 83 (exn 1) exNames).filter (fun w => !goodWord w), w ∈ nests := by decide +kernel
theorem xg_2 : ∀ w ∈ (vx_atS RX4 90 (exn 2) exNames).filter (fun w => !goodWord w), w ∈ nests := by decide +kernel
theorem xg_3 : ∀ w ∈ (vx_atS RX4 112 (exn 3) exNames).filter (fun w => !goodWord w), w ∈ nests := by decide +kernel
theorem xo_1 : ∀ w ∈ Cond.classLink RX4 79 (exn 1) :: Cond.initialized (exn 1) :: vx_atS RX4 83 (exn 1) exNames, vx_ot w = true := by decide +kernel
theorem xo_2 : ∀ w ∈ Cond.classLink RX4 86 (exn 2) :: Cond.initialized (exn 2) :: vx_atS RX4 90 (exn 2) exNames, vx_ot w = true := by decide +kernel
theorem xo_3 : ∀ w ∈ Cond.classLink RX4 108 (exn 3) :: Cond.initialized (exn 3) :: vx_atS RX4 112 (exn 3) exNames, vx_ot w = true := by decide +kernel
end
section
/-! worlds that grow at their end: constructors -/
theorem la_get {α : Type} {w L : List α} {k : Nat} {c : α} (h : L[k]? = some c) : (w ++ L)[w.length + k]? = some c := by
  rw [List.getElem?_append_right (Nat.le_add_right _ _), Nat.add_sub_cancel_left]
  exact h
theorem la_set {α : Type} {w L : List α} {k : Nat} {c : α} : (w ++ L).set (w.length + k) c = w ++ L.set k c := by
  rw [List.set_append_right _ _ (Nat.le_add_right _ _), Nat.add_sub_cancel_left]
section CBR
variable {p : Program} {l : Launch} {e : Env} {R : Room} {s : State} {m : MethodId} {args : Array Value} {below : List Frame} {meth : Method} {c : Code} {H : Heap} {locs : List Loc} {cells slots : Nat} {Q : State → Prop}
variable {cc : ByteArray} {pc : Nat} {ls : Array Slot} {rest : List Value} {D : va_G} {ca : Nat → ClassId} {A : Nat → Prop} {ws : va_W} {H0 : Heap}
theorem cA_same {cl : List vw_C} {tys : List (ClassId × FieldType)} {cA cB : ClassId} {ty : FieldType} {t : Nat} (h1 : va_K D cl (tys ++ [(cA, ty)]) s) (h2 : tys[t]? = some (cB, ty)) : cA = cB := by
  have e1 : (tys ++ [(cA, ty)])[tys.length]? = some (cA, ty) := by simp
  have hl := (List.getElem?_eq_some_iff.mp h2).1
  have e2 : (tys ++ [(cA, ty)])[t]? = some (cB, ty) := by rw [List.getElem?_append_left hl]; exact h2
  have r1 := (h1.2 _ _ e1).2
  have r2 := (h1.2 _ _ e2).2
  unfold va_RA at r1 r2
  cases ty with
  | object C =>
    obtain ⟨_, _, _, _, _, f1⟩ := r1
    obtain ⟨_, _, _, _, _, f2⟩ := r2
    exact Option.some.inj (f1.symm.trans f2)
  | _ => exact Option.some.inj (r1.symm.trans r2)
theorem nw_i (hx : p.tables.exec = Jvm.exec) (hb : c.code = cc) (harr : (Cond.arrayClass .int).before args s = true) (hK : va_K D vwCl (tyA ca) s) (hP : va_P D vwCl ws H) (hD : va_D A ws) (hS : va_S A H0 H locs) (hA : ∀ q, H0.size ≤ q → A q)
    {n : Int32} {N : Nat} (hn : ¬ n < 0) (hN : n.toNatClampNeg = N) (hbytes : N * componentBytes .int ≤ 536870912) (hcells : cells + 1 ≤ R.cells) (hslots : slots + N ≤ R.slots) (hdg : decode cc pc = .ok (.newarray .int, 2))
    (kk : ∀ (q : Nat) (H1 : Heap), va_P D vwCl (ws ++ [(q, .inl (ca 0, N, .inl (fun _ => 0)))]) H1 → va_D A (ws ++ [(q, .inl (ca 0, N, .inl (fun _ => 0)))]) → va_S A H0 H1 locs →
      W p l e R s m args below meth c H1 locs (cells + 1) (slots + N) Q (F0 m (pc + 2) ls (.ref q :: rest))) : W p l e R s m args below meth c H locs cells slots Q (F0 m pc ls (.int n :: rest)) := by
  refine va_newa (atype := .int) (ty := .int) (a0 := (N, .inl (fun _ => 0))) hx hb harr rfl hK hP hD hS hA (fun _ => rfl) hn hN hbytes hcells hslots hdg (fun q cA H1 hK1 hP hD hS => ?_)
  have h := cA_same (t := 0) hK1 rfl
  subst h
  exact kk q H1 hP hD hS
theorem nw_z (hx : p.tables.exec = Jvm.exec) (hb : c.code = cc) (harr : (Cond.arrayClass .boolean).before args s = true) (hK : va_K D vwCl (tyA ca) s) (hP : va_P D vwCl ws H) (hD : va_D A ws) (hS : va_S A H0 H locs) (hA : ∀ q, H0.size ≤ q → A q)
    {n : Int32} {N : Nat} (hn : ¬ n < 0) (hN : n.toNatClampNeg = N) (hbytes : N * componentBytes .boolean ≤ 536870912) (hcells : cells + 1 ≤ R.cells) (hslots : slots + N ≤ R.slots) (hdg : decode cc pc = .ok (.newarray .boolean, 2))
    (kk : ∀ (q : Nat) (H1 : Heap), va_P D vwCl (ws ++ [(q, .inl (ca 1, N, .inl (fun _ => 0)))]) H1 → va_D A (ws ++ [(q, .inl (ca 1, N, .inl (fun _ => 0)))]) → va_S A H0 H1 locs →
      W p l e R s m args below meth c H1 locs (cells + 1) (slots + N) Q (F0 m (pc + 2) ls (.ref q :: rest))) : W p l e R s m args below meth c H locs cells slots Q (F0 m pc ls (.int n :: rest)) := by
  refine va_newa (atype := .boolean) (ty := .boolean) (a0 := (N, .inl (fun _ => 0))) hx hb harr rfl hK hP hD hS hA (fun _ => rfl) hn hN hbytes hcells hslots hdg (fun q cA H1 hK1 hP hD hS => ?_)
  have h := cA_same (t := 1) hK1 rfl
  subst h
  exact kk q H1 hP hD hS
theorem nw_l (hx : p.tables.exec = Jvm.exec) (hb : c.code = cc) (harr : (Cond.arrayClass .long).before args s = true) (hK : va_K D vwCl (tyA ca) s) (hP : va_P D vwCl ws H) (hD : va_D A ws) (hS : va_S A H0 H locs) (hA : ∀ q, H0.size ≤ q → A q)
    {n : Int32} {N : Nat} (hn : ¬ n < 0) (hN : n.toNatClampNeg = N) (hbytes : N * componentBytes .long ≤ 536870912) (hcells : cells + 1 ≤ R.cells) (hslots : slots + N ≤ R.slots) (hdg : decode cc pc = .ok (.newarray .long, 2))
    (kk : ∀ (q : Nat) (H1 : Heap), va_P D vwCl (ws ++ [(q, .inl (ca 2, N, .inr (.inl (fun _ => 0))))]) H1 → va_D A (ws ++ [(q, .inl (ca 2, N, .inr (.inl (fun _ => 0))))]) → va_S A H0 H1 locs →
      W p l e R s m args below meth c H1 locs (cells + 1) (slots + N) Q (F0 m (pc + 2) ls (.ref q :: rest))) : W p l e R s m args below meth c H locs cells slots Q (F0 m pc ls (.int n :: rest)) := by
  refine va_newa (atype := .long) (ty := .long) (a0 := (N, .inr (.inl (fun _ => 0)))) hx hb harr rfl hK hP hD hS hA (fun _ => rfl) hn hN hbytes hcells hslots hdg (fun q cA H1 hK1 hP hD hS => ?_)
  have h := cA_same (t := 2) hK1 rfl
  subst h
  exact kk q H1 hP hD hS
theorem nw_q {own C : String} {index t : Nat} (ht : (tyA ca)[t]? = some (ca t, .object C)) (hx : p.tables.exec = Jvm.exec) (hb : c.code = cc) (hown : s.vm.findClass own = some m.cls) (hclink : (Cond.classLink own index C).before args s = true) (hover : va_AO C s) (hK : va_K D vwCl (tyA ca) s) (hP : va_P D vwCl ws H) (hD : va_D A ws) (hS : va_S A H0 H locs) (hA : ∀ q, H0.size ≤ q → A q)
    {n : Int32} {N : Nat} (hn : ¬ n < 0) (hN : n.toNatClampNeg = N) (hbytes : N * 4 ≤ 536870912) (hcells : cells + 1 ≤ R.cells) (hslots : slots + N ≤ R.slots) (hdg : decode cc pc = .ok (.anewarray index, 3))
    (kk : ∀ (q : Nat) (H1 : Heap), va_P D vwCl (ws ++ [(q, .inl (ca t, N, .inr (.inr (.inr (.inr (fun _ => none))))))]) H1 → va_D A (ws ++ [(q, .inl (ca t, N, .inr (.inr (.inr (.inr (fun _ => none))))))]) → va_S A H0 H1 locs →
      W p l e R s m args below meth c H1 locs (cells + 1) (slots + N) Q (F0 m (pc + 3) ls (.ref q :: rest))) : W p l e R s m args below meth c H locs cells slots Q (F0 m pc ls (.int n :: rest)) := by
  refine va_newq hx hb hown hclink hover hK hP hD hS hA hn hN hbytes hcells hslots hdg (fun q cA H1 hK1 hP hD hS => ?_)
  have h := cA_same (t := t) hK1 ht
  subst h
  exact kk q H1 hP hD hS
def cQv {S : Type} (D : va_G) (w : va_W) (px : S → Prop) (W' : S → va_W) (sz : Nat) : Array Value → State → Outcome → State → Prop := va_Qv (S := S) px (fun u t => va_P D vwCl (W' u) t.heap ∧ va_D (va_A w sz) (W' u)) (va_A w sz)
theorem wr_s {S : Type} {px : S → Prop} {W' : S → va_W} {w : va_W} {A : Nat → Prop} {mc ms : Nat} {st0 : List Value} {a : Array Value} (hr : va_Run p l e R s m args below meth c H locs cells slots mc ms (F0 m pc ls st0) rest (cQv D w px W' H.size a) (va_A w H.size)) (hD : va_D A w) (hS : va_S A H0 H locs) (hA : ∀ q, H0.size ≤ q → A q)
    (kk : ∀ (u : S) (H1 : Heap) (locs1 : List Loc), va_P D vwCl (W' u) H1 → va_D A (W' u) → va_S A H0 H1 locs1 → px u → W p l e R s m args below meth c H1 locs1 (cells + mc) (slots + ms) Q (F0 m (pc + 3) ls rest)) : W p l e R s m args below meth c H locs cells slots Q (F0 m pc ls st0) :=
  va_callv hr hS (fun q _ h => va_A_in hD hS hA q h) (va_A_in hD hS hA) (fun u t H1 locs1 ht _ hp hB _ _ hS1 =>
    kk u H1 locs1 (ht ▸ hB.1) (hB.2.weaken (fun _ _ _ h => va_A_in hD hS hA _ h)) hS1 hp)
theorem ct_v {S : Type} {px : S → Prop} {W' : S → va_W} {w : va_W} {mc ms : Nat} (u : S) (hp : px u) (hx : p.tables.exec = Jvm.exec) (hb : c.code = cc) (hr : meth.sig.returnType = none) (hA : va_A w s.heap.size = A) (hP : va_P D vwCl (W' u) H) (hD : va_D A (W' u)) (hS : va_S A s.heap H locs) (h1 : cells ≤ mc) (h2 : slots ≤ ms) (hdg : decode cc pc = .ok (.return_, 1)) (hlocks : meth.locks = false) :
    W p l e R s m args below meth c H locs cells slots (MQ below (cQv D w px W' s.heap.size) args s mc ms A) (F0 m pc ls []) := by
  subst hA
  exact W.widen h1 h2 (W.vret hx hb hr (fun t ht _ => ⟨⟨u, rfl, hp, by rw [ht]; exact hP, hD⟩, hS.F ht⟩) hS.2.2 hdg hlocks)
end CBR
end
section
set_option maxRecDepth 20000 in
theorem ggL_column_X4_column : GoodIn wsL_column wsX4_column := goodIn_ca (goodIn_ca (goodIn_r _ [7, 8, 9, 10, 11, 12, 13, 14, 6, 15, 16, 17, 18, 19, 20, 21, 22, 23, 24, 25, 26, 27, 28, 29, 30, 31, 32, 33, 34, 35, 36, 37, 38, 39, 40] (by decide +kernel) (by decide +kernel)) (goodIn_sub (fun _ h => List.mem_cons_of_mem _ (List.mem_append_left _ (List.mem_append_right _ h))) (by decide +kernel))) (goodIn_sub (fun _ h => List.mem_cons_of_mem _ (List.mem_append_right _ h)) (by decide +kernel))
set_option maxRecDepth 20000 in
theorem gL_column_X4_column : GoodIn wsL_column (wsV RL 7 RX4 yX4_column wsX4_column) := goodIn_app (goodIn_of _ (by decide +kernel)) ggL_column_X4_column
theorem dL_column_0 : decode cL_column 0 = .ok (.aload_n 0, 1) := by decide +kernel
theorem dL_column_1 : decode cL_column 1 = .ok (.iload_n 1, 1) := by decide +kernel
theorem dL_column_2 : decode cL_column 2 = .ok (.iload_n 2, 1) := by decide +kernel
theorem dL_column_3 : decode cL_column 3 = .ok (.iload_n 3, 1) := by decide +kernel
theorem dL_column_4 : decode cL_column 4 = .ok (.invokevirtual 7, 3) := by decide +kernel
theorem dL_column_7 : decode cL_column 7 = .ok (.goto 11, 3) := by decide +kernel
theorem dL_column_10 : decode cL_column 10 = .ok (.astore 4, 2) := by decide +kernel
theorem dL_column_12 : decode cL_column 12 = .ok (.iconst 1, 1) := by decide +kernel
theorem dL_column_13 : decode cL_column 13 = .ok (.ireturn, 1) := by decide +kernel
theorem dL_column_14 : decode cL_column 14 = .ok (.astore 4, 2) := by decide +kernel
theorem dL_column_16 : decode cL_column 16 = .ok (.iconst 2, 1) := by decide +kernel
theorem dL_column_17 : decode cL_column 17 = .ok (.ireturn, 1) := by decide +kernel
theorem dL_column_18 : decode cL_column 18 = .ok (.iconst 0, 1) := by decide +kernel
theorem dL_column_19 : decode cL_column 19 = .ok (.ireturn, 1) := by decide +kernel
set_option maxRecDepth 20000 in
theorem ggL_cell_X4_cell : GoodIn wsL_cell wsX4_cell := goodIn_ca (goodIn_ca (goodIn_ca (goodIn_r _ [8, 9, 10, 11, 12, 13, 14, 15, 16, 17, 7, 18, 19, 20, 21, 22, 23, 24, 25, 26, 27, 28, 29, 30, 31, 32, 33, 34, 35, 36, 37, 38, 39, 40, 41, 42, 43, 44, 45, 46, 47, 48, 49, 50, 51] (by decide +kernel) (by decide +kernel)) (goodIn_sub (fun _ h => List.mem_cons_of_mem _ (List.mem_append_left _ (List.mem_append_left _ (List.mem_append_right _ h)))) (by decide +kernel))) (goodIn_sub (fun _ h => List.mem_cons_of_mem _ (List.mem_append_left _ (List.mem_append_right _ h))) (by decide +kernel))) (goodIn_sub (fun _ h => List.mem_cons_of_mem _ (List.mem_append_right _ h)) (by decide +kernel))
set_option maxRecDepth 20000 in
theorem gL_cell_X4_cell : GoodIn wsL_cell (wsV RL 17 RX4 yX4_cell wsX4_cell) := goodIn_app (goodIn_of _ (by decide +kernel)) ggL_cell_X4_cell
theorem dL_cell_0 : decode cL_cell 0 = .ok (.aload 4, 2) := by decide +kernel
theorem dL_cell_2 : decode cL_cell 2 = .ok (.iconst 0, 1) := by decide +kernel
theorem dL_cell_3 : decode cL_cell 3 = .ok (.aload_n 0, 1) := by decide +kernel
theorem dL_cell_4 : decode cL_cell 4 = .ok (.iload_n 1, 1) := by decide +kernel
theorem dL_cell_5 : decode cL_cell 5 = .ok (.iload_n 2, 1) := by decide +kernel
theorem dL_cell_6 : decode cL_cell 6 = .ok (.iload_n 3, 1) := by decide +kernel
theorem dL_cell_7 : decode cL_cell 7 = .ok (.invokevirtual 17, 3) := by decide +kernel
theorem dL_cell_10 : decode cL_cell 10 = .ok (.i2l, 1) := by decide +kernel
theorem dL_cell_11 : decode cL_cell 11 = .ok (.lastore, 1) := by decide +kernel
theorem dL_cell_12 : decode cL_cell 12 = .ok (.goto 15, 3) := by decide +kernel
theorem dL_cell_15 : decode cL_cell 15 = .ok (.astore 5, 2) := by decide +kernel
theorem dL_cell_17 : decode cL_cell 17 = .ok (.iconst 1, 1) := by decide +kernel
theorem dL_cell_18 : decode cL_cell 18 = .ok (.ireturn, 1) := by decide +kernel
theorem dL_cell_19 : decode cL_cell 19 = .ok (.astore 5, 2) := by decide +kernel
theorem dL_cell_21 : decode cL_cell 21 = .ok (.iconst 2, 1) := by decide +kernel
theorem dL_cell_22 : decode cL_cell 22 = .ok (.ireturn, 1) := by decide +kernel
theorem dL_cell_23 : decode cL_cell 23 = .ok (.astore 5, 2) := by decide +kernel
theorem dL_cell_25 : decode cL_cell 25 = .ok (.iconst 3, 1) := by decide +kernel
theorem dL_cell_26 : decode cL_cell 26 = .ok (.ireturn, 1) := by decide +kernel
theorem dL_cell_27 : decode cL_cell 27 = .ok (.iconst 0, 1) := by decide +kernel
theorem dL_cell_28 : decode cL_cell 28 = .ok (.ireturn, 1) := by decide +kernel
set_option maxRecDepth 20000 in
theorem ggL_need_X4_need : GoodIn wsL_need wsX4_need := goodIn_ca (goodIn_r _ [6, 7, 8, 9, 10, 11, 12, 13, 14, 15, 16, 17, 18, 19, 20, 21, 22, 23, 24, 25, 26, 27] (by decide +kernel) (by decide +kernel)) (goodIn_sub (fun _ h => List.mem_cons_of_mem _ (List.mem_append_right _ h)) (by decide +kernel))
set_option maxRecDepth 20000 in
theorem gL_need_X4_need : GoodIn wsL_need (wsV RL 23 RX4 yX4_need wsX4_need) := goodIn_app (goodIn_of _ (by decide +kernel)) ggL_need_X4_need
theorem dL_need_0 : decode cL_need 0 = .ok (.aload_n 0, 1) := by decide +kernel
theorem dL_need_1 : decode cL_need 1 = .ok (.iload_n 1, 1) := by decide +kernel
theorem dL_need_2 : decode cL_need 2 = .ok (.iload_n 2, 1) := by decide +kernel
theorem dL_need_3 : decode cL_need 3 = .ok (.invokevirtual 23, 3) := by decide +kernel
theorem dL_need_6 : decode cL_need 6 = .ok (.goto 6, 3) := by decide +kernel
theorem dL_need_9 : decode cL_need 9 = .ok (.astore_n 3, 1) := by decide +kernel
theorem dL_need_10 : decode cL_need 10 = .ok (.iconst 1, 1) := by decide +kernel
theorem dL_need_11 : decode cL_need 11 = .ok (.ireturn, 1) := by decide +kernel
theorem dL_need_12 : decode cL_need 12 = .ok (.iconst 0, 1) := by decide +kernel
theorem dL_need_13 : decode cL_need 13 = .ok (.ireturn, 1) := by decide +kernel
set_option maxRecDepth 20000 in
theorem ggL_projector_X4_projector : GoodIn wsL_projector wsX4_projector := goodIn_ca (goodIn_ca (goodIn_ca (goodIn_r _ [8, 9, 10, 11, 12, 13, 14, 15, 16, 17, 18, 19, 20, 21, 22, 7, 23, 24, 25, 26, 27, 28, 29, 30, 31, 32, 33, 34, 35, 36, 37, 38, 39, 40, 41, 42, 43, 44, 45, 46, 47, 48, 49, 50, 51, 52, 53, 54, 55, 56, 57, 58, 59, 60, 61, 62, 63, 64, 65, 66, 67, 68, 69, 70, 71, 72, 73, 74, 75, 76, 77, 78, 79, 80, 81] (by decide +kernel) (by decide +kernel)) (goodIn_sub (fun _ h => List.mem_cons_of_mem _ (List.mem_append_left _ (List.mem_append_left _ (List.mem_append_right _ h)))) (by decide +kernel))) (goodIn_sub (fun _ h => List.mem_cons_of_mem _ (List.mem_append_left _ (List.mem_append_right _ h))) (by decide +kernel))) (goodIn_sub (fun _ h => List.mem_cons_of_mem _ (List.mem_append_right _ h)) (by decide +kernel))
set_option maxRecDepth 20000 in
theorem gL_projector_X4_projector : GoodIn wsL_projector (wsV RL 27 RX4 yX4_projector wsX4_projector) := goodIn_app (goodIn_of _ (by decide +kernel)) ggL_projector_X4_projector
theorem dL_projector_0 : decode cL_projector 0 = .ok (.aload 6, 2) := by decide +kernel
theorem dL_projector_2 : decode cL_projector 2 = .ok (.iconst 0, 1) := by decide +kernel
theorem dL_projector_3 : decode cL_projector 3 = .ok (.aload_n 0, 1) := by decide +kernel
theorem dL_projector_4 : decode cL_projector 4 = .ok (.iload_n 1, 1) := by decide +kernel
theorem dL_projector_5 : decode cL_projector 5 = .ok (.iload_n 2, 1) := by decide +kernel
theorem dL_projector_6 : decode cL_projector 6 = .ok (.iload_n 3, 1) := by decide +kernel
theorem dL_projector_7 : decode cL_projector 7 = .ok (.iload 4, 2) := by decide +kernel
theorem dL_projector_9 : decode cL_projector 9 = .ok (.iload 5, 2) := by decide +kernel
theorem dL_projector_11 : decode cL_projector 11 = .ok (.invokevirtual 27, 3) := by decide +kernel
theorem dL_projector_14 : decode cL_projector 14 = .ok (.i2l, 1) := by decide +kernel
theorem dL_projector_15 : decode cL_projector 15 = .ok (.lastore, 1) := by decide +kernel
theorem dL_projector_16 : decode cL_projector 16 = .ok (.goto 15, 3) := by decide +kernel
theorem dL_projector_19 : decode cL_projector 19 = .ok (.astore 7, 2) := by decide +kernel
theorem dL_projector_21 : decode cL_projector 21 = .ok (.iconst 1, 1) := by decide +kernel
theorem dL_projector_22 : decode cL_projector 22 = .ok (.ireturn, 1) := by decide +kernel
theorem dL_projector_23 : decode cL_projector 23 = .ok (.astore 7, 2) := by decide +kernel
theorem dL_projector_25 : decode cL_projector 25 = .ok (.iconst 2, 1) := by decide +kernel
theorem dL_projector_26 : decode cL_projector 26 = .ok (.ireturn, 1) := by decide +kernel
theorem dL_projector_27 : decode cL_projector 27 = .ok (.astore 7, 2) := by decide +kernel
theorem dL_projector_29 : decode cL_projector 29 = .ok (.iconst 3, 1) := by decide +kernel
theorem dL_projector_30 : decode cL_projector 30 = .ok (.ireturn, 1) := by decide +kernel
theorem dL_projector_31 : decode cL_projector 31 = .ok (.iconst 0, 1) := by decide +kernel
theorem dL_projector_32 : decode cL_projector 32 = .ok (.ireturn, 1) := by decide +kernel
set_option maxRecDepth 20000 in
theorem ggL_aim_X4_aim : GoodIn wsL_aim wsX4_aim := goodIn_ca (goodIn_ca (goodIn_r _ [7, 8, 9, 10, 11, 12, 13, 14, 6, 15, 16, 17, 18, 19, 20, 21, 22, 23, 24, 25, 26, 27, 28, 29, 30, 31, 32, 33, 34, 35, 36, 37, 38, 39, 40, 41, 42, 43, 44, 45, 46] (by decide +kernel) (by decide +kernel)) (goodIn_sub (fun _ h => List.mem_cons_of_mem _ (List.mem_append_left _ (List.mem_append_right _ h))) (by decide +kernel))) (goodIn_sub (fun _ h => List.mem_cons_of_mem _ (List.mem_append_right _ h)) (by decide +kernel))
set_option maxRecDepth 20000 in
theorem gL_aim_X4_aim : GoodIn wsL_aim (wsV RL 31 RX4 yX4_aim wsX4_aim) := goodIn_app (goodIn_of _ (by decide +kernel)) ggL_aim_X4_aim
theorem dL_aim_0 : decode cL_aim 0 = .ok (.aload_n 0, 1) := by decide +kernel
theorem dL_aim_1 : decode cL_aim 1 = .ok (.iload_n 1, 1) := by decide +kernel
theorem dL_aim_2 : decode cL_aim 2 = .ok (.iload_n 2, 1) := by decide +kernel
theorem dL_aim_3 : decode cL_aim 3 = .ok (.iload_n 3, 1) := by decide +kernel
theorem dL_aim_4 : decode cL_aim 4 = .ok (.invokevirtual 31, 3) := by decide +kernel
theorem dL_aim_7 : decode cL_aim 7 = .ok (.goto 11, 3) := by decide +kernel
theorem dL_aim_10 : decode cL_aim 10 = .ok (.astore 4, 2) := by decide +kernel
theorem dL_aim_12 : decode cL_aim 12 = .ok (.iconst 1, 1) := by decide +kernel
theorem dL_aim_13 : decode cL_aim 13 = .ok (.ireturn, 1) := by decide +kernel
theorem dL_aim_14 : decode cL_aim 14 = .ok (.astore 4, 2) := by decide +kernel
theorem dL_aim_16 : decode cL_aim 16 = .ok (.iconst 2, 1) := by decide +kernel
theorem dL_aim_17 : decode cL_aim 17 = .ok (.ireturn, 1) := by decide +kernel
theorem dL_aim_18 : decode cL_aim 18 = .ok (.iconst 0, 1) := by decide +kernel
theorem dL_aim_19 : decode cL_aim 19 = .ok (.ireturn, 1) := by decide +kernel
set_option maxRecDepth 20000 in
theorem ggL_turn_X4_turn : GoodIn wsL_turn wsX4_turn := goodIn_ca (goodIn_ca (goodIn_r _ [7, 8, 9, 10, 11, 12, 13, 14, 6, 15, 16, 17, 18, 19, 20, 21, 22, 23, 24, 25, 26, 27, 28, 29, 30, 31, 32, 33, 34, 35, 36, 37, 38, 39, 40, 41, 42, 43, 44, 45, 46, 47, 48, 49, 50, 51, 52, 53, 54, 55] (by decide +kernel) (by decide +kernel)) (goodIn_sub (fun _ h => List.mem_cons_of_mem _ (List.mem_append_left _ (List.mem_append_right _ h))) (by decide +kernel))) (goodIn_sub (fun _ h => List.mem_cons_of_mem _ (List.mem_append_right _ h)) (by decide +kernel))
set_option maxRecDepth 20000 in
theorem gL_turn_X4_turn : GoodIn wsL_turn (wsV RL 34 RX4 yX4_turn wsX4_turn) := goodIn_app (goodIn_of _ (by decide +kernel)) ggL_turn_X4_turn
theorem dL_turn_0 : decode cL_turn 0 = .ok (.aload_n 3, 1) := by decide +kernel
theorem dL_turn_1 : decode cL_turn 1 = .ok (.iconst 0, 1) := by decide +kernel
theorem dL_turn_2 : decode cL_turn 2 = .ok (.aload_n 0, 1) := by decide +kernel
theorem dL_turn_3 : decode cL_turn 3 = .ok (.iload_n 1, 1) := by decide +kernel
theorem dL_turn_4 : decode cL_turn 4 = .ok (.iload_n 2, 1) := by decide +kernel
theorem dL_turn_5 : decode cL_turn 5 = .ok (.invokevirtual 34, 3) := by decide +kernel
theorem dL_turn_8 : decode cL_turn 8 = .ok (.ifCond .eq 7, 3) := by decide +kernel
theorem dL_turn_11 : decode cL_turn 11 = .ok (.lconst 1, 1) := by decide +kernel
theorem dL_turn_12 : decode cL_turn 12 = .ok (.goto 4, 3) := by decide +kernel
theorem dL_turn_15 : decode cL_turn 15 = .ok (.lconst 0, 1) := by decide +kernel
theorem dL_turn_16 : decode cL_turn 16 = .ok (.lastore, 1) := by decide +kernel
theorem dL_turn_17 : decode cL_turn 17 = .ok (.goto 11, 3) := by decide +kernel
theorem dL_turn_20 : decode cL_turn 20 = .ok (.astore 4, 2) := by decide +kernel
theorem dL_turn_22 : decode cL_turn 22 = .ok (.iconst 1, 1) := by decide +kernel
theorem dL_turn_23 : decode cL_turn 23 = .ok (.ireturn, 1) := by decide +kernel
theorem dL_turn_24 : decode cL_turn 24 = .ok (.astore 4, 2) := by decide +kernel
theorem dL_turn_26 : decode cL_turn 26 = .ok (.iconst 2, 1) := by decide +kernel
theorem dL_turn_27 : decode cL_turn 27 = .ok (.ireturn, 1) := by decide +kernel
theorem dL_turn_28 : decode cL_turn 28 = .ok (.iconst 0, 1) := by decide +kernel
theorem dL_turn_29 : decode cL_turn 29 = .ok (.ireturn, 1) := by decide +kernel
set_option maxRecDepth 20000 in
theorem ggL_fail_X4_fail : GoodIn wsL_fail wsX4_fail := goodIn_ca (goodIn_r _ [6, 7, 8, 9, 10, 11, 5, 12, 13, 14, 15, 16, 17, 18, 19, 20, 21, 22, 23, 24, 25, 26, 27, 28, 29, 30, 31, 32, 33, 34, 35, 36, 37, 38, 39, 40] (by decide +kernel) (by decide +kernel)) (goodIn_sub (fun _ h => List.mem_cons_of_mem _ (List.mem_append_right _ h)) (by decide +kernel))
set_option maxRecDepth 20000 in
theorem gL_fail_X4_fail : GoodIn wsL_fail (wsV RL 38 RX4 yX4_fail wsX4_fail) := goodIn_app (goodIn_of _ (by decide +kernel)) ggL_fail_X4_fail
theorem dL_fail_0 : decode cL_fail 0 = .ok (.aload_n 3, 1) := by decide +kernel
theorem dL_fail_1 : decode cL_fail 1 = .ok (.iconst 0, 1) := by decide +kernel
theorem dL_fail_2 : decode cL_fail 2 = .ok (.aload_n 0, 1) := by decide +kernel
theorem dL_fail_3 : decode cL_fail 3 = .ok (.iload_n 1, 1) := by decide +kernel
theorem dL_fail_4 : decode cL_fail 4 = .ok (.iload_n 2, 1) := by decide +kernel
theorem dL_fail_5 : decode cL_fail 5 = .ok (.invokevirtual 38, 3) := by decide +kernel
theorem dL_fail_8 : decode cL_fail 8 = .ok (.ifCond .eq 7, 3) := by decide +kernel
theorem dL_fail_11 : decode cL_fail 11 = .ok (.lconst 1, 1) := by decide +kernel
theorem dL_fail_12 : decode cL_fail 12 = .ok (.goto 4, 3) := by decide +kernel
theorem dL_fail_15 : decode cL_fail 15 = .ok (.lconst 0, 1) := by decide +kernel
theorem dL_fail_16 : decode cL_fail 16 = .ok (.lastore, 1) := by decide +kernel
theorem dL_fail_17 : decode cL_fail 17 = .ok (.goto 7, 3) := by decide +kernel
theorem dL_fail_20 : decode cL_fail 20 = .ok (.astore 4, 2) := by decide +kernel
theorem dL_fail_22 : decode cL_fail 22 = .ok (.iconst 1, 1) := by decide +kernel
theorem dL_fail_23 : decode cL_fail 23 = .ok (.ireturn, 1) := by decide +kernel
theorem dL_fail_24 : decode cL_fail 24 = .ok (.iconst 0, 1) := by decide +kernel
theorem dL_fail_25 : decode cL_fail 25 = .ok (.ireturn, 1) := by decide +kernel
set_option maxRecDepth 20000 in
theorem ggL_phase_X4_phase : GoodIn wsL_phase wsX4_phase := goodIn_ca (goodIn_r _ [6, 7, 8, 9, 10, 11, 12, 5, 13, 14, 15, 16, 17, 18, 19, 20, 21, 22, 23, 24, 25, 26, 27, 28, 29] (by decide +kernel) (by decide +kernel)) (goodIn_sub (fun _ h => List.mem_cons_of_mem _ (List.mem_append_right _ h)) (by decide +kernel))
set_option maxRecDepth 20000 in
theorem gL_phase_X4_phase : GoodIn wsL_phase (wsV RL 41 RX4 yX4_phase wsX4_phase) := goodIn_app (goodIn_of _ (by decide +kernel)) ggL_phase_X4_phase
theorem dL_phase_0 : decode cL_phase 0 = .ok (.aload_n 3, 1) := by decide +kernel
theorem dL_phase_1 : decode cL_phase 1 = .ok (.iconst 0, 1) := by decide +kernel
theorem dL_phase_2 : decode cL_phase 2 = .ok (.aload_n 0, 1) := by decide +kernel
theorem dL_phase_3 : decode cL_phase 3 = .ok (.iload_n 1, 1) := by decide +kernel
theorem dL_phase_4 : decode cL_phase 4 = .ok (.iload_n 2, 1) := by decide +kernel
theorem dL_phase_5 : decode cL_phase 5 = .ok (.invokevirtual 41, 3) := by decide +kernel
theorem dL_phase_8 : decode cL_phase 8 = .ok (.i2l, 1) := by decide +kernel
theorem dL_phase_9 : decode cL_phase 9 = .ok (.lastore, 1) := by decide +kernel
theorem dL_phase_10 : decode cL_phase 10 = .ok (.goto 7, 3) := by decide +kernel
theorem dL_phase_13 : decode cL_phase 13 = .ok (.astore 4, 2) := by decide +kernel
theorem dL_phase_15 : decode cL_phase 15 = .ok (.iconst 1, 1) := by decide +kernel
theorem dL_phase_16 : decode cL_phase 16 = .ok (.ireturn, 1) := by decide +kernel
theorem dL_phase_17 : decode cL_phase 17 = .ok (.iconst 0, 1) := by decide +kernel
theorem dL_phase_18 : decode cL_phase 18 = .ok (.ireturn, 1) := by decide +kernel
set_option maxRecDepth 20000 in
theorem ggL_wind_X4_wind : GoodIn wsL_wind wsX4_wind := goodIn_ca (goodIn_r _ [6, 7, 8, 9, 10, 11, 12, 13, 14, 15, 16, 17, 18, 19, 20, 21, 22, 23, 24, 25] (by decide +kernel) (by decide +kernel)) (goodIn_sub (fun _ h => List.mem_cons_of_mem _ (List.mem_append_right _ h)) (by decide +kernel))
set_option maxRecDepth 20000 in
theorem gL_wind_X4_wind : GoodIn wsL_wind (wsV RL 45 RX4 yX4_wind wsX4_wind) := goodIn_app (goodIn_of _ (by decide +kernel)) ggL_wind_X4_wind
theorem dL_wind_0 : decode cL_wind 0 = .ok (.aload_n 2, 1) := by decide +kernel
theorem dL_wind_1 : decode cL_wind 1 = .ok (.iconst 0, 1) := by decide +kernel
theorem dL_wind_2 : decode cL_wind 2 = .ok (.aload_n 0, 1) := by decide +kernel
theorem dL_wind_3 : decode cL_wind 3 = .ok (.iload_n 1, 1) := by decide +kernel
theorem dL_wind_4 : decode cL_wind 4 = .ok (.invokevirtual 45, 3) := by decide +kernel
theorem dL_wind_7 : decode cL_wind 7 = .ok (.i2l, 1) := by decide +kernel
theorem dL_wind_8 : decode cL_wind 8 = .ok (.lastore, 1) := by decide +kernel
theorem dL_wind_9 : decode cL_wind 9 = .ok (.goto 6, 3) := by decide +kernel
theorem dL_wind_12 : decode cL_wind 12 = .ok (.astore_n 3, 1) := by decide +kernel
theorem dL_wind_13 : decode cL_wind 13 = .ok (.iconst 1, 1) := by decide +kernel
theorem dL_wind_14 : decode cL_wind 14 = .ok (.ireturn, 1) := by decide +kernel
theorem dL_wind_15 : decode cL_wind 15 = .ok (.iconst 0, 1) := by decide +kernel
theorem dL_wind_16 : decode cL_wind 16 = .ok (.ireturn, 1) := by decide +kernel
set_option maxRecDepth 20000 in
theorem ggL_through_X4_through : GoodIn wsL_through wsX4_through := goodIn_ca (goodIn_r _ [6, 7, 8, 9, 10, 11, 5, 12, 13, 14, 15, 16, 17, 18, 19, 20, 21, 22, 23, 24, 25, 26, 27, 28, 29, 30, 31, 32, 33, 34, 35, 36, 37, 38, 39, 40, 41, 42, 43, 44, 45, 46, 47, 48, 49, 50, 51, 52, 53, 54, 55, 56] (by decide +kernel) (by decide +kernel)) (goodIn_sub (fun _ h => List.mem_cons_of_mem _ (List.mem_append_right _ h)) (by decide +kernel))
set_option maxRecDepth 20000 in
theorem gL_through_X4_through : GoodIn wsL_through (wsV RL 49 RX4 yX4_through wsX4_through) := goodIn_app (goodIn_of _ (by decide +kernel)) ggL_through_X4_through
theorem dL_through_0 : decode cL_through 0 = .ok (.aload 4, 2) := by decide +kernel
theorem dL_through_2 : decode cL_through 2 = .ok (.iconst 0, 1) := by decide +kernel
theorem dL_through_3 : decode cL_through 3 = .ok (.aload_n 0, 1) := by decide +kernel
theorem dL_through_4 : decode cL_through 4 = .ok (.iload_n 1, 1) := by decide +kernel
theorem dL_through_5 : decode cL_through 5 = .ok (.iload_n 2, 1) := by decide +kernel
theorem dL_through_6 : decode cL_through 6 = .ok (.iload_n 3, 1) := by decide +kernel
theorem dL_through_7 : decode cL_through 7 = .ok (.invokevirtual 49, 3) := by decide +kernel
theorem dL_through_10 : decode cL_through 10 = .ok (.i2l, 1) := by decide +kernel
theorem dL_through_11 : decode cL_through 11 = .ok (.lastore, 1) := by decide +kernel
theorem dL_through_12 : decode cL_through 12 = .ok (.goto 7, 3) := by decide +kernel
theorem dL_through_15 : decode cL_through 15 = .ok (.astore 5, 2) := by decide +kernel
theorem dL_through_17 : decode cL_through 17 = .ok (.iconst 1, 1) := by decide +kernel
theorem dL_through_18 : decode cL_through 18 = .ok (.ireturn, 1) := by decide +kernel
theorem dL_through_19 : decode cL_through 19 = .ok (.iconst 0, 1) := by decide +kernel
theorem dL_through_20 : decode cL_through 20 = .ok (.ireturn, 1) := by decide +kernel
set_option maxRecDepth 20000 in
theorem ggL_gives_X4_gives : GoodIn wsL_gives wsX4_gives := goodIn_ca (goodIn_r _ [6, 7, 8, 9, 10, 11, 5, 12, 13, 14, 15, 16, 17, 18, 19, 20, 21, 22, 23, 24, 25, 26, 27, 28, 29, 30, 31, 32, 33, 34, 35, 36, 37, 38, 39, 40, 41, 42, 43, 44, 45, 46, 47, 48, 49, 50, 51, 52, 53, 54, 55, 56, 57, 58, 59, 60, 61, 62, 63, 64, 65, 66, 67, 68, 69, 70, 71, 72, 73, 74, 75, 76, 77, 78, 79, 80, 81, 82, 83, 84, 85] (by decide +kernel) (by decide +kernel)) (goodIn_sub (fun _ h => List.mem_cons_of_mem _ (List.mem_append_right _ h)) (by decide +kernel))
set_option maxRecDepth 20000 in
theorem gL_gives_X4_gives : GoodIn wsL_gives (wsV RL 52 RX4 yX4_gives wsX4_gives) := goodIn_app (goodIn_of _ (by decide +kernel)) ggL_gives_X4_gives
theorem dL_gives_0 : decode cL_gives 0 = .ok (.aload_n 3, 1) := by decide +kernel
theorem dL_gives_1 : decode cL_gives 1 = .ok (.iconst 0, 1) := by decide +kernel
theorem dL_gives_2 : decode cL_gives 2 = .ok (.aload_n 0, 1) := by decide +kernel
theorem dL_gives_3 : decode cL_gives 3 = .ok (.iload_n 1, 1) := by decide +kernel
theorem dL_gives_4 : decode cL_gives 4 = .ok (.iload_n 2, 1) := by decide +kernel
theorem dL_gives_5 : decode cL_gives 5 = .ok (.invokevirtual 52, 3) := by decide +kernel
theorem dL_gives_8 : decode cL_gives 8 = .ok (.i2l, 1) := by decide +kernel
theorem dL_gives_9 : decode cL_gives 9 = .ok (.lastore, 1) := by decide +kernel
theorem dL_gives_10 : decode cL_gives 10 = .ok (.goto 7, 3) := by decide +kernel
theorem dL_gives_13 : decode cL_gives 13 = .ok (.astore 4, 2) := by decide +kernel
theorem dL_gives_15 : decode cL_gives 15 = .ok (.iconst 1, 1) := by decide +kernel
theorem dL_gives_16 : decode cL_gives 16 = .ok (.ireturn, 1) := by decide +kernel
theorem dL_gives_17 : decode cL_gives 17 = .ok (.iconst 0, 1) := by decide +kernel
theorem dL_gives_18 : decode cL_gives 18 = .ok (.ireturn, 1) := by decide +kernel
set_option maxRecDepth 20000 in
theorem ggL_isSharp_X4_isSharp : GoodIn wsL_isSharp wsX4_isSharp := goodIn_ca (goodIn_r _ [6, 7, 8, 9, 10, 11, 5, 12, 13, 14, 15, 16, 17, 18, 19, 20, 21, 22, 23, 24, 25, 26, 27, 28, 29, 30, 31, 32, 33, 34, 35, 36, 37, 38, 39, 40, 41, 42, 43, 44, 45, 46, 47, 48, 49, 50, 51, 52, 53, 54, 55, 56] (by decide +kernel) (by decide +kernel)) (goodIn_sub (fun _ h => List.mem_cons_of_mem _ (List.mem_append_right _ h)) (by decide +kernel))
set_option maxRecDepth 20000 in
theorem gL_isSharp_X4_isSharp : GoodIn wsL_isSharp (wsV RL 55 RX4 yX4_isSharp wsX4_isSharp) := goodIn_app (goodIn_of _ (by decide +kernel)) ggL_isSharp_X4_isSharp
theorem dL_isSharp_0 : decode cL_isSharp 0 = .ok (.aload_n 3, 1) := by decide +kernel
theorem dL_isSharp_1 : decode cL_isSharp 1 = .ok (.iconst 0, 1) := by decide +kernel
theorem dL_isSharp_2 : decode cL_isSharp 2 = .ok (.aload_n 0, 1) := by decide +kernel
theorem dL_isSharp_3 : decode cL_isSharp 3 = .ok (.iload_n 1, 1) := by decide +kernel
theorem dL_isSharp_4 : decode cL_isSharp 4 = .ok (.iload_n 2, 1) := by decide +kernel
theorem dL_isSharp_5 : decode cL_isSharp 5 = .ok (.invokevirtual 55, 3) := by decide +kernel
theorem dL_isSharp_8 : decode cL_isSharp 8 = .ok (.ifCond .eq 7, 3) := by decide +kernel
theorem dL_isSharp_11 : decode cL_isSharp 11 = .ok (.lconst 1, 1) := by decide +kernel
theorem dL_isSharp_12 : decode cL_isSharp 12 = .ok (.goto 4, 3) := by decide +kernel
theorem dL_isSharp_15 : decode cL_isSharp 15 = .ok (.lconst 0, 1) := by decide +kernel
theorem dL_isSharp_16 : decode cL_isSharp 16 = .ok (.lastore, 1) := by decide +kernel
theorem dL_isSharp_17 : decode cL_isSharp 17 = .ok (.goto 7, 3) := by decide +kernel
theorem dL_isSharp_20 : decode cL_isSharp 20 = .ok (.astore 4, 2) := by decide +kernel
theorem dL_isSharp_22 : decode cL_isSharp 22 = .ok (.iconst 1, 1) := by decide +kernel
theorem dL_isSharp_23 : decode cL_isSharp 23 = .ok (.ireturn, 1) := by decide +kernel
theorem dL_isSharp_24 : decode cL_isSharp 24 = .ok (.iconst 0, 1) := by decide +kernel
theorem dL_isSharp_25 : decode cL_isSharp 25 = .ok (.ireturn, 1) := by decide +kernel
set_option maxRecDepth 20000 in
theorem ggL_light_X4_light : GoodIn wsL_light wsX4_light := goodIn_ca (goodIn_r _ [6, 7, 8, 9, 10, 5, 11, 12, 13, 14, 15, 16, 17, 18, 19, 20, 21, 22, 23, 24, 25, 26, 27, 28, 29, 30, 31, 32, 33, 34, 35, 36, 37, 38, 39, 40, 41, 42, 43, 44, 45, 46, 47, 48, 49, 50, 51, 52, 53, 54, 55, 56, 57, 58, 59, 60, 61, 62, 63, 64, 65, 66, 67, 68, 69, 70, 71, 72, 73, 74, 75, 76, 77, 78, 79, 80, 81, 82, 83, 84, 85, 86, 87, 88, 89, 90, 91, 92, 93, 94, 95] (by decide +kernel) (by decide +kernel)) (goodIn_sub (fun _ h => List.mem_cons_of_mem _ (List.mem_append_right _ h)) (by decide +kernel))
set_option maxRecDepth 20000 in
theorem gL_light_X4_light : GoodIn wsL_light (wsV RL 59 RX4 yX4_light wsX4_light) := goodIn_app (goodIn_of _ (by decide +kernel)) ggL_light_X4_light
theorem dL_light_0 : decode cL_light 0 = .ok (.aload_n 2, 1) := by decide +kernel
theorem dL_light_1 : decode cL_light 1 = .ok (.iconst 0, 1) := by decide +kernel
theorem dL_light_2 : decode cL_light 2 = .ok (.aload_n 0, 1) := by decide +kernel
theorem dL_light_3 : decode cL_light 3 = .ok (.iload_n 1, 1) := by decide +kernel
theorem dL_light_4 : decode cL_light 4 = .ok (.invokevirtual 59, 3) := by decide +kernel
theorem dL_light_7 : decode cL_light 7 = .ok (.i2l, 1) := by decide +kernel
theorem dL_light_8 : decode cL_light 8 = .ok (.lastore, 1) := by decide +kernel
theorem dL_light_9 : decode cL_light 9 = .ok (.goto 6, 3) := by decide +kernel
theorem dL_light_12 : decode cL_light 12 = .ok (.astore_n 3, 1) := by decide +kernel
theorem dL_light_13 : decode cL_light 13 = .ok (.iconst 1, 1) := by decide +kernel
theorem dL_light_14 : decode cL_light 14 = .ok (.ireturn, 1) := by decide +kernel
theorem dL_light_15 : decode cL_light 15 = .ok (.iconst 0, 1) := by decide +kernel
theorem dL_light_16 : decode cL_light 16 = .ok (.ireturn, 1) := by decide +kernel
set_option maxRecDepth 20000 in
theorem ggL_blended_X4_blended : GoodIn wsL_blended wsX4_blended := goodIn_ca (goodIn_r _ [6, 7, 8, 9, 10, 11, 12, 5, 13, 14, 15, 16, 17, 18, 19, 20, 21, 22, 23, 24, 25, 26, 27, 28, 29, 30, 31, 32, 33, 34, 35, 36, 37, 38, 39, 40, 41, 42, 43, 44, 45, 46, 47, 48, 49, 50, 51, 52, 53, 54, 55, 56, 57, 58, 59, 60, 61, 62, 63, 64, 65, 66, 67, 68, 69, 70, 71, 72, 73, 74, 75, 76, 77, 78, 79, 80, 81, 82, 83, 84, 85, 86, 87, 88, 89, 90, 91, 92, 93, 94, 95, 96] (by decide +kernel) (by decide +kernel)) (goodIn_sub (fun _ h => List.mem_cons_of_mem _ (List.mem_append_right _ h)) (by decide +kernel))
set_option maxRecDepth 20000 in
theorem gL_blended_X4_blended : GoodIn wsL_blended (wsV RL 62 RX4 yX4_blended wsX4_blended) := goodIn_app (goodIn_of _ (by decide +kernel)) ggL_blended_X4_blended
theorem dL_blended_0 : decode cL_blended 0 = .ok (.aload_n 3, 1) := by decide +kernel
theorem dL_blended_1 : decode cL_blended 1 = .ok (.iconst 0, 1) := by decide +kernel
theorem dL_blended_2 : decode cL_blended 2 = .ok (.aload_n 0, 1) := by decide +kernel
theorem dL_blended_3 : decode cL_blended 3 = .ok (.iload_n 1, 1) := by decide +kernel
theorem dL_blended_4 : decode cL_blended 4 = .ok (.iload_n 2, 1) := by decide +kernel
theorem dL_blended_5 : decode cL_blended 5 = .ok (.invokevirtual 62, 3) := by decide +kernel
theorem dL_blended_8 : decode cL_blended 8 = .ok (.i2l, 1) := by decide +kernel
theorem dL_blended_9 : decode cL_blended 9 = .ok (.lastore, 1) := by decide +kernel
theorem dL_blended_10 : decode cL_blended 10 = .ok (.goto 7, 3) := by decide +kernel
theorem dL_blended_13 : decode cL_blended 13 = .ok (.astore 4, 2) := by decide +kernel
theorem dL_blended_15 : decode cL_blended 15 = .ok (.iconst 1, 1) := by decide +kernel
theorem dL_blended_16 : decode cL_blended 16 = .ok (.ireturn, 1) := by decide +kernel
theorem dL_blended_17 : decode cL_blended 17 = .ok (.iconst 0, 1) := by decide +kernel
theorem dL_blended_18 : decode cL_blended 18 = .ok (.ireturn, 1) := by decide +kernel
set_option maxRecDepth 20000 in
theorem ggL_covered_X4_covered : GoodIn wsL_covered wsX4_covered := goodIn_ca (goodIn_r _ [6, 7, 8, 9, 10, 11, 12, 13, 5, 14, 15, 16, 17, 18, 19, 20, 21, 22, 23, 24, 25, 26, 27, 28, 29, 30, 31, 32, 33, 34, 35, 36, 37, 38, 39, 40, 41, 42, 43, 44, 45, 46, 47, 48, 49, 50, 51, 52, 53, 54, 55, 56, 57, 58, 59, 60, 61, 62, 63, 64, 65, 66, 67, 68, 69, 70, 71, 72, 73, 74, 75, 76, 77, 78, 79, 80, 81, 82, 83, 84, 85, 86, 87, 88, 89, 90, 91, 92, 93, 94, 95, 96, 97, 98, 99, 100, 101, 102, 103, 104, 105, 106, 107, 108, 109, 110, 111, 112] (by decide +kernel) (by decide +kernel)) (goodIn_sub (fun _ h => List.mem_cons_of_mem _ (List.mem_append_right _ h)) (by decide +kernel))
set_option maxRecDepth 20000 in
theorem gL_covered_X4_covered : GoodIn wsL_covered (wsV RL 65 RX4 yX4_covered wsX4_covered) := goodIn_app (goodIn_of _ (by decide +kernel)) ggL_covered_X4_covered
theorem dL_covered_0 : decode cL_covered 0 = .ok (.aload_n 2, 1) := by decide +kernel
theorem dL_covered_1 : decode cL_covered 1 = .ok (.iconst 0, 1) := by decide +kernel
theorem dL_covered_2 : decode cL_covered 2 = .ok (.aload_n 0, 1) := by decide +kernel
theorem dL_covered_3 : decode cL_covered 3 = .ok (.iload_n 1, 1) := by decide +kernel
theorem dL_covered_4 : decode cL_covered 4 = .ok (.invokevirtual 65, 3) := by decide +kernel
theorem dL_covered_7 : decode cL_covered 7 = .ok (.i2l, 1) := by decide +kernel
theorem dL_covered_8 : decode cL_covered 8 = .ok (.lastore, 1) := by decide +kernel
theorem dL_covered_9 : decode cL_covered 9 = .ok (.goto 6, 3) := by decide +kernel
theorem dL_covered_12 : decode cL_covered 12 = .ok (.astore_n 3, 1) := by decide +kernel
theorem dL_covered_13 : decode cL_covered 13 = .ok (.iconst 1, 1) := by decide +kernel
theorem dL_covered_14 : decode cL_covered 14 = .ok (.ireturn, 1) := by decide +kernel
theorem dL_covered_15 : decode cL_covered 15 = .ok (.iconst 0, 1) := by decide +kernel
theorem dL_covered_16 : decode cL_covered 16 = .ok (.ireturn, 1) := by decide +kernel
set_option maxRecDepth 20000 in
theorem ggL_bears_X4_bears : GoodIn wsL_bears wsX4_bears := goodIn_ca (goodIn_r _ [6, 7, 8, 9, 10, 11, 12, 13, 14, 5, 15, 16, 17, 18, 19, 20, 21, 22, 23, 24, 25, 26, 27, 28, 29, 30, 31, 32, 33, 34, 35, 36, 37, 38, 39, 40, 41, 42, 43, 44, 45, 46, 47, 48, 49, 50, 51, 52, 53, 54, 55, 56, 57, 58, 59, 60, 61, 62, 63, 64, 65, 66, 67, 68, 69, 70, 71, 72, 73, 74, 75, 76, 77, 78, 79, 80, 81, 82, 83, 84, 85, 86, 87, 88, 89, 90, 91, 92, 93, 94, 95, 96, 97, 98, 99, 100, 101, 102, 103, 104, 105, 106, 107, 108, 109, 110, 111, 112, 113, 114, 115, 116, 117] (by decide +kernel) (by decide +kernel)) (goodIn_sub (fun _ h => List.mem_cons_of_mem _ (List.mem_append_right _ h)) (by decide +kernel))
set_option maxRecDepth 20000 in
theorem gL_bears_X4_bears : GoodIn wsL_bears (wsV RL 68 RX4 yX4_bears wsX4_bears) := goodIn_app (goodIn_of _ (by decide +kernel)) ggL_bears_X4_bears
theorem dL_bears_0 : decode cL_bears 0 = .ok (.aload_n 2, 1) := by decide +kernel
theorem dL_bears_1 : decode cL_bears 1 = .ok (.iconst 0, 1) := by decide +kernel
theorem dL_bears_2 : decode cL_bears 2 = .ok (.aload_n 0, 1) := by decide +kernel
theorem dL_bears_3 : decode cL_bears 3 = .ok (.iload_n 1, 1) := by decide +kernel
theorem dL_bears_4 : decode cL_bears 4 = .ok (.invokevirtual 68, 3) := by decide +kernel
theorem dL_bears_7 : decode cL_bears 7 = .ok (.ifCond .eq 7, 3) := by decide +kernel
theorem dL_bears_10 : decode cL_bears 10 = .ok (.lconst 1, 1) := by decide +kernel
theorem dL_bears_11 : decode cL_bears 11 = .ok (.goto 4, 3) := by decide +kernel
theorem dL_bears_14 : decode cL_bears 14 = .ok (.lconst 0, 1) := by decide +kernel
theorem dL_bears_15 : decode cL_bears 15 = .ok (.lastore, 1) := by decide +kernel
theorem dL_bears_16 : decode cL_bears 16 = .ok (.goto 6, 3) := by decide +kernel
theorem dL_bears_19 : decode cL_bears 19 = .ok (.astore_n 3, 1) := by decide +kernel
theorem dL_bears_20 : decode cL_bears 20 = .ok (.iconst 1, 1) := by decide +kernel
theorem dL_bears_21 : decode cL_bears 21 = .ok (.ireturn, 1) := by decide +kernel
theorem dL_bears_22 : decode cL_bears 22 = .ok (.iconst 0, 1) := by decide +kernel
theorem dL_bears_23 : decode cL_bears 23 = .ok (.ireturn, 1) := by decide +kernel
set_option maxRecDepth 20000 in
theorem ggL_curfew_X4_curfew : GoodIn wsL_curfew wsX4_curfew := goodIn_ca (goodIn_r _ [6, 7, 8, 9, 10, 11, 12, 13, 14, 15, 16, 17, 18, 19, 20, 21, 22, 23, 24, 25, 26] (by decide +kernel) (by decide +kernel)) (goodIn_sub (fun _ h => List.mem_cons_of_mem _ (List.mem_append_right _ h)) (by decide +kernel))
set_option maxRecDepth 20000 in
theorem gL_curfew_X4_curfew : GoodIn wsL_curfew (wsV RL 72 RX4 yX4_curfew wsX4_curfew) := goodIn_app (goodIn_of _ (by decide +kernel)) ggL_curfew_X4_curfew
theorem dL_curfew_0 : decode cL_curfew 0 = .ok (.aload_n 0, 1) := by decide +kernel
theorem dL_curfew_1 : decode cL_curfew 1 = .ok (.iload_n 1, 1) := by decide +kernel
theorem dL_curfew_2 : decode cL_curfew 2 = .ok (.iload_n 2, 1) := by decide +kernel
theorem dL_curfew_3 : decode cL_curfew 3 = .ok (.invokevirtual 72, 3) := by decide +kernel
theorem dL_curfew_6 : decode cL_curfew 6 = .ok (.goto 6, 3) := by decide +kernel
theorem dL_curfew_9 : decode cL_curfew 9 = .ok (.astore_n 3, 1) := by decide +kernel
theorem dL_curfew_10 : decode cL_curfew 10 = .ok (.iconst 1, 1) := by decide +kernel
theorem dL_curfew_11 : decode cL_curfew 11 = .ok (.ireturn, 1) := by decide +kernel
theorem dL_curfew_12 : decode cL_curfew 12 = .ok (.iconst 0, 1) := by decide +kernel
theorem dL_curfew_13 : decode cL_curfew 13 = .ok (.ireturn, 1) := by decide +kernel
set_option maxRecDepth 20000 in
theorem ggL_ready_X4_ready : GoodIn wsL_ready wsX4_ready := goodIn_ca (goodIn_ca (goodIn_r _ [7, 8, 9, 10, 11, 12, 13, 14, 15, 6, 16, 17, 18, 19, 20, 21, 22, 23, 24, 25, 26, 27, 28, 29, 30, 31, 32, 33, 34, 35, 36, 37, 38, 39, 40, 41, 42, 43, 44] (by decide +kernel) (by decide +kernel)) (goodIn_sub (fun _ h => List.mem_cons_of_mem _ (List.mem_append_left _ (List.mem_append_right _ h))) (by decide +kernel))) (goodIn_sub (fun _ h => List.mem_cons_of_mem _ (List.mem_append_right _ h)) (by decide +kernel))
set_option maxRecDepth 20000 in
theorem gL_ready_X4_ready : GoodIn wsL_ready (wsV RL 75 RX4 yX4_ready wsX4_ready) := goodIn_app (goodIn_of _ (by decide +kernel)) ggL_ready_X4_ready
theorem dL_ready_0 : decode cL_ready 0 = .ok (.aload_n 3, 1) := by decide +kernel
theorem dL_ready_1 : decode cL_ready 1 = .ok (.iconst 0, 1) := by decide +kernel
theorem dL_ready_2 : decode cL_ready 2 = .ok (.aload_n 0, 1) := by decide +kernel
theorem dL_ready_3 : decode cL_ready 3 = .ok (.iload_n 1, 1) := by decide +kernel
theorem dL_ready_4 : decode cL_ready 4 = .ok (.iload_n 2, 1) := by decide +kernel
theorem dL_ready_5 : decode cL_ready 5 = .ok (.invokevirtual 75, 3) := by decide +kernel
theorem dL_ready_8 : decode cL_ready 8 = .ok (.i2l, 1) := by decide +kernel
theorem dL_ready_9 : decode cL_ready 9 = .ok (.lastore, 1) := by decide +kernel
theorem dL_ready_10 : decode cL_ready 10 = .ok (.goto 11, 3) := by decide +kernel
theorem dL_ready_13 : decode cL_ready 13 = .ok (.astore 4, 2) := by decide +kernel
theorem dL_ready_15 : decode cL_ready 15 = .ok (.iconst 1, 1) := by decide +kernel
theorem dL_ready_16 : decode cL_ready 16 = .ok (.ireturn, 1) := by decide +kernel
theorem dL_ready_17 : decode cL_ready 17 = .ok (.astore 4, 2) := by decide +kernel
theorem dL_ready_19 : decode cL_ready 19 = .ok (.iconst 2, 1) := by decide +kernel
theorem dL_ready_20 : decode cL_ready 20 = .ok (.ireturn, 1) := by decide +kernel
theorem dL_ready_21 : decode cL_ready 21 = .ok (.iconst 0, 1) := by decide +kernel
theorem dL_ready_22 : decode cL_ready 22 = .ok (.ireturn, 1) := by decide +kernel
set_option maxRecDepth 20000 in
theorem ggL_propose_X4_propose : GoodIn wsL_propose wsX4_propose := goodIn_ca (goodIn_ca (goodIn_r _ [7, 8, 9, 10, 11, 12, 13, 14, 6, 15, 16, 17, 18, 19, 20, 21, 22, 23, 24, 25, 26, 27, 28, 29, 30, 31, 32, 33, 34] (by decide +kernel) (by decide +kernel)) (goodIn_sub (fun _ h => List.mem_cons_of_mem _ (List.mem_append_left _ (List.mem_append_right _ h))) (by decide +kernel))) (goodIn_sub (fun _ h => List.mem_cons_of_mem _ (List.mem_append_right _ h)) (by decide +kernel))
set_option maxRecDepth 20000 in
theorem gL_propose_X4_propose : GoodIn wsL_propose (wsV RL 78 RX4 yX4_propose wsX4_propose) := goodIn_app (goodIn_of _ (by decide +kernel)) ggL_propose_X4_propose
theorem dL_propose_0 : decode cL_propose 0 = .ok (.aload_n 3, 1) := by decide +kernel
theorem dL_propose_1 : decode cL_propose 1 = .ok (.iconst 0, 1) := by decide +kernel
theorem dL_propose_2 : decode cL_propose 2 = .ok (.aload_n 0, 1) := by decide +kernel
theorem dL_propose_3 : decode cL_propose 3 = .ok (.iload_n 1, 1) := by decide +kernel
theorem dL_propose_4 : decode cL_propose 4 = .ok (.iload_n 2, 1) := by decide +kernel
theorem dL_propose_5 : decode cL_propose 5 = .ok (.invokevirtual 78, 3) := by decide +kernel
theorem dL_propose_8 : decode cL_propose 8 = .ok (.i2l, 1) := by decide +kernel
theorem dL_propose_9 : decode cL_propose 9 = .ok (.lastore, 1) := by decide +kernel
theorem dL_propose_10 : decode cL_propose 10 = .ok (.goto 11, 3) := by decide +kernel
theorem dL_propose_13 : decode cL_propose 13 = .ok (.astore 4, 2) := by decide +kernel
theorem dL_propose_15 : decode cL_propose 15 = .ok (.iconst 1, 1) := by decide +kernel
theorem dL_propose_16 : decode cL_propose 16 = .ok (.ireturn, 1) := by decide +kernel
theorem dL_propose_17 : decode cL_propose 17 = .ok (.astore 4, 2) := by decide +kernel
theorem dL_propose_19 : decode cL_propose 19 = .ok (.iconst 2, 1) := by decide +kernel
theorem dL_propose_20 : decode cL_propose 20 = .ok (.ireturn, 1) := by decide +kernel
theorem dL_propose_21 : decode cL_propose 21 = .ok (.iconst 0, 1) := by decide +kernel
theorem dL_propose_22 : decode cL_propose 22 = .ok (.ireturn, 1) := by decide +kernel
set_option maxRecDepth 20000 in
theorem ggL_answer_X4_answer : GoodIn wsL_answer wsX4_answer := goodIn_ca (goodIn_ca (goodIn_r _ [7, 8, 9, 10, 11, 12, 13, 14, 6, 15, 16, 17, 18, 19, 20, 21, 22, 23, 24, 25, 26, 27, 28, 29, 30, 31, 32, 33, 34] (by decide +kernel) (by decide +kernel)) (goodIn_sub (fun _ h => List.mem_cons_of_mem _ (List.mem_append_left _ (List.mem_append_right _ h))) (by decide +kernel))) (goodIn_sub (fun _ h => List.mem_cons_of_mem _ (List.mem_append_right _ h)) (by decide +kernel))
set_option maxRecDepth 20000 in
theorem gL_answer_X4_answer : GoodIn wsL_answer (wsV RL 81 RX4 yX4_answer wsX4_answer) := goodIn_app (goodIn_of _ (by decide +kernel)) ggL_answer_X4_answer
theorem dL_answer_0 : decode cL_answer 0 = .ok (.aload_n 3, 1) := by decide +kernel
theorem dL_answer_1 : decode cL_answer 1 = .ok (.iconst 0, 1) := by decide +kernel
theorem dL_answer_2 : decode cL_answer 2 = .ok (.aload_n 0, 1) := by decide +kernel
theorem dL_answer_3 : decode cL_answer 3 = .ok (.iload_n 1, 1) := by decide +kernel
theorem dL_answer_4 : decode cL_answer 4 = .ok (.iload_n 2, 1) := by decide +kernel
theorem dL_answer_5 : decode cL_answer 5 = .ok (.invokevirtual 81, 3) := by decide +kernel
theorem dL_answer_8 : decode cL_answer 8 = .ok (.i2l, 1) := by decide +kernel
theorem dL_answer_9 : decode cL_answer 9 = .ok (.lastore, 1) := by decide +kernel
theorem dL_answer_10 : decode cL_answer 10 = .ok (.goto 11, 3) := by decide +kernel
theorem dL_answer_13 : decode cL_answer 13 = .ok (.astore 4, 2) := by decide +kernel
theorem dL_answer_15 : decode cL_answer 15 = .ok (.iconst 1, 1) := by decide +kernel
theorem dL_answer_16 : decode cL_answer 16 = .ok (.ireturn, 1) := by decide +kernel
theorem dL_answer_17 : decode cL_answer 17 = .ok (.astore 4, 2) := by decide +kernel
theorem dL_answer_19 : decode cL_answer 19 = .ok (.iconst 2, 1) := by decide +kernel
theorem dL_answer_20 : decode cL_answer 20 = .ok (.ireturn, 1) := by decide +kernel
theorem dL_answer_21 : decode cL_answer 21 = .ok (.iconst 0, 1) := by decide +kernel
theorem dL_answer_22 : decode cL_answer 22 = .ok (.ireturn, 1) := by decide +kernel
set_option maxRecDepth 20000 in
theorem ggL_scene_X4_scene : GoodIn wsL_scene wsX4_scene := goodIn_ca (goodIn_r _ [6, 7, 8, 9, 10, 11, 5, 12, 13, 14, 15, 16, 17, 18, 19, 20, 21, 22, 23, 24, 25, 26, 27, 28, 29, 30, 31] (by decide +kernel) (by decide +kernel)) (goodIn_sub (fun _ h => List.mem_cons_of_mem _ (List.mem_append_right _ h)) (by decide +kernel))
set_option maxRecDepth 20000 in
theorem gL_scene_X4_scene : GoodIn wsL_scene (wsV RL 85 RX4 yX4_scene wsX4_scene) := goodIn_app (goodIn_of _ (by decide +kernel)) ggL_scene_X4_scene
theorem dL_scene_0 : decode cL_scene 0 = .ok (.aload_n 3, 1) := by decide +kernel
theorem dL_scene_1 : decode cL_scene 1 = .ok (.iconst 0, 1) := by decide +kernel
theorem dL_scene_2 : decode cL_scene 2 = .ok (.aload_n 0, 1) := by decide +kernel
theorem dL_scene_3 : decode cL_scene 3 = .ok (.iload_n 1, 1) := by decide +kernel
theorem dL_scene_4 : decode cL_scene 4 = .ok (.iload_n 2, 1) := by decide +kernel
theorem dL_scene_5 : decode cL_scene 5 = .ok (.invokevirtual 85, 3) := by decide +kernel
theorem dL_scene_8 : decode cL_scene 8 = .ok (.i2l, 1) := by decide +kernel
theorem dL_scene_9 : decode cL_scene 9 = .ok (.lastore, 1) := by decide +kernel
theorem dL_scene_10 : decode cL_scene 10 = .ok (.goto 7, 3) := by decide +kernel
theorem dL_scene_13 : decode cL_scene 13 = .ok (.astore 4, 2) := by decide +kernel
theorem dL_scene_15 : decode cL_scene 15 = .ok (.iconst 1, 1) := by decide +kernel
theorem dL_scene_16 : decode cL_scene 16 = .ok (.ireturn, 1) := by decide +kernel
theorem dL_scene_17 : decode cL_scene 17 = .ok (.iconst 0, 1) := by decide +kernel
theorem dL_scene_18 : decode cL_scene 18 = .ok (.ireturn, 1) := by decide +kernel
set_option maxRecDepth 20000 in
theorem ggL_show_X4_show : GoodIn wsL_show wsX4_show := goodIn_ca (goodIn_r _ [6, 7, 8, 9, 10, 11, 12, 13, 14, 15, 16, 5, 17, 18, 19, 20, 21, 22, 23, 24, 25, 26, 27, 28, 29, 30, 31, 32, 33, 34, 35, 36, 37, 38, 39, 40, 41, 42, 43, 44, 45, 46, 47, 48, 49] (by decide +kernel) (by decide +kernel)) (goodIn_sub (fun _ h => List.mem_cons_of_mem _ (List.mem_append_right _ h)) (by decide +kernel))
set_option maxRecDepth 20000 in
theorem gL_show_X4_show : GoodIn wsL_show (wsV RL 88 RX4 yX4_show wsX4_show) := goodIn_app (goodIn_of _ (by decide +kernel)) ggL_show_X4_show
theorem dL_show_0 : decode cL_show 0 = .ok (.aload_n 2, 1) := by decide +kernel
theorem dL_show_1 : decode cL_show 1 = .ok (.iconst 0, 1) := by decide +kernel
theorem dL_show_2 : decode cL_show 2 = .ok (.aload_n 0, 1) := by decide +kernel
theorem dL_show_3 : decode cL_show 3 = .ok (.iload_n 1, 1) := by decide +kernel
theorem dL_show_4 : decode cL_show 4 = .ok (.invokevirtual 88, 3) := by decide +kernel
theorem dL_show_7 : decode cL_show 7 = .ok (.lastore, 1) := by decide +kernel
theorem dL_show_8 : decode cL_show 8 = .ok (.goto 6, 3) := by decide +kernel
theorem dL_show_11 : decode cL_show 11 = .ok (.astore_n 3, 1) := by decide +kernel
theorem dL_show_12 : decode cL_show 12 = .ok (.iconst 1, 1) := by decide +kernel
theorem dL_show_13 : decode cL_show 13 = .ok (.ireturn, 1) := by decide +kernel
theorem dL_show_14 : decode cL_show 14 = .ok (.iconst 0, 1) := by decide +kernel
theorem dL_show_15 : decode cL_show 15 = .ok (.ireturn, 1) := by decide +kernel
set_option maxRecDepth 20000 in
theorem ggL_pass_X4_pass : GoodIn wsL_pass wsX4_pass := goodIn_ca (goodIn_ca (goodIn_r _ [7, 8, 9, 10, 11, 12, 13, 14, 15, 16, 17, 18, 19, 20, 6, 21, 22, 23, 24, 25, 26, 27, 28, 29, 30, 31, 32, 33, 34, 35, 36, 37, 38, 39, 40, 41, 42, 43, 44, 45, 46, 47, 48, 49, 50, 51, 52, 53, 54, 55, 56, 57, 58, 59, 60, 61, 62, 63, 64, 65, 66, 67, 68, 69, 70, 71, 72, 73, 74, 75, 76, 77, 78, 79, 80, 81, 82, 83, 84, 85, 86, 87, 88, 89, 90, 91, 92, 93, 94, 95, 96, 97, 98, 99, 100, 101, 102, 103, 104, 105, 106, 107, 108, 109, 110, 111, 112, 113, 114, 115, 116, 117, 118, 119, 120, 121, 122, 123, 124, 125, 126, 127, 128] (by decide +kernel) (by decide +kernel)) (goodIn_sub (fun _ h => List.mem_cons_of_mem _ (List.mem_append_left _ (List.mem_append_right _ h))) (by decide +kernel))) (goodIn_sub (fun _ h => List.mem_cons_of_mem _ (List.mem_append_right _ h)) (by decide +kernel))
set_option maxRecDepth 20000 in
theorem gL_pass_X4_pass : GoodIn wsL_pass (wsV RL 92 RX4 yX4_pass wsX4_pass) := goodIn_app (goodIn_of _ (by decide +kernel)) ggL_pass_X4_pass
theorem dL_pass_0 : decode cL_pass 0 = .ok (.aload_n 2, 1) := by decide +kernel
theorem dL_pass_1 : decode cL_pass 1 = .ok (.iconst 0, 1) := by decide +kernel
theorem dL_pass_2 : decode cL_pass 2 = .ok (.aload_n 0, 1) := by decide +kernel
theorem dL_pass_3 : decode cL_pass 3 = .ok (.iload_n 1, 1) := by decide +kernel
theorem dL_pass_4 : decode cL_pass 4 = .ok (.invokevirtual 92, 3) := by decide +kernel
theorem dL_pass_7 : decode cL_pass 7 = .ok (.i2l, 1) := by decide +kernel
theorem dL_pass_8 : decode cL_pass 8 = .ok (.lastore, 1) := by decide +kernel
theorem dL_pass_9 : decode cL_pass 9 = .ok (.goto 9, 3) := by decide +kernel
theorem dL_pass_12 : decode cL_pass 12 = .ok (.astore_n 3, 1) := by decide +kernel
theorem dL_pass_13 : decode cL_pass 13 = .ok (.iconst 1, 1) := by decide +kernel
theorem dL_pass_14 : decode cL_pass 14 = .ok (.ireturn, 1) := by decide +kernel
theorem dL_pass_15 : decode cL_pass 15 = .ok (.astore_n 3, 1) := by decide +kernel
theorem dL_pass_16 : decode cL_pass 16 = .ok (.iconst 2, 1) := by decide +kernel
theorem dL_pass_17 : decode cL_pass 17 = .ok (.ireturn, 1) := by decide +kernel
theorem dL_pass_18 : decode cL_pass 18 = .ok (.iconst 0, 1) := by decide +kernel
theorem dL_pass_19 : decode cL_pass 19 = .ok (.ireturn, 1) := by decide +kernel
end
section
theorem mem_pl {big : List Cond} {ws : List Cond} (ps : List Nat) (hp : ws = ps.filterMap (fun i => big[i]?)) : ∀ w ∈ ws, w ∈ big := by
  intro w hw
  rw [hp] at hw
  obtain ⟨i, -, hi⟩ := List.mem_filterMap.mp hw
  exact List.mem_of_getElem? hi
def wsL_law : List Cond := wsL_law0 ++ (vx_atS RX4 83 "java/lang/IndexOutOfBoundsException" ["java/lang/RuntimeException", "java/lang/Exception"]).filter goodWord ++ (vx_atS RX4 90 "java/lang/IllegalArgumentException" ["java/lang/RuntimeException", "java/lang/Exception"]).filter goodWord ++ (vx_atS RX4 112 "java/lang/IllegalStateException" ["java/lang/RuntimeException", "java/lang/Exception"]).filter goodWord
set_option maxRecDepth 20000 in
theorem lwm_1 : ∀ w ∈ wsL_law0_r1, w ∈ lw_tbl := mem_pl [64, 65, 51, 663, 664, 55, 962, 66, 67, 68, 69, 70, 71, 72, 73, 52, 120, 89, 121, 122, 88, 123, 124, 125] rfl
set_option maxRecDepth 20000 in
theorem lwm_2 : ∀ w ∈ wsL_law0_r2, w ∈ lw_tbl := mem_pl [126, 91, 92, 53, 127, 128, 129, 104, 106, 54, 130, 131, 132, 133, 134, 135, 75, 76, 77, 78, 79, 80, 94, 95] rfl
set_option maxRecDepth 20000 in
theorem lwm_3 : ∀ w ∈ wsL_law0_r3, w ∈ lw_tbl := mem_pl [96, 97, 98, 108, 109, 110, 111, 113, 665, 666, 667, 668, 670, 671, 672, 673, 760, 674, 676, 678, 679, 680, 681, 682] rfl
set_option maxRecDepth 20000 in
theorem lwm_4 : ∀ w ∈ wsL_law0_r4, w ∈ lw_tbl := mem_pl [683, 684, 685, 686, 687, 688, 692, 693, 275, 276, 50, 277, 278, 279, 280, 281, 282, 283, 285, 59, 353, 60, 284, 189] rfl
set_option maxRecDepth 20000 in
theorem lwm_5 : ∀ w ∈ wsL_law0_r5, w ∈ lw_tbl := mem_pl [190, 372, 20, 373, 765, 766, 767, 768, 769, 770, 771, 772, 773, 774, 775, 777, 31, 778, 669, 761, 762, 763, 764, 374] rfl
set_option maxRecDepth 20000 in
theorem lwm_6 : ∀ w ∈ wsL_law0_r6, w ∈ lw_tbl := mem_pl [375, 376, 377, 378, 379, 380, 381, 388, 61, 382, 383, 384, 218, 9, 219, 220, 221, 222, 406, 21, 407, 779, 780, 781] rfl
set_option maxRecDepth 20000 in
theorem lwm_7 : ∀ w ∈ wsL_law0_r7, w ∈ lw_tbl := mem_pl [782, 783, 784, 785, 786, 787, 788, 408, 409, 410, 411, 412, 413, 414, 415, 789, 790, 791, 792, 793, 675, 418, 419, 420] rfl
set_option maxRecDepth 20000 in
theorem lwm_8 : ∀ w ∈ wsL_law0_r8, w ∈ lw_tbl := mem_pl [421, 422, 423, 424, 261, 62, 426, 427, 428, 434, 435, 436, 437, 439, 441, 443, 445, 447, 449, 794, 795, 796, 797, 677] rfl
set_option maxRecDepth 20000 in
theorem lwm_9 : ∀ w ∈ wsL_law0_r9, w ∈ lw_tbl := mem_pl [477, 478, 479, 480, 481, 482, 483, 177, 179, 1, 180, 798, 799, 800, 801, 802, 804, 32, 805, 486, 487, 488, 489, 490] rfl
set_option maxRecDepth 20000 in
theorem lwm_10 : ∀ w ∈ wsL_law0_r10, w ∈ lw_tbl := mem_pl [491, 492, 493, 495, 22, 496, 497, 499, 23, 500, 806, 807, 808, 809, 810, 812, 33, 813, 502, 503, 504, 505, 506, 507] rfl
set_option maxRecDepth 20000 in
theorem lwm_11 : ∀ w ∈ wsL_law0_r11, w ∈ lw_tbl := mem_pl [508, 814, 815, 816, 817, 509, 510, 511, 512, 513, 514, 515, 516, 818, 819, 820, 821, 822, 517, 518, 519, 520, 521, 522] rfl
set_option maxRecDepth 20000 in
theorem lwm_12 : ∀ w ∈ wsL_law0_r12, w ∈ lw_tbl := mem_pl [523, 823, 824, 825, 826, 689, 525, 526, 527, 528, 529, 530, 531, 208, 210, 7, 211, 205, 6, 206, 827, 828, 829, 830] rfl
set_option maxRecDepth 20000 in
theorem lwm_13 : ∀ w ∈ wsL_law0_r13, w ∈ lw_tbl := mem_pl [831, 833, 34, 834, 533, 534, 535, 536, 537, 538, 539, 191, 193, 3, 194, 195, 197, 4, 198, 199, 201, 5, 202, 214] rfl
set_option maxRecDepth 20000 in
theorem lwm_14 : ∀ w ∈ wsL_law0_r14, w ∈ lw_tbl := mem_pl [8, 215, 216, 223, 226, 10, 227, 835, 836, 837, 838, 839, 841, 35, 842, 843, 845, 36, 846, 847, 849, 37, 850, 540] rfl
set_option maxRecDepth 20000 in
theorem lwm_15 : ∀ w ∈ wsL_law0_r15, w ∈ lw_tbl := mem_pl [541, 542, 543, 544, 545, 546, 228, 230, 11, 231, 851, 852, 853, 854, 855, 857, 38, 858, 547, 548, 549, 550, 551, 552] rfl
set_option maxRecDepth 20000 in
theorem lwm_16 : ∀ w ∈ wsL_law0_r16, w ∈ lw_tbl := mem_pl [553, 554, 556, 24, 557, 260, 15, 262, 451, 453, 859, 860, 861, 862, 863, 865, 39, 866, 867, 869, 40, 870, 558, 559] rfl
set_option maxRecDepth 20000 in
theorem lwm_17 : ∀ w ∈ wsL_law0_r17, w ∈ lw_tbl := mem_pl [560, 561, 562, 563, 564, 871, 872, 873, 874, 565, 566, 567, 568, 569, 570, 571, 572, 574, 25, 575, 173, 175, 0, 176] rfl
set_option maxRecDepth 20000 in
theorem lwm_18 : ∀ w ∈ wsL_law0_r18, w ∈ lw_tbl := mem_pl [183, 2, 184, 185, 186, 187, 248, 14, 249, 875, 876, 877, 878, 879, 881, 41, 882, 883, 885, 42, 886, 887, 889, 43] rfl
set_option maxRecDepth 20000 in
theorem lwm_19 : ∀ w ∈ wsL_law0_r19, w ∈ lw_tbl := mem_pl [890, 169, 170, 171, 172, 232, 234, 12, 235, 236, 237, 63, 238, 239, 240, 241, 244, 13, 245, 246, 891, 892, 893, 894] rfl
set_option maxRecDepth 20000 in
theorem lwm_20 : ∀ w ∈ wsL_law0_r20, w ∈ lw_tbl := mem_pl [895, 897, 44, 898, 899, 900, 901, 902, 904, 45, 905, 250, 251, 252, 253, 906, 907, 908, 909, 578, 579, 580, 581, 582] rfl
set_option maxRecDepth 20000 in
theorem lwm_21 : ∀ w ∈ wsL_law0_r21, w ∈ lw_tbl := mem_pl [583, 584, 910, 911, 912, 913, 254, 255, 256, 257, 263, 265, 16, 266, 267, 269, 17, 270, 273, 18, 274, 914, 915, 916] rfl
set_option maxRecDepth 20000 in
theorem lwm_22 : ∀ w ∈ wsL_law0_r22, w ∈ lw_tbl := mem_pl [917, 918, 920, 46, 921, 922, 924, 47, 925, 585, 586, 587, 588, 589, 590, 591, 926, 927, 928, 929, 690, 691, 594, 595] rfl
set_option maxRecDepth 20000 in
theorem lwm_23 : ∀ w ∈ wsL_law0_r23, w ∈ lw_tbl := mem_pl [596, 597, 598, 599, 600, 930, 931, 932, 933, 602, 603, 604, 605, 606, 607, 608, 609, 611, 26, 612, 934, 935, 936, 937] rfl
set_option maxRecDepth 20000 in
theorem lwm_24 : ∀ w ∈ wsL_law0_r24, w ∈ lw_tbl := mem_pl [615, 616, 617, 618, 619, 620, 621, 938, 939, 940, 941, 623, 624, 625, 626, 627, 628, 629, 942, 943, 944, 945, 630, 631] rfl
set_option maxRecDepth 20000 in
theorem lwm_25 : ∀ w ∈ wsL_law0_r25, w ∈ lw_tbl := mem_pl [632, 633, 634, 635, 636, 637, 639, 27, 640, 946, 947, 948, 949, 694, 695, 696, 697, 698, 950, 952, 48, 953, 641, 642] rfl
set_option maxRecDepth 20000 in
theorem lwm_26 : ∀ w ∈ wsL_law0_r26, w ∈ lw_tbl := mem_pl [643, 644, 645, 646, 647, 650, 651, 653, 28, 654, 655, 657, 29, 658, 659, 661, 30, 662, 954, 955, 956, 957, 958, 960] rfl
set_option maxRecDepth 20000 in
theorem lwm_27 : ∀ w ∈ wsL_law0_r27, w ∈ lw_tbl := mem_pl [49, 961] rfl
set_option maxRecDepth 20000 in
theorem lwf_X4 : ∀ w ∈ wsX40, w ∈ lw_tbl := mem_pl [136, 138, 140, 142, 144, 146, 148, 150, 152, 154, 156, 158, 160, 162, 164, 166] rfl
set_option maxRecDepth 20000 in
theorem lwf_X5 : ∀ w ∈ wsX50, w ∈ lw_tbl := mem_pl [699, 701, 703, 705, 707, 709, 711, 713, 715, 717, 719, 721, 723, 725, 727, 729, 731, 733, 735, 737, 739, 741, 743, 745, 747, 749, 751, 753, 755, 757] rfl
set_option maxRecDepth 20000 in
theorem lwf_X2 : ∀ w ∈ wsX20, w ∈ lw_tbl := mem_pl [81, 83, 85] rfl
set_option maxRecDepth 20000 in
theorem lwf_X3 : ∀ w ∈ wsX30, w ∈ lw_tbl := mem_pl [99, 101] rfl
set_option maxRecDepth 20000 in
theorem lwf_X1 : ∀ w ∈ wsX10, w ∈ lw_tbl := mem_pl [115, 117] rfl
set_option maxRecDepth 20000 in
theorem lwf_X0 : ∀ w ∈ wsX00, w ∈ lw_tbl := mem_pl [456, 458, 460, 462, 464, 466, 468, 470, 472, 474] rfl
theorem mem_two {big a b : List Cond} (ha : ∀ w ∈ a, w ∈ big) (hb : ∀ w ∈ b, w ∈ big) : ∀ w ∈ a ++ b, w ∈ big := fun w h => (List.mem_append.mp h).elim (ha w) (hb w)
theorem wsL_law_in0 : ∀ w ∈ wsL_law0, w ∈ lw_tbl := mem_two (mem_two (mem_two (mem_two (mem_two (mem_two (mem_two (mem_two lwm_1 (mem_two lwm_2 (mem_two lwm_3 (mem_two lwm_4 (mem_two lwm_5 (mem_two lwm_6 (mem_two lwm_7 (mem_two lwm_8 (mem_two lwm_9 (mem_two lwm_10 (mem_two lwm_11 (mem_two lwm_12 (mem_two lwm_13 (mem_two lwm_14 (mem_two lwm_15 (mem_two lwm_16 (mem_two lwm_17 (mem_two lwm_18 (mem_two lwm_19 (mem_two lwm_20 (mem_two lwm_21 (mem_two lwm_22 (mem_two lwm_23 (mem_two lwm_24 (mem_two lwm_25 (mem_two lwm_26 (lwm_27))))))))))))))))))))))))))) lwf_X4) lwf_X5) lwf_X2) lwf_X3) lwf_X1) lwf_X0) (fun _ h => nomatch h)
theorem wsL_law_x0 : ∀ w ∈ (vx_atS RX4 83 "java/lang/IndexOutOfBoundsException" ["java/lang/RuntimeException", "java/lang/Exception"]).filter goodWord, w ∈ lw_tbl := by decide +kernel
theorem wsL_law_x1 : ∀ w ∈ (vx_atS RX4 90 "java/lang/IllegalArgumentException" ["java/lang/RuntimeException", "java/lang/Exception"]).filter goodWord, w ∈ lw_tbl := by decide +kernel
theorem wsL_law_x2 : ∀ w ∈ (vx_atS RX4 112 "java/lang/IllegalStateException" ["java/lang/RuntimeException", "java/lang/Exception"]).filter goodWord, w ∈ lw_tbl := by decide +kernel
theorem wsL_law_in : ∀ w ∈ wsL_law, w ∈ lw_tbl := fun w h => (List.mem_append.mp h).elim (fun h => (List.mem_append.mp h).elim (fun h => (List.mem_append.mp h).elim (fun h => wsL_law_in0 w h) (fun h => wsL_law_x0 w h)) (fun h => wsL_law_x1 w h)) (fun h => wsL_law_x2 w h)
theorem inlX0 : ∀ w ∈ wsX00, w ∈ wsL_law := fun _ h => List.mem_append_left _ (List.mem_append_left _ (List.mem_append_left _ (List.mem_append_left _ (List.mem_append_right _ h))))
theorem inX0 : ∀ w ∈ wsX00, w ∈ lw_tbl := fun w h => wsL_law_in w (inlX0 w h)
theorem inlX1 : ∀ w ∈ wsX10, w ∈ wsL_law := fun _ h => List.mem_append_left _ (List.mem_append_left _ (List.mem_append_left _ (List.mem_append_left _ (List.mem_append_left _ (List.mem_append_right _ h)))))
theorem inX1 : ∀ w ∈ wsX10, w ∈ lw_tbl := fun w h => wsL_law_in w (inlX1 w h)
theorem inlX2 : ∀ w ∈ wsX20, w ∈ wsL_law := fun _ h => List.mem_append_left _ (List.mem_append_left _ (List.mem_append_left _ (List.mem_append_left _ (List.mem_append_left _ (List.mem_append_left _ (List.mem_append_left _ (List.mem_append_right _ h)))))))
theorem inX2 : ∀ w ∈ wsX20, w ∈ lw_tbl := fun w h => wsL_law_in w (inlX2 w h)
theorem inlX3 : ∀ w ∈ wsX30, w ∈ wsL_law := fun _ h => List.mem_append_left _ (List.mem_append_left _ (List.mem_append_left _ (List.mem_append_left _ (List.mem_append_left _ (List.mem_append_left _ (List.mem_append_right _ h))))))
theorem inX3 : ∀ w ∈ wsX30, w ∈ lw_tbl := fun w h => wsL_law_in w (inlX3 w h)
theorem inlX4 : ∀ w ∈ wsX40, w ∈ wsL_law := fun _ h => List.mem_append_left _ (List.mem_append_left _ (List.mem_append_left _ (List.mem_append_left _ (List.mem_append_left _ (List.mem_append_left _ (List.mem_append_left _ (List.mem_append_left _ (List.mem_append_left _ (List.mem_append_right _ h)))))))))
theorem inX4 : ∀ w ∈ wsX40, w ∈ lw_tbl := fun w h => wsL_law_in w (inlX4 w h)
theorem inlX5 : ∀ w ∈ wsX50, w ∈ wsL_law := fun _ h => List.mem_append_left _ (List.mem_append_left _ (List.mem_append_left _ (List.mem_append_left _ (List.mem_append_left _ (List.mem_append_left _ (List.mem_append_left _ (List.mem_append_left _ (List.mem_append_right _ h))))))))
theorem inX5 : ∀ w ∈ wsX50, w ∈ lw_tbl := fun w h => wsL_law_in w (inlX5 w h)
end

section
-- ===== PART A: goes FIRST, ahead of the names: the tables' words, and 'selects' of the private methods out of them =====
/-- a private method of a class that the tables say can be made, by its rows of tables_1 -/
def lw_okq (q : MethodName × Nat) : Prop := (q.1.cls ≠ "java/lang/invoke/MethodHandle" ∧ q.1.cls ≠ "java/lang/invoke/VarHandle") ∧ Cond.instantiable q.1.cls q.2 ∈ tables_1 ∧ Cond.privateMethod q.1 ∈ tables_1 ∧ Cond.instanceMethod q.1 ∈ tables_1
theorem lw_p0 : lw_okq (⟨"LensTable", "found", "(I)I"⟩, 13) := ⟨⟨by decide +kernel, by decide +kernel⟩, List.mem_of_getElem? (i := 17) (by decide +kernel), List.mem_of_getElem? (i := 313) (by decide +kernel), List.mem_of_getElem? (i := 314) (by decide +kernel)⟩
theorem lw_p1 : lw_okq (⟨"LensTable$Sheet", "lay", "(II)V"⟩, 3) := ⟨⟨by decide +kernel, by decide +kernel⟩, List.mem_of_getElem? (i := 196) (by decide +kernel), List.mem_of_getElem? (i := 318) (by decide +kernel), List.mem_of_getElem? (i := 319) (by decide +kernel)⟩
theorem lw_p2 : lw_okq (⟨"LensTable", "clean", "(I)I"⟩, 13) := ⟨⟨by decide +kernel, by decide +kernel⟩, List.mem_of_getElem? (i := 17) (by decide +kernel), List.mem_of_getElem? (i := 322) (by decide +kernel), List.mem_of_getElem? (i := 323) (by decide +kernel)⟩
theorem lw_p3 : lw_okq (⟨"LensTable$Sheet", "isMissing", "()Z"⟩, 3) := ⟨⟨by decide +kernel, by decide +kernel⟩, List.mem_of_getElem? (i := 196) (by decide +kernel), List.mem_of_getElem? (i := 330) (by decide +kernel), List.mem_of_getElem? (i := 331) (by decide +kernel)⟩
theorem lw_p4 : lw_okq (⟨"LensTable$Sheet", "holds", "(II)Z"⟩, 3) := ⟨⟨by decide +kernel, by decide +kernel⟩, List.mem_of_getElem? (i := 196) (by decide +kernel), List.mem_of_getElem? (i := 334) (by decide +kernel), List.mem_of_getElem? (i := 335) (by decide +kernel)⟩
theorem lw_p5 : lw_okq (⟨"LensTable$Sheet", "write", "(II)I"⟩, 3) := ⟨⟨by decide +kernel, by decide +kernel⟩, List.mem_of_getElem? (i := 196) (by decide +kernel), List.mem_of_getElem? (i := 338) (by decide +kernel), List.mem_of_getElem? (i := 339) (by decide +kernel)⟩
theorem lw_p6 : lw_okq (⟨"LensTable$Sheet", "lose", "()I"⟩, 3) := ⟨⟨by decide +kernel, by decide +kernel⟩, List.mem_of_getElem? (i := 196) (by decide +kernel), List.mem_of_getElem? (i := 353) (by decide +kernel), List.mem_of_getElem? (i := 354) (by decide +kernel)⟩
theorem lw_p7 : lw_okq (⟨"LensTable$Thing", "put", "(III)V"⟩, 3) := ⟨⟨by decide +kernel, by decide +kernel⟩, List.mem_of_getElem? (i := 213) (by decide +kernel), List.mem_of_getElem? (i := 384) (by decide +kernel), List.mem_of_getElem? (i := 385) (by decide +kernel)⟩
theorem lw_p8 : lw_okq (⟨"LensTable", "isThing", "(I)Z"⟩, 13) := ⟨⟨by decide +kernel, by decide +kernel⟩, List.mem_of_getElem? (i := 17) (by decide +kernel), List.mem_of_getElem? (i := 392) (by decide +kernel), List.mem_of_getElem? (i := 393) (by decide +kernel)⟩
theorem lw_p9 : lw_okq (⟨"LensTable$Picture", "take", "(LLensTable$Room;LLensTable$Thing;)V"⟩, 6) := ⟨⟨by decide +kernel, by decide +kernel⟩, List.mem_of_getElem? (i := 49) (by decide +kernel), List.mem_of_getElem? (i := 400) (by decide +kernel), List.mem_of_getElem? (i := 401) (by decide +kernel)⟩
theorem lw_p10 : lw_okq (⟨"LensTable$Room", "reach", "(II)I"⟩, 3) := ⟨⟨by decide +kernel, by decide +kernel⟩, List.mem_of_getElem? (i := 27) (by decide +kernel), List.mem_of_getElem? (i := 422) (by decide +kernel), List.mem_of_getElem? (i := 423) (by decide +kernel)⟩
theorem lw_p11 : lw_okq (⟨"LensTable$Room", "blurBy", "(II)I"⟩, 3) := ⟨⟨by decide +kernel, by decide +kernel⟩, List.mem_of_getElem? (i := 27) (by decide +kernel), List.mem_of_getElem? (i := 427) (by decide +kernel), List.mem_of_getElem? (i := 428) (by decide +kernel)⟩
theorem lw_p12 : lw_okq (⟨"LensTable$Room", "sharpestDepth", "(LLensTable$Thing;)I"⟩, 3) := ⟨⟨by decide +kernel, by decide +kernel⟩, List.mem_of_getElem? (i := 27) (by decide +kernel), List.mem_of_getElem? (i := 438) (by decide +kernel), List.mem_of_getElem? (i := 439) (by decide +kernel)⟩
theorem lw_p13 : lw_okq (⟨"LensTable$Room", "blurAt", "(ILLensTable$Thing;)I"⟩, 3) := ⟨⟨by decide +kernel, by decide +kernel⟩, List.mem_of_getElem? (i := 27) (by decide +kernel), List.mem_of_getElem? (i := 442) (by decide +kernel), List.mem_of_getElem? (i := 443) (by decide +kernel)⟩
theorem lw_p14 : lw_okq (⟨"LensTable$Room", "clearBlurs", "()V"⟩, 3) := ⟨⟨by decide +kernel, by decide +kernel⟩, List.mem_of_getElem? (i := 27) (by decide +kernel), List.mem_of_getElem? (i := 458) (by decide +kernel), List.mem_of_getElem? (i := 459) (by decide +kernel)⟩
theorem lw_p15 : lw_okq (⟨"LensTable$Room", "addBlurs", "(I)V"⟩, 3) := ⟨⟨by decide +kernel, by decide +kernel⟩, List.mem_of_getElem? (i := 27) (by decide +kernel), List.mem_of_getElem? (i := 463) (by decide +kernel), List.mem_of_getElem? (i := 464) (by decide +kernel)⟩
def lw_privs_1 : List (MethodName × Nat) := [(⟨"LensTable", "found", "(I)I"⟩, 13), (⟨"LensTable$Sheet", "lay", "(II)V"⟩, 3), (⟨"LensTable", "clean", "(I)I"⟩, 13), (⟨"LensTable$Sheet", "isMissing", "()Z"⟩, 3), (⟨"LensTable$Sheet", "holds", "(II)Z"⟩, 3), (⟨"LensTable$Sheet", "write", "(II)I"⟩, 3), (⟨"LensTable$Sheet", "lose", "()I"⟩, 3), (⟨"LensTable$Thing", "put", "(III)V"⟩, 3), (⟨"LensTable", "isThing", "(I)Z"⟩, 13), (⟨"LensTable$Picture", "take", "(LLensTable$Room;LLensTable$Thing;)V"⟩, 6), (⟨"LensTable$Room", "reach", "(II)I"⟩, 3), (⟨"LensTable$Room", "blurBy", "(II)I"⟩, 3), (⟨"LensTable$Room", "sharpestDepth", "(LLensTable$Thing;)I"⟩, 3), (⟨"LensTable$Room", "blurAt", "(ILLensTable$Thing;)I"⟩, 3), (⟨"LensTable$Room", "clearBlurs", "()V"⟩, 3), (⟨"LensTable$Room", "addBlurs", "(I)V"⟩, 3)]
theorem lw_r1 : ∀ q ∈ lw_privs_1, lw_okq q := List.forall_mem_cons.mpr ⟨lw_p0, List.forall_mem_cons.mpr ⟨lw_p1, List.forall_mem_cons.mpr ⟨lw_p2, List.forall_mem_cons.mpr ⟨lw_p3, List.forall_mem_cons.mpr ⟨lw_p4, List.forall_mem_cons.mpr ⟨lw_p5, List.forall_mem_cons.mpr ⟨lw_p6, List.forall_mem_cons.mpr ⟨lw_p7, List.forall_mem_cons.mpr ⟨lw_p8, List.forall_mem_cons.mpr ⟨lw_p9, List.forall_mem_cons.mpr ⟨lw_p10, List.forall_mem_cons.mpr ⟨lw_p11, List.forall_mem_cons.mpr ⟨lw_p12, List.forall_mem_cons.mpr ⟨lw_p13, List.forall_mem_cons.mpr ⟨lw_p14, List.forall_mem_cons.mpr ⟨lw_p15, fun _ h => absurd h List.not_mem_nil⟩⟩⟩⟩⟩⟩⟩⟩⟩⟩⟩⟩⟩⟩⟩⟩
theorem lw_p16 : lw_okq (⟨"LensTable$Room", "bestBend", "()I"⟩, 3) := ⟨⟨by decide +kernel, by decide +kernel⟩, List.mem_of_getElem? (i := 27) (by decide +kernel), List.mem_of_getElem? (i := 467) (by decide +kernel), List.mem_of_getElem? (i := 468) (by decide +kernel)⟩
theorem lw_p17 : lw_okq (⟨"LensTable$Room", "bendsMade", "()I"⟩, 3) := ⟨⟨by decide +kernel, by decide +kernel⟩, List.mem_of_getElem? (i := 27) (by decide +kernel), List.mem_of_getElem? (i := 471) (by decide +kernel), List.mem_of_getElem? (i := 472) (by decide +kernel)⟩
theorem lw_p18 : lw_okq (⟨"LensTable$Trace", "put", "(III)V"⟩, 3) := ⟨⟨by decide +kernel, by decide +kernel⟩, List.mem_of_getElem? (i := 239) (by decide +kernel), List.mem_of_getElem? (i := 485) (by decide +kernel), List.mem_of_getElem? (i := 486) (by decide +kernel)⟩
theorem lw_p19 : lw_okq (⟨"LensTable$Trace", "clear", "()V"⟩, 3) := ⟨⟨by decide +kernel, by decide +kernel⟩, List.mem_of_getElem? (i := 239) (by decide +kernel), List.mem_of_getElem? (i := 497) (by decide +kernel), List.mem_of_getElem? (i := 498) (by decide +kernel)⟩
theorem lw_p20 : lw_okq (⟨"LensTable$Room", "shows", "(LLensTable$Picture;)Z"⟩, 3) := ⟨⟨by decide +kernel, by decide +kernel⟩, List.mem_of_getElem? (i := 27) (by decide +kernel), List.mem_of_getElem? (i := 501) (by decide +kernel), List.mem_of_getElem? (i := 502) (by decide +kernel)⟩
theorem lw_p21 : lw_okq (⟨"LensTable$Trace", "marksMade", "()I"⟩, 3) := ⟨⟨by decide +kernel, by decide +kernel⟩, List.mem_of_getElem? (i := 239) (by decide +kernel), List.mem_of_getElem? (i := 506) (by decide +kernel), List.mem_of_getElem? (i := 507) (by decide +kernel)⟩
theorem lw_p22 : lw_okq (⟨"LensTable$Joint", "take", "(LLensTable$Trace;LLensTable$Trace;)V"⟩, 2) := ⟨⟨by decide +kernel, by decide +kernel⟩, List.mem_of_getElem? (i := 84) (by decide +kernel), List.mem_of_getElem? (i := 519) (by decide +kernel), List.mem_of_getElem? (i := 520) (by decide +kernel)⟩
theorem lw_p23 : lw_okq (⟨"LensTable$Row", "insert", "(I)V"⟩, 2) := ⟨⟨by decide +kernel, by decide +kernel⟩, List.mem_of_getElem? (i := 90) (by decide +kernel), List.mem_of_getElem? (i := 523) (by decide +kernel), List.mem_of_getElem? (i := 524) (by decide +kernel)⟩
theorem lw_p24 : lw_okq (⟨"LensTable$Joint", "common", "()I"⟩, 2) := ⟨⟨by decide +kernel, by decide +kernel⟩, List.mem_of_getElem? (i := 84) (by decide +kernel), List.mem_of_getElem? (i := 527) (by decide +kernel), List.mem_of_getElem? (i := 528) (by decide +kernel)⟩
theorem lw_p25 : lw_okq (⟨"LensTable$Joint", "misfit", "()I"⟩, 2) := ⟨⟨by decide +kernel, by decide +kernel⟩, List.mem_of_getElem? (i := 84) (by decide +kernel), List.mem_of_getElem? (i := 531) (by decide +kernel), List.mem_of_getElem? (i := 532) (by decide +kernel)⟩
theorem lw_p26 : lw_okq (⟨"LensTable$Row", "misfit", "()I"⟩, 2) := ⟨⟨by decide +kernel, by decide +kernel⟩, List.mem_of_getElem? (i := 90) (by decide +kernel), List.mem_of_getElem? (i := 535) (by decide +kernel), List.mem_of_getElem? (i := 536) (by decide +kernel)⟩
theorem lw_p27 : lw_okq (⟨"LensTable$Row", "middle", "()I"⟩, 2) := ⟨⟨by decide +kernel, by decide +kernel⟩, List.mem_of_getElem? (i := 90) (by decide +kernel), List.mem_of_getElem? (i := 539) (by decide +kernel), List.mem_of_getElem? (i := 540) (by decide +kernel)⟩
theorem lw_p28 : lw_okq (⟨"LensTable$Joint", "acrossShift", "()I"⟩, 2) := ⟨⟨by decide +kernel, by decide +kernel⟩, List.mem_of_getElem? (i := 84) (by decide +kernel), List.mem_of_getElem? (i := 544) (by decide +kernel), List.mem_of_getElem? (i := 545) (by decide +kernel)⟩
theorem lw_p29 : lw_okq (⟨"LensTable$Joint", "upShift", "()I"⟩, 2) := ⟨⟨by decide +kernel, by decide +kernel⟩, List.mem_of_getElem? (i := 84) (by decide +kernel), List.mem_of_getElem? (i := 549) (by decide +kernel), List.mem_of_getElem? (i := 550) (by decide +kernel)⟩
theorem lw_p30 : lw_okq (⟨"LensTable$Ring", "take", "([LLensTable$Trace;ILLensTable$Joint;)Z"⟩, 3) := ⟨⟨by decide +kernel, by decide +kernel⟩, List.mem_of_getElem? (i := 111) (by decide +kernel), List.mem_of_getElem? (i := 557) (by decide +kernel), List.mem_of_getElem? (i := 558) (by decide +kernel)⟩
theorem lw_p31 : lw_okq (⟨"LensTable$Stand", "put", "(IIII)V"⟩, 4) := ⟨⟨by decide +kernel, by decide +kernel⟩, List.mem_of_getElem? (i := 146) (by decide +kernel), List.mem_of_getElem? (i := 581) (by decide +kernel), List.mem_of_getElem? (i := 582) (by decide +kernel)⟩
def lw_privs_2 : List (MethodName × Nat) := [(⟨"LensTable$Room", "bestBend", "()I"⟩, 3), (⟨"LensTable$Room", "bendsMade", "()I"⟩, 3), (⟨"LensTable$Trace", "put", "(III)V"⟩, 3), (⟨"LensTable$Trace", "clear", "()V"⟩, 3), (⟨"LensTable$Room", "shows", "(LLensTable$Picture;)Z"⟩, 3), (⟨"LensTable$Trace", "marksMade", "()I"⟩, 3), (⟨"LensTable$Joint", "take", "(LLensTable$Trace;LLensTable$Trace;)V"⟩, 2), (⟨"LensTable$Row", "insert", "(I)V"⟩, 2), (⟨"LensTable$Joint", "common", "()I"⟩, 2), (⟨"LensTable$Joint", "misfit", "()I"⟩, 2), (⟨"LensTable$Row", "misfit", "()I"⟩, 2), (⟨"LensTable$Row", "middle", "()I"⟩, 2), (⟨"LensTable$Joint", "acrossShift", "()I"⟩, 2), (⟨"LensTable$Joint", "upShift", "()I"⟩, 2), (⟨"LensTable$Ring", "take", "([LLensTable$Trace;ILLensTable$Joint;)Z"⟩, 3), (⟨"LensTable$Stand", "put", "(IIII)V"⟩, 4)]
theorem lw_r2 : ∀ q ∈ lw_privs_2, lw_okq q := List.forall_mem_cons.mpr ⟨lw_p16, List.forall_mem_cons.mpr ⟨lw_p17, List.forall_mem_cons.mpr ⟨lw_p18, List.forall_mem_cons.mpr ⟨lw_p19, List.forall_mem_cons.mpr ⟨lw_p20, List.forall_mem_cons.mpr ⟨lw_p21, List.forall_mem_cons.mpr ⟨lw_p22, List.forall_mem_cons.mpr ⟨lw_p23, List.forall_mem_cons.mpr ⟨lw_p24, List.forall_mem_cons.mpr ⟨lw_p25, List.forall_mem_cons.mpr ⟨lw_p26, List.forall_mem_cons.mpr ⟨lw_p27, List.forall_mem_cons.mpr ⟨lw_p28, List.forall_mem_cons.mpr ⟨lw_p29, List.forall_mem_cons.mpr ⟨lw_p30, List.forall_mem_cons.mpr ⟨lw_p31, fun _ h => absurd h List.not_mem_nil⟩⟩⟩⟩⟩⟩⟩⟩⟩⟩⟩⟩⟩⟩⟩⟩
theorem lw_p32 : lw_okq (⟨"LensTable$Sight", "take", "(LLensTable$Stand;LLensTable$Stand;JJ)Z"⟩, 2) := ⟨⟨by decide +kernel, by decide +kernel⟩, List.mem_of_getElem? (i := 132) (by decide +kernel), List.mem_of_getElem? (i := 590) (by decide +kernel), List.mem_of_getElem? (i := 591) (by decide +kernel)⟩
theorem lw_p33 : lw_okq (⟨"LensTable$Sight", "highOf", "(LLensTable$Stand;J)J"⟩, 2) := ⟨⟨by decide +kernel, by decide +kernel⟩, List.mem_of_getElem? (i := 132) (by decide +kernel), List.mem_of_getElem? (i := 600) (by decide +kernel), List.mem_of_getElem? (i := 601) (by decide +kernel)⟩
theorem lw_p34 : lw_okq (⟨"LensTable", "studiosRefusal", "(III)I"⟩, 13) := ⟨⟨by decide +kernel, by decide +kernel⟩, List.mem_of_getElem? (i := 17) (by decide +kernel), List.mem_of_getElem? (i := 625) (by decide +kernel), List.mem_of_getElem? (i := 626) (by decide +kernel)⟩
theorem lw_p35 : lw_okq (⟨"LensTable", "areStudios", "(III)Z"⟩, 13) := ⟨⟨by decide +kernel, by decide +kernel⟩, List.mem_of_getElem? (i := 17) (by decide +kernel), List.mem_of_getElem? (i := 629) (by decide +kernel), List.mem_of_getElem? (i := 630) (by decide +kernel)⟩
theorem lw_p36 : lw_okq (⟨"LensTable", "readStudio", "(III)V"⟩, 13) := ⟨⟨by decide +kernel, by decide +kernel⟩, List.mem_of_getElem? (i := 17) (by decide +kernel), List.mem_of_getElem? (i := 633) (by decide +kernel), List.mem_of_getElem? (i := 634) (by decide +kernel)⟩
theorem lw_p37 : lw_okq (⟨"LensTable", "painterMisfit", "(LLensTable$Trace;)I"⟩, 13) := ⟨⟨by decide +kernel, by decide +kernel⟩, List.mem_of_getElem? (i := 17) (by decide +kernel), List.mem_of_getElem? (i := 637) (by decide +kernel), List.mem_of_getElem? (i := 638) (by decide +kernel)⟩
theorem lw_p38 : lw_okq (⟨"LensTable$Stand", "sees", "(LLensTable$Thing;)Z"⟩, 4) := ⟨⟨by decide +kernel, by decide +kernel⟩, List.mem_of_getElem? (i := 146) (by decide +kernel), List.mem_of_getElem? (i := 641) (by decide +kernel), List.mem_of_getElem? (i := 642) (by decide +kernel)⟩
theorem lw_p39 : lw_okq (⟨"LensTable", "painterApart", "(LLensTable$Trace;I)I"⟩, 13) := ⟨⟨by decide +kernel, by decide +kernel⟩, List.mem_of_getElem? (i := 17) (by decide +kernel), List.mem_of_getElem? (i := 645) (by decide +kernel), List.mem_of_getElem? (i := 646) (by decide +kernel)⟩
theorem lw_p40 : lw_okq (⟨"LensTable$Stand", "across", "(LLensTable$Thing;)I"⟩, 4) := ⟨⟨by decide +kernel, by decide +kernel⟩, List.mem_of_getElem? (i := 146) (by decide +kernel), List.mem_of_getElem? (i := 649) (by decide +kernel), List.mem_of_getElem? (i := 650) (by decide +kernel)⟩
theorem lw_p41 : lw_okq (⟨"LensTable$Stand", "up", "(LLensTable$Thing;)I"⟩, 4) := ⟨⟨by decide +kernel, by decide +kernel⟩, List.mem_of_getElem? (i := 146) (by decide +kernel), List.mem_of_getElem? (i := 655) (by decide +kernel), List.mem_of_getElem? (i := 656) (by decide +kernel)⟩
theorem lw_p42 : lw_okq (⟨"LensTable", "hasPainterMade", "(LLensTable$Trace;I)Z"⟩, 13) := ⟨⟨by decide +kernel, by decide +kernel⟩, List.mem_of_getElem? (i := 17) (by decide +kernel), List.mem_of_getElem? (i := 660) (by decide +kernel), List.mem_of_getElem? (i := 661) (by decide +kernel)⟩
theorem lw_p43 : lw_okq (⟨"LensTable", "isPainterNear", "(LLensTable$Trace;II)Z"⟩, 13) := ⟨⟨by decide +kernel, by decide +kernel⟩, List.mem_of_getElem? (i := 17) (by decide +kernel), List.mem_of_getElem? (i := 664) (by decide +kernel), List.mem_of_getElem? (i := 665) (by decide +kernel)⟩
theorem lw_p44 : lw_okq (⟨"LensTable", "bestStudio", "(LLensTable$Trace;III)I"⟩, 13) := ⟨⟨by decide +kernel, by decide +kernel⟩, List.mem_of_getElem? (i := 17) (by decide +kernel), List.mem_of_getElem? (i := 672) (by decide +kernel), List.mem_of_getElem? (i := 673) (by decide +kernel)⟩
theorem lw_p45 : lw_okq (⟨"LensTable", "studiosThatMade", "(LLensTable$Trace;IIII)I"⟩, 13) := ⟨⟨by decide +kernel, by decide +kernel⟩, List.mem_of_getElem? (i := 17) (by decide +kernel), List.mem_of_getElem? (i := 676) (by decide +kernel), List.mem_of_getElem? (i := 677) (by decide +kernel)⟩
theorem lw_p46 : lw_okq (⟨"LensTable", "marksOfNoStudio", "(LLensTable$Trace;IIII)I"⟩, 13) := ⟨⟨by decide +kernel, by decide +kernel⟩, List.mem_of_getElem? (i := 17) (by decide +kernel), List.mem_of_getElem? (i := 680) (by decide +kernel), List.mem_of_getElem? (i := 681) (by decide +kernel)⟩
theorem lw_p47 : lw_okq (⟨"LensTable", "kindOf", "(I)I"⟩, 13) := ⟨⟨by decide +kernel, by decide +kernel⟩, List.mem_of_getElem? (i := 17) (by decide +kernel), List.mem_of_getElem? (i := 705) (by decide +kernel), List.mem_of_getElem? (i := 706) (by decide +kernel)⟩
def lw_privs_3 : List (MethodName × Nat) := [(⟨"LensTable$Sight", "take", "(LLensTable$Stand;LLensTable$Stand;JJ)Z"⟩, 2), (⟨"LensTable$Sight", "highOf", "(LLensTable$Stand;J)J"⟩, 2), (⟨"LensTable", "studiosRefusal", "(III)I"⟩, 13), (⟨"LensTable", "areStudios", "(III)Z"⟩, 13), (⟨"LensTable", "readStudio", "(III)V"⟩, 13), (⟨"LensTable", "painterMisfit", "(LLensTable$Trace;)I"⟩, 13), (⟨"LensTable$Stand", "sees", "(LLensTable$Thing;)Z"⟩, 4), (⟨"LensTable", "painterApart", "(LLensTable$Trace;I)I"⟩, 13), (⟨"LensTable$Stand", "across", "(LLensTable$Thing;)I"⟩, 4), (⟨"LensTable$Stand", "up", "(LLensTable$Thing;)I"⟩, 4), (⟨"LensTable", "hasPainterMade", "(LLensTable$Trace;I)Z"⟩, 13), (⟨"LensTable", "isPainterNear", "(LLensTable$Trace;II)Z"⟩, 13), (⟨"LensTable", "bestStudio", "(LLensTable$Trace;III)I"⟩, 13), (⟨"LensTable", "studiosThatMade", "(LLensTable$Trace;IIII)I"⟩, 13), (⟨"LensTable", "marksOfNoStudio", "(LLensTable$Trace;IIII)I"⟩, 13), (⟨"LensTable", "kindOf", "(I)I"⟩, 13)]
theorem lw_r3 : ∀ q ∈ lw_privs_3, lw_okq q := List.forall_mem_cons.mpr ⟨lw_p32, List.forall_mem_cons.mpr ⟨lw_p33, List.forall_mem_cons.mpr ⟨lw_p34, List.forall_mem_cons.mpr ⟨lw_p35, List.forall_mem_cons.mpr ⟨lw_p36, List.forall_mem_cons.mpr ⟨lw_p37, List.forall_mem_cons.mpr ⟨lw_p38, List.forall_mem_cons.mpr ⟨lw_p39, List.forall_mem_cons.mpr ⟨lw_p40, List.forall_mem_cons.mpr ⟨lw_p41, List.forall_mem_cons.mpr ⟨lw_p42, List.forall_mem_cons.mpr ⟨lw_p43, List.forall_mem_cons.mpr ⟨lw_p44, List.forall_mem_cons.mpr ⟨lw_p45, List.forall_mem_cons.mpr ⟨lw_p46, List.forall_mem_cons.mpr ⟨lw_p47, fun _ h => absurd h List.not_mem_nil⟩⟩⟩⟩⟩⟩⟩⟩⟩⟩⟩⟩⟩⟩⟩⟩
theorem lw_p48 : lw_okq (⟨"LensTable$Bodies", "face", "(III)V"⟩, 5) := ⟨⟨by decide +kernel, by decide +kernel⟩, List.mem_of_getElem? (i := 173) (by decide +kernel), List.mem_of_getElem? (i := 717) (by decide +kernel), List.mem_of_getElem? (i := 718) (by decide +kernel)⟩
theorem lw_p49 : lw_okq (⟨"LensTable$Bodies", "size", "(I)I"⟩, 5) := ⟨⟨by decide +kernel, by decide +kernel⟩, List.mem_of_getElem? (i := 173) (by decide +kernel), List.mem_of_getElem? (i := 721) (by decide +kernel), List.mem_of_getElem? (i := 722) (by decide +kernel)⟩
theorem lw_p50 : lw_okq (⟨"LensTable$Bodies", "sizeOfSeen", "()I"⟩, 5) := ⟨⟨by decide +kernel, by decide +kernel⟩, List.mem_of_getElem? (i := 173) (by decide +kernel), List.mem_of_getElem? (i := 725) (by decide +kernel), List.mem_of_getElem? (i := 726) (by decide +kernel)⟩
theorem lw_p51 : lw_okq (⟨"LensTable$Bodies", "begin", "(I)V"⟩, 5) := ⟨⟨by decide +kernel, by decide +kernel⟩, List.mem_of_getElem? (i := 173) (by decide +kernel), List.mem_of_getElem? (i := 729) (by decide +kernel), List.mem_of_getElem? (i := 730) (by decide +kernel)⟩
theorem lw_p52 : lw_okq (⟨"LensTable$Bodies", "sizeLent", "()I"⟩, 5) := ⟨⟨by decide +kernel, by decide +kernel⟩, List.mem_of_getElem? (i := 173) (by decide +kernel), List.mem_of_getElem? (i := 733) (by decide +kernel), List.mem_of_getElem? (i := 734) (by decide +kernel)⟩
theorem lw_p53 : lw_okq (⟨"LensTable$Bodies", "sizeOfSharp", "()I"⟩, 5) := ⟨⟨by decide +kernel, by decide +kernel⟩, List.mem_of_getElem? (i := 173) (by decide +kernel), List.mem_of_getElem? (i := 737) (by decide +kernel), List.mem_of_getElem? (i := 738) (by decide +kernel)⟩
theorem lw_p54 : lw_okq (⟨"LensTable$Bodies", "sizeOfLost", "()I"⟩, 5) := ⟨⟨by decide +kernel, by decide +kernel⟩, List.mem_of_getElem? (i := 173) (by decide +kernel), List.mem_of_getElem? (i := 741) (by decide +kernel), List.mem_of_getElem? (i := 742) (by decide +kernel)⟩
theorem lw_p55 : lw_okq (⟨"LensTable$Bodies", "signOfLost", "()I"⟩, 5) := ⟨⟨by decide +kernel, by decide +kernel⟩, List.mem_of_getElem? (i := 173) (by decide +kernel), List.mem_of_getElem? (i := 745) (by decide +kernel), List.mem_of_getElem? (i := 746) (by decide +kernel)⟩
theorem lw_p56 : lw_okq (⟨"LensTable$Bodies", "signLent", "()I"⟩, 5) := ⟨⟨by decide +kernel, by decide +kernel⟩, List.mem_of_getElem? (i := 173) (by decide +kernel), List.mem_of_getElem? (i := 749) (by decide +kernel), List.mem_of_getElem? (i := 750) (by decide +kernel)⟩
theorem lw_p57 : lw_okq (⟨"LensTable$Bodies", "sign", "(I)I"⟩, 5) := ⟨⟨by decide +kernel, by decide +kernel⟩, List.mem_of_getElem? (i := 173) (by decide +kernel), List.mem_of_getElem? (i := 753) (by decide +kernel), List.mem_of_getElem? (i := 754) (by decide +kernel)⟩
theorem lw_p58 : lw_okq (⟨"LensTable$Bodies", "signOfSeen", "()I"⟩, 5) := ⟨⟨by decide +kernel, by decide +kernel⟩, List.mem_of_getElem? (i := 173) (by decide +kernel), List.mem_of_getElem? (i := 757) (by decide +kernel), List.mem_of_getElem? (i := 758) (by decide +kernel)⟩
theorem lw_p59 : lw_okq (⟨"LensTable$Bodies", "signOfSharp", "()I"⟩, 5) := ⟨⟨by decide +kernel, by decide +kernel⟩, List.mem_of_getElem? (i := 173) (by decide +kernel), List.mem_of_getElem? (i := 761) (by decide +kernel), List.mem_of_getElem? (i := 762) (by decide +kernel)⟩
theorem lw_p60 : lw_okq (⟨"LensTable", "sheetsLaid", "()I"⟩, 13) := ⟨⟨by decide +kernel, by decide +kernel⟩, List.mem_of_getElem? (i := 17) (by decide +kernel), List.mem_of_getElem? (i := 773) (by decide +kernel), List.mem_of_getElem? (i := 774) (by decide +kernel)⟩
theorem lw_p61 : lw_okq (⟨"LensTable", "thingsToldAs", "(I)I"⟩, 13) := ⟨⟨by decide +kernel, by decide +kernel⟩, List.mem_of_getElem? (i := 17) (by decide +kernel), List.mem_of_getElem? (i := 777) (by decide +kernel), List.mem_of_getElem? (i := 778) (by decide +kernel)⟩
theorem lw_p62 : lw_okq (⟨"LensTable", "marksOnPaper", "()I"⟩, 13) := ⟨⟨by decide +kernel, by decide +kernel⟩, List.mem_of_getElem? (i := 17) (by decide +kernel), List.mem_of_getElem? (i := 781) (by decide +kernel), List.mem_of_getElem? (i := 782) (by decide +kernel)⟩
theorem lw_p63 : lw_okq (⟨"LensTable", "tracesMarked", "()I"⟩, 13) := ⟨⟨by decide +kernel, by decide +kernel⟩, List.mem_of_getElem? (i := 17) (by decide +kernel), List.mem_of_getElem? (i := 785) (by decide +kernel), List.mem_of_getElem? (i := 786) (by decide +kernel)⟩
def lw_privs_4 : List (MethodName × Nat) := [(⟨"LensTable$Bodies", "face", "(III)V"⟩, 5), (⟨"LensTable$Bodies", "size", "(I)I"⟩, 5), (⟨"LensTable$Bodies", "sizeOfSeen", "()I"⟩, 5), (⟨"LensTable$Bodies", "begin", "(I)V"⟩, 5), (⟨"LensTable$Bodies", "sizeLent", "()I"⟩, 5), (⟨"LensTable$Bodies", "sizeOfSharp", "()I"⟩, 5), (⟨"LensTable$Bodies", "sizeOfLost", "()I"⟩, 5), (⟨"LensTable$Bodies", "signOfLost", "()I"⟩, 5), (⟨"LensTable$Bodies", "signLent", "()I"⟩, 5), (⟨"LensTable$Bodies", "sign", "(I)I"⟩, 5), (⟨"LensTable$Bodies", "signOfSeen", "()I"⟩, 5), (⟨"LensTable$Bodies", "signOfSharp", "()I"⟩, 5), (⟨"LensTable", "sheetsLaid", "()I"⟩, 13), (⟨"LensTable", "thingsToldAs", "(I)I"⟩, 13), (⟨"LensTable", "marksOnPaper", "()I"⟩, 13), (⟨"LensTable", "tracesMarked", "()I"⟩, 13)]
theorem lw_r4 : ∀ q ∈ lw_privs_4, lw_okq q := List.forall_mem_cons.mpr ⟨lw_p48, List.forall_mem_cons.mpr ⟨lw_p49, List.forall_mem_cons.mpr ⟨lw_p50, List.forall_mem_cons.mpr ⟨lw_p51, List.forall_mem_cons.mpr ⟨lw_p52, List.forall_mem_cons.mpr ⟨lw_p53, List.forall_mem_cons.mpr ⟨lw_p54, List.forall_mem_cons.mpr ⟨lw_p55, List.forall_mem_cons.mpr ⟨lw_p56, List.forall_mem_cons.mpr ⟨lw_p57, List.forall_mem_cons.mpr ⟨lw_p58, List.forall_mem_cons.mpr ⟨lw_p59, List.forall_mem_cons.mpr ⟨lw_p60, List.forall_mem_cons.mpr ⟨lw_p61, List.forall_mem_cons.mpr ⟨lw_p62, List.forall_mem_cons.mpr ⟨lw_p63, fun _ h => absurd h List.not_mem_nil⟩⟩⟩⟩⟩⟩⟩⟩⟩⟩⟩⟩⟩⟩⟩⟩
theorem lw_p64 : lw_okq (⟨"LensTableModel", "found", "(I)I"⟩, 29) := ⟨⟨by decide +kernel, by decide +kernel⟩, List.mem_of_getElem? (i := 793) (by decide +kernel), List.mem_of_getElem? (i := 900) (by decide +kernel), List.mem_of_getElem? (i := 901) (by decide +kernel)⟩
theorem lw_p65 : lw_okq (⟨"LensTableModel", "isThing", "(I)Z"⟩, 29) := ⟨⟨by decide +kernel, by decide +kernel⟩, List.mem_of_getElem? (i := 793) (by decide +kernel), List.mem_of_getElem? (i := 950) (by decide +kernel), List.mem_of_getElem? (i := 951) (by decide +kernel)⟩
theorem lw_p66 : lw_okq (⟨"LensTableModel", "firstOf", "(II)I"⟩, 29) := ⟨⟨by decide +kernel, by decide +kernel⟩, List.mem_of_getElem? (i := 793) (by decide +kernel), List.mem_of_getElem? (i := 958) (by decide +kernel), List.mem_of_getElem? (i := 959) (by decide +kernel)⟩
theorem lw_p67 : lw_okq (⟨"LensTableModel", "columnOf", "(II)I"⟩, 29) := ⟨⟨by decide +kernel, by decide +kernel⟩, List.mem_of_getElem? (i := 793) (by decide +kernel), List.mem_of_getElem? (i := 962) (by decide +kernel), List.mem_of_getElem? (i := 963) (by decide +kernel)⟩
theorem lw_p68 : lw_okq (⟨"LensTableModel", "farBy", "(II)I"⟩, 29) := ⟨⟨by decide +kernel, by decide +kernel⟩, List.mem_of_getElem? (i := 793) (by decide +kernel), List.mem_of_getElem? (i := 966) (by decide +kernel), List.mem_of_getElem? (i := 967) (by decide +kernel)⟩
theorem lw_p69 : lw_okq (⟨"LensTableModel", "acrossOf", "(I)I"⟩, 29) := ⟨⟨by decide +kernel, by decide +kernel⟩, List.mem_of_getElem? (i := 793) (by decide +kernel), List.mem_of_getElem? (i := 970) (by decide +kernel), List.mem_of_getElem? (i := 971) (by decide +kernel)⟩
theorem lw_p70 : lw_okq (⟨"LensTableModel", "downOf", "(I)I"⟩, 29) := ⟨⟨by decide +kernel, by decide +kernel⟩, List.mem_of_getElem? (i := 793) (by decide +kernel), List.mem_of_getElem? (i := 974) (by decide +kernel), List.mem_of_getElem? (i := 975) (by decide +kernel)⟩
theorem lw_p71 : lw_okq (⟨"LensTableModel", "blurOf", "(I)I"⟩, 29) := ⟨⟨by decide +kernel, by decide +kernel⟩, List.mem_of_getElem? (i := 793) (by decide +kernel), List.mem_of_getElem? (i := 978) (by decide +kernel), List.mem_of_getElem? (i := 979) (by decide +kernel)⟩
theorem lw_p72 : lw_okq (⟨"LensTableModel", "blurBy", "(II)I"⟩, 29) := ⟨⟨by decide +kernel, by decide +kernel⟩, List.mem_of_getElem? (i := 793) (by decide +kernel), List.mem_of_getElem? (i := 982) (by decide +kernel), List.mem_of_getElem? (i := 983) (by decide +kernel)⟩
theorem lw_p73 : lw_okq (⟨"LensTableModel", "isSeen", "(I)Z"⟩, 29) := ⟨⟨by decide +kernel, by decide +kernel⟩, List.mem_of_getElem? (i := 793) (by decide +kernel), List.mem_of_getElem? (i := 1016) (by decide +kernel), List.mem_of_getElem? (i := 1017) (by decide +kernel)⟩
theorem lw_p74 : lw_okq (⟨"LensTableModel", "join", "(II)V"⟩, 29) := ⟨⟨by decide +kernel, by decide +kernel⟩, List.mem_of_getElem? (i := 793) (by decide +kernel), List.mem_of_getElem? (i := 1030) (by decide +kernel), List.mem_of_getElem? (i := 1031) (by decide +kernel)⟩
theorem lw_p75 : lw_okq (⟨"LensTableModel", "middle", "()I"⟩, 29) := ⟨⟨by decide +kernel, by decide +kernel⟩, List.mem_of_getElem? (i := 793) (by decide +kernel), List.mem_of_getElem? (i := 1034) (by decide +kernel), List.mem_of_getElem? (i := 1035) (by decide +kernel)⟩
theorem lw_p76 : lw_okq (⟨"LensTableModel", "sumFrom", "(I)I"⟩, 29) := ⟨⟨by decide +kernel, by decide +kernel⟩, List.mem_of_getElem? (i := 793) (by decide +kernel), List.mem_of_getElem? (i := 1038) (by decide +kernel), List.mem_of_getElem? (i := 1039) (by decide +kernel)⟩
theorem lw_p77 : lw_okq (⟨"LensTableModel", "goRound", "(I)Z"⟩, 29) := ⟨⟨by decide +kernel, by decide +kernel⟩, List.mem_of_getElem? (i := 793) (by decide +kernel), List.mem_of_getElem? (i := 1046) (by decide +kernel), List.mem_of_getElem? (i := 1047) (by decide +kernel)⟩
theorem lw_p78 : lw_okq (⟨"LensTableModel", "see", "(II)Z"⟩, 29) := ⟨⟨by decide +kernel, by decide +kernel⟩, List.mem_of_getElem? (i := 793) (by decide +kernel), List.mem_of_getElem? (i := 1066) (by decide +kernel), List.mem_of_getElem? (i := 1067) (by decide +kernel)⟩
theorem lw_p79 : lw_okq (⟨"LensTableModel", "lookStudios", "(IIII)I"⟩, 29) := ⟨⟨by decide +kernel, by decide +kernel⟩, List.mem_of_getElem? (i := 793) (by decide +kernel), List.mem_of_getElem? (i := 1084) (by decide +kernel), List.mem_of_getElem? (i := 1085) (by decide +kernel)⟩
def lw_privs_5 : List (MethodName × Nat) := [(⟨"LensTableModel", "found", "(I)I"⟩, 29), (⟨"LensTableModel", "isThing", "(I)Z"⟩, 29), (⟨"LensTableModel", "firstOf", "(II)I"⟩, 29), (⟨"LensTableModel", "columnOf", "(II)I"⟩, 29), (⟨"LensTableModel", "farBy", "(II)I"⟩, 29), (⟨"LensTableModel", "acrossOf", "(I)I"⟩, 29), (⟨"LensTableModel", "downOf", "(I)I"⟩, 29), (⟨"LensTableModel", "blurOf", "(I)I"⟩, 29), (⟨"LensTableModel", "blurBy", "(II)I"⟩, 29), (⟨"LensTableModel", "isSeen", "(I)Z"⟩, 29), (⟨"LensTableModel", "join", "(II)V"⟩, 29), (⟨"LensTableModel", "middle", "()I"⟩, 29), (⟨"LensTableModel", "sumFrom", "(I)I"⟩, 29), (⟨"LensTableModel", "goRound", "(I)Z"⟩, 29), (⟨"LensTableModel", "see", "(II)Z"⟩, 29), (⟨"LensTableModel", "lookStudios", "(IIII)I"⟩, 29)]
theorem lw_r5 : ∀ q ∈ lw_privs_5, lw_okq q := List.forall_mem_cons.mpr ⟨lw_p64, List.forall_mem_cons.mpr ⟨lw_p65, List.forall_mem_cons.mpr ⟨lw_p66, List.forall_mem_cons.mpr ⟨lw_p67, List.forall_mem_cons.mpr ⟨lw_p68, List.forall_mem_cons.mpr ⟨lw_p69, List.forall_mem_cons.mpr ⟨lw_p70, List.forall_mem_cons.mpr ⟨lw_p71, List.forall_mem_cons.mpr ⟨lw_p72, List.forall_mem_cons.mpr ⟨lw_p73, List.forall_mem_cons.mpr ⟨lw_p74, List.forall_mem_cons.mpr ⟨lw_p75, List.forall_mem_cons.mpr ⟨lw_p76, List.forall_mem_cons.mpr ⟨lw_p77, List.forall_mem_cons.mpr ⟨lw_p78, List.forall_mem_cons.mpr ⟨lw_p79, fun _ h => absurd h List.not_mem_nil⟩⟩⟩⟩⟩⟩⟩⟩⟩⟩⟩⟩⟩⟩⟩⟩
theorem lw_p80 : lw_okq (⟨"LensTableModel", "misfitOf", "(II)I"⟩, 29) := ⟨⟨by decide +kernel, by decide +kernel⟩, List.mem_of_getElem? (i := 793) (by decide +kernel), List.mem_of_getElem? (i := 1088) (by decide +kernel), List.mem_of_getElem? (i := 1089) (by decide +kernel)⟩
theorem lw_p81 : lw_okq (⟨"LensTableModel", "puts", "(III)Z"⟩, 29) := ⟨⟨by decide +kernel, by decide +kernel⟩, List.mem_of_getElem? (i := 793) (by decide +kernel), List.mem_of_getElem? (i := 1092) (by decide +kernel), List.mem_of_getElem? (i := 1093) (by decide +kernel)⟩
theorem lw_p82 : lw_okq (⟨"LensTableModel", "isMade", "(III)Z"⟩, 29) := ⟨⟨by decide +kernel, by decide +kernel⟩, List.mem_of_getElem? (i := 793) (by decide +kernel), List.mem_of_getElem? (i := 1096) (by decide +kernel), List.mem_of_getElem? (i := 1097) (by decide +kernel)⟩
theorem lw_p83 : lw_okq (⟨"LensTableModel", "kindOf", "(I)I"⟩, 29) := ⟨⟨by decide +kernel, by decide +kernel⟩, List.mem_of_getElem? (i := 793) (by decide +kernel), List.mem_of_getElem? (i := 1121) (by decide +kernel), List.mem_of_getElem? (i := 1122) (by decide +kernel)⟩
theorem lw_p84 : lw_okq (⟨"LensTableModel", "markOf", "(II)I"⟩, 29) := ⟨⟨by decide +kernel, by decide +kernel⟩, List.mem_of_getElem? (i := 793) (by decide +kernel), List.mem_of_getElem? (i := 1136) (by decide +kernel), List.mem_of_getElem? (i := 1137) (by decide +kernel)⟩
theorem lw_p85 : lw_okq (⟨"LensTableModel", "began", "(I)V"⟩, 29) := ⟨⟨by decide +kernel, by decide +kernel⟩, List.mem_of_getElem? (i := 793) (by decide +kernel), List.mem_of_getElem? (i := 1140) (by decide +kernel), List.mem_of_getElem? (i := 1141) (by decide +kernel)⟩
theorem lw_p86 : lw_okq (⟨"LensTableModel", "seenSize", "(II)I"⟩, 29) := ⟨⟨by decide +kernel, by decide +kernel⟩, List.mem_of_getElem? (i := 793) (by decide +kernel), List.mem_of_getElem? (i := 1144) (by decide +kernel), List.mem_of_getElem? (i := 1145) (by decide +kernel)⟩
def lw_privs_6 : List (MethodName × Nat) := [(⟨"LensTableModel", "misfitOf", "(II)I"⟩, 29), (⟨"LensTableModel", "puts", "(III)Z"⟩, 29), (⟨"LensTableModel", "isMade", "(III)Z"⟩, 29), (⟨"LensTableModel", "kindOf", "(I)I"⟩, 29), (⟨"LensTableModel", "markOf", "(II)I"⟩, 29), (⟨"LensTableModel", "began", "(I)V"⟩, 29), (⟨"LensTableModel", "seenSize", "(II)I"⟩, 29)]
theorem lw_r6 : ∀ q ∈ lw_privs_6, lw_okq q := List.forall_mem_cons.mpr ⟨lw_p80, List.forall_mem_cons.mpr ⟨lw_p81, List.forall_mem_cons.mpr ⟨lw_p82, List.forall_mem_cons.mpr ⟨lw_p83, List.forall_mem_cons.mpr ⟨lw_p84, List.forall_mem_cons.mpr ⟨lw_p85, List.forall_mem_cons.mpr ⟨lw_p86, fun _ h => absurd h List.not_mem_nil⟩⟩⟩⟩⟩⟩⟩
def lw_privs : List (MethodName × Nat) := lw_privs_1 ++ (lw_privs_2 ++ (lw_privs_3 ++ (lw_privs_4 ++ (lw_privs_5 ++ (lw_privs_6)))))
def lw_tbl : List Cond := k2_sels lw_privs ++ tables_1
theorem lw_privs_ok : ∀ q ∈ lw_privs, lw_okq q := by
  show ∀ q ∈ lw_privs_1 ++ (lw_privs_2 ++ (lw_privs_3 ++ (lw_privs_4 ++ (lw_privs_5 ++ (lw_privs_6))))), lw_okq q
  exact List.forall_mem_append.mpr ⟨lw_r1, List.forall_mem_append.mpr ⟨lw_r2, List.forall_mem_append.mpr ⟨lw_r3, List.forall_mem_append.mpr ⟨lw_r4, List.forall_mem_append.mpr ⟨lw_r5, lw_r6⟩⟩⟩⟩⟩
end
section
def RX0 : String := "LensTable$Bodies"
def TX0 : u_T := fun k => match k with
  | 0 => ("LensTable$Bodies", "begun", "[I", true)
  | 1 => ("LensTable$Bodies", "many", "I", false)
  | 2 => ("LensTable$Bodies", "z", "I", false)
  | 3 => ("LensTable$Bodies", "column", "I", false)
  | _ => ("LensTable$Bodies", "blur", "I", false)
def tyX0 : Nat → FieldType := fun k => match k with
  | 0 => .array .int
  | 1 => .int
  | 2 => .int
  | 3 => .int
  | _ => .int
abbrev wsX00 : List Cond := u_ws RX0 TX0 5
theorem nmX0 : ∀ a, a < 5 → ∀ b, b < 5 → a ≠ b → (TX0 a).2.1 ≠ (TX0 b).2.1 := by decide +kernel
theorem tyX0_ok : ∀ k, k < 5 → parseFieldDescriptor (TX0 k).2.2.1 = some (tyX0 k) := by decide +kernel
abbrev cX0_init : ByteArray := prog_2_method_1_code
def yX0_init : MethodName := ⟨RX0, "<init>", "()V"⟩
abbrev cX0_face : ByteArray := prog_2_method_2_code
def yX0_face : MethodName := ⟨RX0, "face", "(III)V"⟩
abbrev cX0_begin : ByteArray := prog_2_method_3_code
def yX0_begin : MethodName := ⟨RX0, "begin", "(I)V"⟩
abbrev cX0_size : ByteArray := prog_2_method_4_code
def yX0_size : MethodName := ⟨RX0, "size", "(I)I"⟩
abbrev cX0_sign : ByteArray := prog_2_method_5_code
def yX0_sign : MethodName := ⟨RX0, "sign", "(I)I"⟩
abbrev cX0_sizeLent : ByteArray := prog_2_method_6_code
def yX0_sizeLent : MethodName := ⟨RX0, "sizeLent", "()I"⟩
abbrev cX0_sizeOfSeen : ByteArray := prog_2_method_7_code
def yX0_sizeOfSeen : MethodName := ⟨RX0, "sizeOfSeen", "()I"⟩
abbrev cX0_sizeOfSharp : ByteArray := prog_2_method_8_code
def yX0_sizeOfSharp : MethodName := ⟨RX0, "sizeOfSharp", "()I"⟩
abbrev cX0_sizeOfLost : ByteArray := prog_2_method_9_code
def yX0_sizeOfLost : MethodName := ⟨RX0, "sizeOfLost", "()I"⟩
abbrev cX0_signLent : ByteArray := prog_2_method_10_code
def yX0_signLent : MethodName := ⟨RX0, "signLent", "()I"⟩
abbrev cX0_signOfSeen : ByteArray := prog_2_method_11_code
def yX0_signOfSeen : MethodName := ⟨RX0, "signOfSeen", "()I"⟩
abbrev cX0_signOfSharp : ByteArray := prog_2_method_12_code
def yX0_signOfSharp : MethodName := ⟨RX0, "signOfSharp", "()I"⟩
abbrev cX0_signOfLost : ByteArray := prog_2_method_13_code
def yX0_signOfLost : MethodName := ⟨RX0, "signOfLost", "()I"⟩
def RX1 : String := "LensTable$Joint"
def TX1 : u_T := fun k => match k with
  | 0 => ("LensTable$Joint", "across", "LLensTable$Row;", true)
  | _ => ("LensTable$Joint", "up", "LLensTable$Row;", true)
def tyX1 : Nat → FieldType := fun k => match k with
  | 0 => .object "LensTable$Row"
  | _ => .object "LensTable$Row"
abbrev wsX10 : List Cond := u_ws RX1 TX1 2
theorem nmX1 : ∀ a, a < 2 → ∀ b, b < 2 → a ≠ b → (TX1 a).2.1 ≠ (TX1 b).2.1 := by decide +kernel
theorem tyX1_ok : ∀ k, k < 2 → parseFieldDescriptor (TX1 k).2.2.1 = some (tyX1 k) := by decide +kernel
abbrev cX1_init : ByteArray := prog_3_method_1_code
def yX1_init : MethodName := ⟨RX1, "<init>", "()V"⟩
abbrev cX1_take : ByteArray := prog_3_method_2_code
def yX1_take : MethodName := ⟨RX1, "take", "(LLensTable$Trace;LLensTable$Trace;)V"⟩
abbrev cX1_common : ByteArray := prog_3_method_3_code
def yX1_common : MethodName := ⟨RX1, "common", "()I"⟩
abbrev cX1_acrossShift : ByteArray := prog_3_method_4_code
def yX1_acrossShift : MethodName := ⟨RX1, "acrossShift", "()I"⟩
abbrev cX1_upShift : ByteArray := prog_3_method_5_code
def yX1_upShift : MethodName := ⟨RX1, "upShift", "()I"⟩
abbrev cX1_misfit : ByteArray := prog_3_method_6_code
def yX1_misfit : MethodName := ⟨RX1, "misfit", "()I"⟩
def RX2 : String := "LensTable$Picture"
def TX2 : u_T := fun k => match k with
  | 0 => ("LensTable$Picture", "first", "I", false)
  | 1 => ("LensTable$Picture", "column", "I", false)
  | 2 => ("LensTable$Picture", "e", "I", false)
  | 3 => ("LensTable$Picture", "x", "I", false)
  | 4 => ("LensTable$Picture", "y", "I", false)
  | _ => ("LensTable$Picture", "blur", "I", false)
def tyX2 : Nat → FieldType := fun k => match k with
  | 0 => .int
  | 1 => .int
  | 2 => .int
  | 3 => .int
  | 4 => .int
  | _ => .int
abbrev wsX20 : List Cond := u_ws RX2 TX2 6
theorem nmX2 : ∀ a, a < 6 → ∀ b, b < 6 → a ≠ b → (TX2 a).2.1 ≠ (TX2 b).2.1 := by decide +kernel
theorem tyX2_ok : ∀ k, k < 6 → parseFieldDescriptor (TX2 k).2.2.1 = some (tyX2 k) := by decide +kernel
abbrev cX2_init : ByteArray := prog_4_method_1_code
def yX2_init : MethodName := ⟨RX2, "<init>", "()V"⟩
abbrev cX2_take : ByteArray := prog_4_method_2_code
def yX2_take : MethodName := ⟨RX2, "take", "(LLensTable$Room;LLensTable$Thing;)V"⟩
def RX3 : String := "LensTable$Ring"
def TX3 : u_T := fun k => match k with
  | 0 => ("LensTable$Ring", "across", "[I", true)
  | 1 => ("LensTable$Ring", "up", "[I", true)
  | _ => ("LensTable$Ring", "misfit", "I", false)
def tyX3 : Nat → FieldType := fun k => match k with
  | 0 => .array .int
  | 1 => .array .int
  | _ => .int
abbrev wsX30 : List Cond := u_ws RX3 TX3 3
theorem nmX3 : ∀ a, a < 3 → ∀ b, b < 3 → a ≠ b → (TX3 a).2.1 ≠ (TX3 b).2.1 := by decide +kernel
theorem tyX3_ok : ∀ k, k < 3 → parseFieldDescriptor (TX3 k).2.2.1 = some (tyX3 k) := by decide +kernel
abbrev cX3_init : ByteArray := prog_5_method_1_code
def yX3_init : MethodName := ⟨RX3, "<init>", "()V"⟩
abbrev cX3_take : ByteArray := prog_5_method_2_code
def yX3_take : MethodName := ⟨RX3, "take", "([LLensTable$Trace;ILLensTable$Joint;)Z"⟩
def RX4 : String := "LensTable$Room"
def TX4 : u_T := fun k => match k with
  | 0 => ("LensTable$Room", "numbers", "[I", true)
  | 1 => ("LensTable$Room", "bends", "[I", true)
  | _ => ("LensTable$Room", "blurs", "[I", true)
def tyX4 : Nat → FieldType := fun k => match k with
  | 0 => .array .int
  | 1 => .array .int
  | _ => .array .int
abbrev wsX40 : List Cond := u_ws RX4 TX4 3
theorem nmX4 : ∀ a, a < 3 → ∀ b, b < 3 → a ≠ b → (TX4 a).2.1 ≠ (TX4 b).2.1 := by decide +kernel
theorem tyX4_ok : ∀ k, k < 3 → parseFieldDescriptor (TX4 k).2.2.1 = some (tyX4 k) := by decide +kernel
abbrev cX4_init : ByteArray := prog_6_method_1_code
def yX4_init : MethodName := ⟨RX4, "<init>", "()V"⟩
abbrev cX4_firstAt : ByteArray := prog_6_method_2_code
def yX4_firstAt : MethodName := ⟨RX4, "firstAt", "(ILLensTable$Thing;)I"⟩
abbrev cX4_columnOf : ByteArray := prog_6_method_3_code
def yX4_columnOf : MethodName := ⟨RX4, "columnOf", "(I)I"⟩
abbrev cX4_columnAt : ByteArray := prog_6_method_4_code
def yX4_columnAt : MethodName := ⟨RX4, "columnAt", "(ILLensTable$Thing;)I"⟩
abbrev cX4_reach : ByteArray := prog_6_method_5_code
def yX4_reach : MethodName := ⟨RX4, "reach", "(II)I"⟩
abbrev cX4_blurBy : ByteArray := prog_6_method_6_code
def yX4_blurBy : MethodName := ⟨RX4, "blurBy", "(II)I"⟩
abbrev cX4_blurAt : ByteArray := prog_6_method_7_code
def yX4_blurAt : MethodName := ⟨RX4, "blurAt", "(ILLensTable$Thing;)I"⟩
abbrev cX4_sharpestDepth : ByteArray := prog_6_method_8_code
def yX4_sharpestDepth : MethodName := ⟨RX4, "sharpestDepth", "(LLensTable$Thing;)I"⟩
abbrev cX4_clearBlurs : ByteArray := prog_6_method_9_code
def yX4_clearBlurs : MethodName := ⟨RX4, "clearBlurs", "()V"⟩
abbrev cX4_addBlurs : ByteArray := prog_6_method_10_code
def yX4_addBlurs : MethodName := ⟨RX4, "addBlurs", "(I)V"⟩
abbrev cX4_bestBend : ByteArray := prog_6_method_11_code
def yX4_bestBend : MethodName := ⟨RX4, "bestBend", "()I"⟩
abbrev cX4_shows : ByteArray := prog_6_method_12_code
def yX4_shows : MethodName := ⟨RX4, "shows", "(LLensTable$Picture;)Z"⟩
abbrev cX4_bendsMade : ByteArray := prog_6_method_13_code
def yX4_bendsMade : MethodName := ⟨RX4, "bendsMade", "()I"⟩
def RX5 : String := "LensTable$Row"
def TX5 : u_T := fun k => match k with
  | 0 => ("LensTable$Row", "sorted", "[I", true)
  | _ => ("LensTable$Row", "many", "I", false)
def tyX5 : Nat → FieldType := fun k => match k with
  | 0 => .array .int
  | _ => .int
abbrev wsX50 : List Cond := u_ws RX5 TX5 2
theorem nmX5 : ∀ a, a < 2 → ∀ b, b < 2 → a ≠ b → (TX5 a).2.1 ≠ (TX5 b).2.1 := by decide +kernel
theorem tyX5_ok : ∀ k, k < 2 → parseFieldDescriptor (TX5 k).2.2.1 = some (tyX5 k) := by decide +kernel
abbrev cX5_init : ByteArray := prog_7_method_1_code
def yX5_init : MethodName := ⟨RX5, "<init>", "()V"⟩
abbrev cX5_insert : ByteArray := prog_7_method_2_code
def yX5_insert : MethodName := ⟨RX5, "insert", "(I)V"⟩
abbrev cX5_middle : ByteArray := prog_7_method_3_code
def yX5_middle : MethodName := ⟨RX5, "middle", "()I"⟩
abbrev cX5_misfit : ByteArray := prog_7_method_4_code
def yX5_misfit : MethodName := ⟨RX5, "misfit", "()I"⟩
def RX6 : String := "LensTable$Sheet"
def TX6 : u_T := fun k => match k with
  | 0 => ("LensTable$Sheet", "items", "[I", true)
  | 1 => ("LensTable$Sheet", "lane", "I", false)
  | _ => ("LensTable$Sheet", "length", "I", false)
def tyX6 : Nat → FieldType := fun k => match k with
  | 0 => .array .int
  | 1 => .int
  | _ => .int
abbrev wsX60 : List Cond := u_ws RX6 TX6 3
theorem nmX6 : ∀ a, a < 3 → ∀ b, b < 3 → a ≠ b → (TX6 a).2.1 ≠ (TX6 b).2.1 := by decide +kernel
theorem tyX6_ok : ∀ k, k < 3 → parseFieldDescriptor (TX6 k).2.2.1 = some (tyX6 k) := by decide +kernel
abbrev cX6_init : ByteArray := prog_8_method_1_code
def yX6_init : MethodName := ⟨RX6, "<init>", "()V"⟩
abbrev cX6_isMissing : ByteArray := prog_8_method_2_code
def yX6_isMissing : MethodName := ⟨RX6, "isMissing", "()Z"⟩
abbrev cX6_lay : ByteArray := prog_8_method_3_code
def yX6_lay : MethodName := ⟨RX6, "lay", "(II)V"⟩
abbrev cX6_lose : ByteArray := prog_8_method_4_code
def yX6_lose : MethodName := ⟨RX6, "lose", "()I"⟩
abbrev cX6_write : ByteArray := prog_8_method_5_code
def yX6_write : MethodName := ⟨RX6, "write", "(II)I"⟩
abbrev cX6_holds : ByteArray := prog_8_method_6_code
def yX6_holds : MethodName := ⟨RX6, "holds", "(II)Z"⟩
def RX7 : String := "LensTable$Sight"
def TX7 : u_T := fun k => match k with
  | 0 => ("LensTable$Sight", "upper", "J", false)
  | _ => ("LensTable$Sight", "lower", "J", false)
def tyX7 : Nat → FieldType := fun k => match k with
  | 0 => .long
  | _ => .long
abbrev wsX70 : List Cond := u_ws RX7 TX7 2
theorem nmX7 : ∀ a, a < 2 → ∀ b, b < 2 → a ≠ b → (TX7 a).2.1 ≠ (TX7 b).2.1 := by decide +kernel
theorem tyX7_ok : ∀ k, k < 2 → parseFieldDescriptor (TX7 k).2.2.1 = some (tyX7 k) := by decide +kernel
abbrev cX7_init : ByteArray := prog_9_method_1_code
def yX7_init : MethodName := ⟨RX7, "<init>", "()V"⟩
abbrev cX7_take : ByteArray := prog_9_method_2_code
def yX7_take : MethodName := ⟨RX7, "take", "(LLensTable$Stand;LLensTable$Stand;JJ)Z"⟩
abbrev cX7_highOf : ByteArray := prog_9_method_3_code
def yX7_highOf : MethodName := ⟨RX7, "highOf", "(LLensTable$Stand;J)J"⟩
def RX8 : String := "LensTable$Stand"
def TX8 : u_T := fun k => match k with
  | 0 => ("LensTable$Stand", "u", "I", false)
  | 1 => ("LensTable$Stand", "v", "I", false)
  | 2 => ("LensTable$Stand", "w", "I", false)
  | _ => ("LensTable$Stand", "d", "I", false)
def tyX8 : Nat → FieldType := fun k => match k with
  | 0 => .int
  | 1 => .int
  | 2 => .int
  | _ => .int
abbrev wsX80 : List Cond := u_ws RX8 TX8 4
theorem nmX8 : ∀ a, a < 4 → ∀ b, b < 4 → a ≠ b → (TX8 a).2.1 ≠ (TX8 b).2.1 := by decide +kernel
theorem tyX8_ok : ∀ k, k < 4 → parseFieldDescriptor (TX8 k).2.2.1 = some (tyX8 k) := by decide +kernel
abbrev cX8_init : ByteArray := prog_10_method_1_code
def yX8_init : MethodName := ⟨RX8, "<init>", "()V"⟩
abbrev cX8_put : ByteArray := prog_10_method_2_code
def yX8_put : MethodName := ⟨RX8, "put", "(IIII)V"⟩
abbrev cX8_sees : ByteArray := prog_10_method_3_code
def yX8_sees : MethodName := ⟨RX8, "sees", "(LLensTable$Thing;)Z"⟩
abbrev cX8_across : ByteArray := prog_10_method_4_code
def yX8_across : MethodName := ⟨RX8, "across", "(LLensTable$Thing;)I"⟩
abbrev cX8_up : ByteArray := prog_10_method_5_code
def yX8_up : MethodName := ⟨RX8, "up", "(LLensTable$Thing;)I"⟩
def RX9 : String := "LensTable$Thing"
def TX9 : u_T := fun k => match k with
  | 0 => ("LensTable$Thing", "x", "I", false)
  | 1 => ("LensTable$Thing", "y", "I", false)
  | _ => ("LensTable$Thing", "z", "I", false)
def tyX9 : Nat → FieldType := fun k => match k with
  | 0 => .int
  | 1 => .int
  | _ => .int
abbrev wsX90 : List Cond := u_ws RX9 TX9 3
theorem nmX9 : ∀ a, a < 3 → ∀ b, b < 3 → a ≠ b → (TX9 a).2.1 ≠ (TX9 b).2.1 := by decide +kernel
theorem tyX9_ok : ∀ k, k < 3 → parseFieldDescriptor (TX9 k).2.2.1 = some (tyX9 k) := by decide +kernel
abbrev cX9_init : ByteArray := prog_11_method_1_code
def yX9_init : MethodName := ⟨RX9, "<init>", "()V"⟩
abbrev cX9_put : ByteArray := prog_11_method_2_code
def yX9_put : MethodName := ⟨RX9, "put", "(III)V"⟩
def RX10 : String := "LensTable$Trace"
def TX10 : u_T := fun k => match k with
  | 0 => ("LensTable$Trace", "has", "[Z", true)
  | 1 => ("LensTable$Trace", "x", "[I", true)
  | _ => ("LensTable$Trace", "y", "[I", true)
def tyX10 : Nat → FieldType := fun k => match k with
  | 0 => .array .boolean
  | 1 => .array .int
  | _ => .array .int
abbrev wsX100 : List Cond := u_ws RX10 TX10 3
theorem nmX10 : ∀ a, a < 3 → ∀ b, b < 3 → a ≠ b → (TX10 a).2.1 ≠ (TX10 b).2.1 := by decide +kernel
theorem tyX10_ok : ∀ k, k < 3 → parseFieldDescriptor (TX10 k).2.2.1 = some (tyX10 k) := by decide +kernel
abbrev cX10_init : ByteArray := prog_12_method_1_code
def yX10_init : MethodName := ⟨RX10, "<init>", "()V"⟩
abbrev cX10_put : ByteArray := prog_12_method_2_code
def yX10_put : MethodName := ⟨RX10, "put", "(III)V"⟩
abbrev cX10_clear : ByteArray := prog_12_method_3_code
def yX10_clear : MethodName := ⟨RX10, "clear", "()V"⟩
abbrev cX10_marksMade : ByteArray := prog_12_method_4_code
def yX10_marksMade : MethodName := ⟨RX10, "marksMade", "()I"⟩
def RX11 : String := "LensTable"
def TX11 : u_T := fun k => match k with
  | 0 => ("LensTable", "sheets", "[LLensTable$Sheet;", true)
  | 1 => ("LensTable", "room", "LLensTable$Room;", true)
  | 2 => ("LensTable", "things", "[LLensTable$Thing;", true)
  | 3 => ("LensTable", "thingsMade", "I", false)
  | 4 => ("LensTable", "image", "LLensTable$Picture;", true)
  | 5 => ("LensTable", "traces", "[LLensTable$Trace;", true)
  | 6 => ("LensTable", "joint", "LLensTable$Joint;", true)
  | 7 => ("LensTable", "ring", "LLensTable$Ring;", true)
  | 8 => ("LensTable", "stands", "[LLensTable$Stand;", true)
  | 9 => ("LensTable", "sight", "LLensTable$Sight;", true)
  | 10 => ("LensTable", "painter", "LLensTable$Stand;", true)
  | 11 => ("LensTable", "bodies", "LLensTable$Bodies;", true)
  | _ => ("LensTable", "lastFinding", "I", false)
def tyX11 : Nat → FieldType := fun k => match k with
  | 0 => .array (.object "LensTable$Sheet")
  | 1 => .object "LensTable$Room"
  | 2 => .array (.object "LensTable$Thing")
  | 3 => .int
  | 4 => .object "LensTable$Picture"
  | 5 => .array (.object "LensTable$Trace")
  | 6 => .object "LensTable$Joint"
  | 7 => .object "LensTable$Ring"
  | 8 => .array (.object "LensTable$Stand")
  | 9 => .object "LensTable$Sight"
  | 10 => .object "LensTable$Stand"
  | 11 => .object "LensTable$Bodies"
  | _ => .int
abbrev wsX110 : List Cond := u_ws RX11 TX11 13
theorem nmX11 : ∀ a, a < 13 → ∀ b, b < 13 → a ≠ b → (TX11 a).2.1 ≠ (TX11 b).2.1 := by decide +kernel
theorem tyX11_ok : ∀ k, k < 13 → parseFieldDescriptor (TX11 k).2.2.1 = some (tyX11 k) := by decide +kernel
abbrev cX11_init : ByteArray := prog_1_method_1_code
def yX11_init : MethodName := ⟨RX11, "<init>", "()V"⟩
abbrev cX11_sheet : ByteArray := prog_1_method_2_code
def yX11_sheet : MethodName := ⟨RX11, "sheet", "(III)I"⟩
abbrev cX11_set : ByteArray := prog_1_method_3_code
def yX11_set : MethodName := ⟨RX11, "set", "(III)I"⟩
abbrev cX11_copy : ByteArray := prog_1_method_4_code
def yX11_copy : MethodName := ⟨RX11, "copy", "(IIIII)I"⟩
abbrev cX11_drop : ByteArray := prog_1_method_5_code
def yX11_drop : MethodName := ⟨RX11, "drop", "(I)I"⟩
abbrev cX11_room : ByteArray := prog_1_method_6_code
def yX11_room : MethodName := ⟨RX11, "room", "(II)I"⟩
abbrev cX11_bend : ByteArray := prog_1_method_7_code
def yX11_bend : MethodName := ⟨RX11, "bend", "(II)I"⟩
abbrev cX11_told : ByteArray := prog_1_method_8_code
def yX11_told : MethodName := ⟨RX11, "told", "(I)I"⟩
abbrev cX11_thing : ByteArray := prog_1_method_9_code
def yX11_thing : MethodName := ⟨RX11, "thing", "(III)I"⟩
abbrev cX11_move : ByteArray := prog_1_method_10_code
def yX11_move : MethodName := ⟨RX11, "move", "(IIII)I"⟩
abbrev cX11_picture : ByteArray := prog_1_method_11_code
def yX11_picture : MethodName := ⟨RX11, "picture", "(II)I"⟩
abbrev cX11_focused : ByteArray := prog_1_method_12_code
def yX11_focused : MethodName := ⟨RX11, "focused", "(II)I"⟩
abbrev cX11_bent : ByteArray := prog_1_method_13_code
def yX11_bent : MethodName := ⟨RX11, "bent", "()I"⟩
abbrev cX11_mark : ByteArray := prog_1_method_14_code
def yX11_mark : MethodName := ⟨RX11, "mark", "(IIII)I"⟩
abbrev cX11_rub : ByteArray := prog_1_method_15_code
def yX11_rub : MethodName := ⟨RX11, "rub", "(II)I"⟩
abbrev cX11_draw : ByteArray := prog_1_method_16_code
def yX11_draw : MethodName := ⟨RX11, "draw", "(I)I"⟩
abbrev cX11_marked : ByteArray := prog_1_method_17_code
def yX11_marked : MethodName := ⟨RX11, "marked", "(III)I"⟩
abbrev cX11_joined : ByteArray := prog_1_method_18_code
def yX11_joined : MethodName := ⟨RX11, "joined", "(III)I"⟩
abbrev cX11_round : ByteArray := prog_1_method_19_code
def yX11_round : MethodName := ⟨RX11, "round", "(II)I"⟩
abbrev cX11_around : ByteArray := prog_1_method_20_code
def yX11_around : MethodName := ⟨RX11, "around", "(III)I"⟩
abbrev cX11_stand : ByteArray := prog_1_method_21_code
def yX11_stand : MethodName := ⟨RX11, "stand", "(IIIII)I"⟩
abbrev cX11_far : ByteArray := prog_1_method_22_code
def yX11_far : MethodName := ⟨RX11, "far", "(III)J"⟩
abbrev cX11_high : ByteArray := prog_1_method_23_code
def yX11_high : MethodName := ⟨RX11, "high", "(III)J"⟩
abbrev cX11_span : ByteArray := prog_1_method_24_code
def yX11_span : MethodName := ⟨RX11, "span", "(IIII)J"⟩
abbrev cX11_studio : ByteArray := prog_1_method_25_code
def yX11_studio : MethodName := ⟨RX11, "studio", "(IIIIIII)I"⟩
abbrev cX11_studios : ByteArray := prog_1_method_26_code
def yX11_studios : MethodName := ⟨RX11, "studios", "(IIIIII)I"⟩
abbrev cX11_spot : ByteArray := prog_1_method_27_code
def yX11_spot : MethodName := ⟨RX11, "spot", "(IIII)I"⟩
abbrev cX11_days : ByteArray := prog_1_method_28_code
def yX11_days : MethodName := ⟨RX11, "days", "(IIII)I"⟩
abbrev cX11_kind : ByteArray := prog_1_method_29_code
def yX11_kind : MethodName := ⟨RX11, "kind", "(I)I"⟩
abbrev cX11_as : ByteArray := prog_1_method_30_code
def yX11_as : MethodName := ⟨RX11, "as", "(II)I"⟩
abbrev cX11_ask : ByteArray := prog_1_method_31_code
def yX11_ask : MethodName := ⟨RX11, "ask", "(II)I"⟩
abbrev cX11_trace : ByteArray := prog_1_method_32_code
def yX11_trace : MethodName := ⟨RX11, "trace", "(I)I"⟩
abbrev cX11_count : ByteArray := prog_1_method_33_code
def yX11_count : MethodName := ⟨RX11, "count", "(I)I"⟩
abbrev cX11_status : ByteArray := prog_1_method_34_code
def yX11_status : MethodName := ⟨RX11, "status", "()I"⟩
abbrev cX11_found : ByteArray := prog_1_method_35_code
def yX11_found : MethodName := ⟨RX11, "found", "(I)I"⟩
abbrev cX11_clean : ByteArray := prog_1_method_36_code
def yX11_clean : MethodName := ⟨RX11, "clean", "(I)I"⟩
abbrev cX11_within : ByteArray := prog_1_method_37_code
def yX11_within : MethodName := ⟨RX11, "within", "(III)Z"⟩
abbrev cX11_isSheet : ByteArray := prog_1_method_38_code
def yX11_isSheet : MethodName := ⟨RX11, "isSheet", "(I)Z"⟩
abbrev cX11_isTrace : ByteArray := prog_1_method_39_code
def yX11_isTrace : MethodName := ⟨RX11, "isTrace", "(I)Z"⟩
abbrev cX11_isNumber : ByteArray := prog_1_method_40_code
def yX11_isNumber : MethodName := ⟨RX11, "isNumber", "(I)Z"⟩
abbrev cX11_isThing : ByteArray := prog_1_method_41_code
def yX11_isThing : MethodName := ⟨RX11, "isThing", "(I)Z"⟩
abbrev cX11_isFlatPlace : ByteArray := prog_1_method_42_code
def yX11_isFlatPlace : MethodName := ⟨RX11, "isFlatPlace", "(I)Z"⟩
abbrev cX11_isPlace : ByteArray := prog_1_method_43_code
def yX11_isPlace : MethodName := ⟨RX11, "isPlace", "(III)Z"⟩
abbrev cX11_isStand : ByteArray := prog_1_method_44_code
def yX11_isStand : MethodName := ⟨RX11, "isStand", "(IIII)Z"⟩
abbrev cX11_by : ByteArray := prog_1_method_45_code
def yX11_by : MethodName := ⟨RX11, "by", "(II)I"⟩
abbrev cX11_by_ : ByteArray := prog_1_method_46_code
def yX11_by_ : MethodName := ⟨RX11, "by", "(JJ)J"⟩
abbrev cX11_kindOf : ByteArray := prog_1_method_47_code
def yX11_kindOf : MethodName := ⟨RX11, "kindOf", "(I)I"⟩
abbrev cX11_thingsToldAs : ByteArray := prog_1_method_48_code
def yX11_thingsToldAs : MethodName := ⟨RX11, "thingsToldAs", "(I)I"⟩
abbrev cX11_sheetsLaid : ByteArray := prog_1_method_49_code
def yX11_sheetsLaid : MethodName := ⟨RX11, "sheetsLaid", "()I"⟩
abbrev cX11_marksOnPaper : ByteArray := prog_1_method_50_code
def yX11_marksOnPaper : MethodName := ⟨RX11, "marksOnPaper", "()I"⟩
abbrev cX11_tracesMarked : ByteArray := prog_1_method_51_code
def yX11_tracesMarked : MethodName := ⟨RX11, "tracesMarked", "()I"⟩
abbrev cX11_closed : ByteArray := prog_1_method_52_code
def yX11_closed : MethodName := ⟨RX11, "closed", "([III)I"⟩
abbrev cX11_areStudiosTold : ByteArray := prog_1_method_53_code
def yX11_areStudiosTold : MethodName := ⟨RX11, "areStudiosTold", "(IIII)Z"⟩
abbrev cX11_studiosRefusal : ByteArray := prog_1_method_54_code
def yX11_studiosRefusal : MethodName := ⟨RX11, "studiosRefusal", "(III)I"⟩
abbrev cX11_areStudios : ByteArray := prog_1_method_55_code
def yX11_areStudios : MethodName := ⟨RX11, "areStudios", "(III)Z"⟩
abbrev cX11_readStudio : ByteArray := prog_1_method_56_code
def yX11_readStudio : MethodName := ⟨RX11, "readStudio", "(III)V"⟩
abbrev cX11_painterMisfit : ByteArray := prog_1_method_57_code
def yX11_painterMisfit : MethodName := ⟨RX11, "painterMisfit", "(LLensTable$Trace;)I"⟩
abbrev cX11_painterApart : ByteArray := prog_1_method_58_code
def yX11_painterApart : MethodName := ⟨RX11, "painterApart", "(LLensTable$Trace;I)I"⟩
abbrev cX11_isPainterNear : ByteArray := prog_1_method_59_code
def yX11_isPainterNear : MethodName := ⟨RX11, "isPainterNear", "(LLensTable$Trace;II)Z"⟩
abbrev cX11_hasPainterMade : ByteArray := prog_1_method_60_code
def yX11_hasPainterMade : MethodName := ⟨RX11, "hasPainterMade", "(LLensTable$Trace;I)Z"⟩
abbrev cX11_bestStudio : ByteArray := prog_1_method_61_code
def yX11_bestStudio : MethodName := ⟨RX11, "bestStudio", "(LLensTable$Trace;III)I"⟩
abbrev cX11_studiosThatMade : ByteArray := prog_1_method_62_code
def yX11_studiosThatMade : MethodName := ⟨RX11, "studiosThatMade", "(LLensTable$Trace;IIII)I"⟩
abbrev cX11_marksOfNoStudio : ByteArray := prog_1_method_63_code
def yX11_marksOfNoStudio : MethodName := ⟨RX11, "marksOfNoStudio", "(LLensTable$Trace;IIII)I"⟩
abbrev cX11_noonOf : ByteArray := prog_1_method_64_code
def yX11_noonOf : MethodName := ⟨RX11, "noonOf", "(I)I"⟩
abbrev cX11_spotAside : ByteArray := prog_1_method_65_code
def yX11_spotAside : MethodName := ⟨RX11, "spotAside", "(II)I"⟩
abbrev cX11_spotAhead : ByteArray := prog_1_method_66_code
def yX11_spotAhead : MethodName := ⟨RX11, "spotAhead", "(III)I"⟩
def RX12 : String := "LensTableModel"
def TX12 : u_T := fun k => match k with
  | 0 => ("LensTableModel", "thrown", "I", false)
  | 1 => ("LensTableModel", "status", "I", false)
  | 2 => ("LensTableModel", "lane", "[I", true)
  | 3 => ("LensTableModel", "many", "[I", true)
  | 4 => ("LensTableModel", "item", "[I", true)
  | 5 => ("LensTableModel", "room", "[I", true)
  | 6 => ("LensTableModel", "bend", "[I", true)
  | 7 => ("LensTableModel", "things", "I", false)
  | 8 => ("LensTableModel", "thingX", "[I", true)
  | 9 => ("LensTableModel", "thingY", "[I", true)
  | 10 => ("LensTableModel", "thingZ", "[I", true)
  | 11 => ("LensTableModel", "isMark", "[Z", true)
  | 12 => ("LensTableModel", "markX", "[I", true)
  | 13 => ("LensTableModel", "markY", "[I", true)
  | 14 => ("LensTableModel", "common", "I", false)
  | 15 => ("LensTableModel", "shiftX", "I", false)
  | 16 => ("LensTableModel", "shiftY", "I", false)
  | 17 => ("LensTableModel", "misfit", "I", false)
  | 18 => ("LensTableModel", "apart", "[I", true)
  | 19 => ("LensTableModel", "standsX", "[I", true)
  | 20 => ("LensTableModel", "standsY", "[I", true)
  | 21 => ("LensTableModel", "misfits", "I", false)
  | 22 => ("LensTableModel", "two", "[I", true)
  | 23 => ("LensTableModel", "upper", "J", false)
  | 24 => ("LensTableModel", "lower", "J", false)
  | 25 => ("LensTableModel", "farX", "I", false)
  | 26 => ("LensTableModel", "farY", "I", false)
  | 27 => ("LensTableModel", "trace", "[I", true)
  | _ => ("LensTableModel", "traced", "I", false)
def tyX12 : Nat → FieldType := fun k => match k with
  | 0 => .int
  | 1 => .int
  | 2 => .array .int
  | 3 => .array .int
  | 4 => .array .int
  | 5 => .array .int
  | 6 => .array .int
  | 7 => .int
  | 8 => .array .int
  | 9 => .array .int
  | 10 => .array .int
  | 11 => .array .boolean
  | 12 => .array .int
  | 13 => .array .int
  | 14 => .int
  | 15 => .int
  | 16 => .int
  | 17 => .int
  | 18 => .array .int
  | 19 => .array .int
  | 20 => .array .int
  | 21 => .int
  | 22 => .array .int
  | 23 => .long
  | 24 => .long
  | 25 => .int
  | 26 => .int
  | 27 => .array .int
  | _ => .int
abbrev wsX120 : List Cond := u_ws RX12 TX12 29
theorem nmX12 : ∀ a, a < 29 → ∀ b, b < 29 → a ≠ b → (TX12 a).2.1 ≠ (TX12 b).2.1 := by decide +kernel
theorem tyX12_ok : ∀ k, k < 29 → parseFieldDescriptor (TX12 k).2.2.1 = some (tyX12 k) := by decide +kernel
abbrev cX12_init : ByteArray := prog_14_method_1_code
def yX12_init : MethodName := ⟨RX12, "<init>", "()V"⟩
abbrev cX12_in : ByteArray := prog_14_method_3_code
def yX12_in : MethodName := ⟨RX12, "in", "(JJJ)Z"⟩
abbrev cX12_found : ByteArray := prog_14_method_4_code
def yX12_found : MethodName := ⟨RX12, "found", "(I)I"⟩
abbrev cX12_isSheet : ByteArray := prog_14_method_5_code
def yX12_isSheet : MethodName := ⟨RX12, "isSheet", "(I)Z"⟩
abbrev cX12_sheet : ByteArray := prog_14_method_6_code
def yX12_sheet : MethodName := ⟨RX12, "sheet", "(III)I"⟩
abbrev cX12_set : ByteArray := prog_14_method_7_code
def yX12_set : MethodName := ⟨RX12, "set", "(III)I"⟩
abbrev cX12_copy : ByteArray := prog_14_method_8_code
def yX12_copy : MethodName := ⟨RX12, "copy", "(IIIII)I"⟩
abbrev cX12_drop : ByteArray := prog_14_method_9_code
def yX12_drop : MethodName := ⟨RX12, "drop", "(I)I"⟩
abbrev cX12_room : ByteArray := prog_14_method_10_code
def yX12_room : MethodName := ⟨RX12, "room", "(II)I"⟩
abbrev cX12_bend : ByteArray := prog_14_method_11_code
def yX12_bend : MethodName := ⟨RX12, "bend", "(II)I"⟩
abbrev cX12_told : ByteArray := prog_14_method_12_code
def yX12_told : MethodName := ⟨RX12, "told", "(I)I"⟩
abbrev cX12_isPlace : ByteArray := prog_14_method_13_code
def yX12_isPlace : MethodName := ⟨RX12, "isPlace", "(III)Z"⟩
abbrev cX12_isThing : ByteArray := prog_14_method_14_code
def yX12_isThing : MethodName := ⟨RX12, "isThing", "(I)Z"⟩
abbrev cX12_thing : ByteArray := prog_14_method_15_code
def yX12_thing : MethodName := ⟨RX12, "thing", "(III)I"⟩
abbrev cX12_move : ByteArray := prog_14_method_16_code
def yX12_move : MethodName := ⟨RX12, "move", "(IIII)I"⟩
abbrev cX12_firstOf : ByteArray := prog_14_method_17_code
def yX12_firstOf : MethodName := ⟨RX12, "firstOf", "(II)I"⟩
abbrev cX12_columnOf : ByteArray := prog_14_method_18_code
def yX12_columnOf : MethodName := ⟨RX12, "columnOf", "(II)I"⟩
abbrev cX12_farBy : ByteArray := prog_14_method_19_code
def yX12_farBy : MethodName := ⟨RX12, "farBy", "(II)I"⟩
abbrev cX12_acrossOf : ByteArray := prog_14_method_20_code
def yX12_acrossOf : MethodName := ⟨RX12, "acrossOf", "(I)I"⟩
abbrev cX12_downOf : ByteArray := prog_14_method_21_code
def yX12_downOf : MethodName := ⟨RX12, "downOf", "(I)I"⟩
abbrev cX12_size : ByteArray := prog_14_method_22_code
def yX12_size : MethodName := ⟨RX12, "size", "(I)I"⟩
abbrev cX12_blurBy : ByteArray := prog_14_method_23_code
def yX12_blurBy : MethodName := ⟨RX12, "blurBy", "(II)I"⟩
abbrev cX12_blurOf : ByteArray := prog_14_method_24_code
def yX12_blurOf : MethodName := ⟨RX12, "blurOf", "(I)I"⟩
abbrev cX12_picture : ByteArray := prog_14_method_25_code
def yX12_picture : MethodName := ⟨RX12, "picture", "(II)I"⟩
abbrev cX12_focused : ByteArray := prog_14_method_26_code
def yX12_focused : MethodName := ⟨RX12, "focused", "(II)I"⟩
abbrev cX12_bent : ByteArray := prog_14_method_27_code
def yX12_bent : MethodName := ⟨RX12, "bent", "()I"⟩
abbrev cX12_isTrace : ByteArray := prog_14_method_28_code
def yX12_isTrace : MethodName := ⟨RX12, "isTrace", "(I)Z"⟩
abbrev cX12_isNumber : ByteArray := prog_14_method_29_code
def yX12_isNumber : MethodName := ⟨RX12, "isNumber", "(I)Z"⟩
abbrev cX12_mark : ByteArray := prog_14_method_30_code
def yX12_mark : MethodName := ⟨RX12, "mark", "(IIII)I"⟩
abbrev cX12_rub : ByteArray := prog_14_method_31_code
def yX12_rub : MethodName := ⟨RX12, "rub", "(II)I"⟩
abbrev cX12_isSeen : ByteArray := prog_14_method_32_code
def yX12_isSeen : MethodName := ⟨RX12, "isSeen", "(I)Z"⟩
abbrev cX12_draw : ByteArray := prog_14_method_33_code
def yX12_draw : MethodName := ⟨RX12, "draw", "(I)I"⟩
abbrev cX12_marked : ByteArray := prog_14_method_34_code
def yX12_marked : MethodName := ⟨RX12, "marked", "(III)I"⟩
abbrev cX12_middle : ByteArray := prog_14_method_35_code
def yX12_middle : MethodName := ⟨RX12, "middle", "()I"⟩
abbrev cX12_sumFrom : ByteArray := prog_14_method_36_code
def yX12_sumFrom : MethodName := ⟨RX12, "sumFrom", "(I)I"⟩
abbrev cX12_join : ByteArray := prog_14_method_37_code
def yX12_join : MethodName := ⟨RX12, "join", "(II)V"⟩
abbrev cX12_joined : ByteArray := prog_14_method_38_code
def yX12_joined : MethodName := ⟨RX12, "joined", "(III)I"⟩
abbrev cX12_goRound : ByteArray := prog_14_method_39_code
def yX12_goRound : MethodName := ⟨RX12, "goRound", "(I)Z"⟩
abbrev cX12_round : ByteArray := prog_14_method_40_code
def yX12_round : MethodName := ⟨RX12, "round", "(II)I"⟩
abbrev cX12_around : ByteArray := prog_14_method_41_code
def yX12_around : MethodName := ⟨RX12, "around", "(III)I"⟩
abbrev cX12_stand : ByteArray := prog_14_method_42_code
def yX12_stand : MethodName := ⟨RX12, "stand", "(IIIII)I"⟩
abbrev cX12_see : ByteArray := prog_14_method_43_code
def yX12_see : MethodName := ⟨RX12, "see", "(II)Z"⟩
abbrev cX12_isSight : ByteArray := prog_14_method_44_code
def yX12_isSight : MethodName := ⟨RX12, "isSight", "(I)Z"⟩
abbrev cX12_far : ByteArray := prog_14_method_45_code
def yX12_far : MethodName := ⟨RX12, "far", "(III)J"⟩
abbrev cX12_high : ByteArray := prog_14_method_46_code
def yX12_high : MethodName := ⟨RX12, "high", "(III)J"⟩
abbrev cX12_span : ByteArray := prog_14_method_47_code
def yX12_span : MethodName := ⟨RX12, "span", "(IIII)J"⟩
abbrev cX12_lookStudios : ByteArray := prog_14_method_48_code
def yX12_lookStudios : MethodName := ⟨RX12, "lookStudios", "(IIII)I"⟩
abbrev cX12_puts : ByteArray := prog_14_method_49_code
def yX12_puts : MethodName := ⟨RX12, "puts", "(III)Z"⟩
abbrev cX12_misfitOf : ByteArray := prog_14_method_50_code
def yX12_misfitOf : MethodName := ⟨RX12, "misfitOf", "(II)I"⟩
abbrev cX12_isMade : ByteArray := prog_14_method_51_code
def yX12_isMade : MethodName := ⟨RX12, "isMade", "(III)Z"⟩
abbrev cX12_studio : ByteArray := prog_14_method_52_code
def yX12_studio : MethodName := ⟨RX12, "studio", "(IIIIIII)I"⟩
abbrev cX12_studios : ByteArray := prog_14_method_53_code
def yX12_studios : MethodName := ⟨RX12, "studios", "(IIIIII)I"⟩
abbrev cX12_spotOf : ByteArray := prog_14_method_54_code
def yX12_spotOf : MethodName := ⟨RX12, "spotOf", "(IIII)I"⟩
abbrev cX12_spot : ByteArray := prog_14_method_55_code
def yX12_spot : MethodName := ⟨RX12, "spot", "(IIII)I"⟩
abbrev cX12_days : ByteArray := prog_14_method_56_code
def yX12_days : MethodName := ⟨RX12, "days", "(IIII)I"⟩
abbrev cX12_kindOf : ByteArray := prog_14_method_57_code
def yX12_kindOf : MethodName := ⟨RX12, "kindOf", "(I)I"⟩
abbrev cX12_isOf : ByteArray := prog_14_method_58_code
def yX12_isOf : MethodName := ⟨RX12, "isOf", "(II)Z"⟩
abbrev cX12_kind : ByteArray := prog_14_method_59_code
def yX12_kind : MethodName := ⟨RX12, "kind", "(I)I"⟩
abbrev cX12_as : ByteArray := prog_14_method_60_code
def yX12_as : MethodName := ⟨RX12, "as", "(II)I"⟩
abbrev cX12_began : ByteArray := prog_14_method_61_code
def yX12_began : MethodName := ⟨RX12, "began", "(I)V"⟩
abbrev cX12_seenSize : ByteArray := prog_14_method_62_code
def yX12_seenSize : MethodName := ⟨RX12, "seenSize", "(II)I"⟩
abbrev cX12_markOf : ByteArray := prog_14_method_63_code
def yX12_markOf : MethodName := ⟨RX12, "markOf", "(II)I"⟩
abbrev cX12_ask : ByteArray := prog_14_method_64_code
def yX12_ask : MethodName := ⟨RX12, "ask", "(II)I"⟩
abbrev cX12_trace : ByteArray := prog_14_method_65_code
def yX12_trace : MethodName := ⟨RX12, "trace", "(I)I"⟩
abbrev cX12_count : ByteArray := prog_14_method_66_code
def yX12_count : MethodName := ⟨RX12, "count", "(I)I"⟩
abbrev cX12_status : ByteArray := prog_14_method_67_code
def yX12_status : MethodName := ⟨RX12, "status", "()I"⟩
def RJ9 : String := "java/lang/Math"
def TJ9 : u_T := fun k => match k with
  | _ => ("", "", "", false)
def tyJ9 : Nat → FieldType := fun k => match k with
  | _ => .int
abbrev wsJ90 : List Cond := u_ws RJ9 TJ9 0
theorem nmJ9 : ∀ a, a < 0 → ∀ b, b < 0 → a ≠ b → (TJ9 a).2.1 ≠ (TJ9 b).2.1 := by decide +kernel
theorem tyJ9_ok : ∀ k, k < 0 → parseFieldDescriptor (TJ9 k).2.2.1 = some (tyJ9 k) := by decide +kernel
abbrev cJ9_floorDiv_7cf53 : ByteArray := prog_15_method_47_code
def yJ9_floorDiv_7cf53 : MethodName := ⟨RJ9, "floorDiv", "(II)I"⟩
abbrev cJ9_abs_0f7a4 : ByteArray := prog_15_method_59_code
def yJ9_abs_0f7a4 : MethodName := ⟨RJ9, "abs", "(I)I"⟩
abbrev cJ9_max_7cf53 : ByteArray := prog_15_method_65_code
def yJ9_max_7cf53 : MethodName := ⟨RJ9, "max", "(II)I"⟩
abbrev cJ9_max_f86c9 : ByteArray := prog_15_method_66_code
def yJ9_max_f86c9 : MethodName := ⟨RJ9, "max", "(JJ)J"⟩
abbrev cJ9_min_7cf53 : ByteArray := prog_15_method_69_code
def yJ9_min_7cf53 : MethodName := ⟨RJ9, "min", "(II)I"⟩
abbrev cJ9_min_f86c9 : ByteArray := prog_15_method_70_code
def yJ9_min_f86c9 : MethodName := ⟨RJ9, "min", "(JJ)J"⟩
def RJ10 : String := "java/lang/System"
def TJ10 : u_T := fun k => match k with
  | _ => ("", "", "", false)
def tyJ10 : Nat → FieldType := fun k => match k with
  | _ => .int
abbrev wsJ100 : List Cond := u_ws RJ10 TJ10 0
theorem nmJ10 : ∀ a, a < 0 → ∀ b, b < 0 → a ≠ b → (TJ10 a).2.1 ≠ (TJ10 b).2.1 := by decide +kernel
theorem tyJ10_ok : ∀ k, k < 0 → parseFieldDescriptor (TJ10 k).2.2.1 = some (tyJ10 k) := by decide +kernel
def RL : String := "LensTableLaw"
abbrev cL_law : ByteArray := code
def yL_law : MethodName := ⟨RL, "law", "([I)Z"⟩
abbrev vwCl : List vw_C := [(RX0, TX0, 5), (RX1, TX1, 2), (RX2, TX2, 6), (RX3, TX3, 3), (RX4, TX4, 3), (RX5, TX5, 2), (RX6, TX6, 3), (RX7, TX7, 2), (RX8, TX8, 4), (RX9, TX9, 3), (RX10, TX10, 3), (RX11, TX11, 13), (RX12, TX12, 29)]
end
section
theorem dX0_init_0 : decode cX0_init 0 = .ok (.aload_n 0, 1) := by decide +kernel
theorem dX0_init_1 : decode cX0_init 1 = .ok (.invokespecial 3, 3) := by decide +kernel
theorem dX0_init_4 : decode cX0_init 4 = .ok (.aload_n 0, 1) := by decide +kernel
theorem dX0_init_5 : decode cX0_init 5 = .ok (.bipush 16, 2) := by decide +kernel
theorem dX0_init_7 : decode cX0_init 7 = .ok (.newarray .int, 2) := by decide +kernel
theorem dX0_init_9 : decode cX0_init 9 = .ok (.putfield 9, 3) := by decide +kernel
theorem dX0_init_12 : decode cX0_init 12 = .ok (.aload_n 0, 1) := by decide +kernel
theorem dX0_init_13 : decode cX0_init 13 = .ok (.iconst 0, 1) := by decide +kernel
theorem dX0_init_14 : decode cX0_init 14 = .ok (.putfield 15, 3) := by decide +kernel
theorem dX0_init_17 : decode cX0_init 17 = .ok (.return_, 1) := by decide +kernel
theorem dX0_face_0 : decode cX0_face 0 = .ok (.aload_n 0, 1) := by decide +kernel
theorem dX0_face_1 : decode cX0_face 1 = .ok (.iconst 0, 1) := by decide +kernel
theorem dX0_face_2 : decode cX0_face 2 = .ok (.putfield 15, 3) := by decide +kernel
theorem dX0_face_5 : decode cX0_face 5 = .ok (.aload_n 0, 1) := by decide +kernel
theorem dX0_face_6 : decode cX0_face 6 = .ok (.iload_n 1, 1) := by decide +kernel
theorem dX0_face_7 : decode cX0_face 7 = .ok (.putfield 19, 3) := by decide +kernel
theorem dX0_face_10 : decode cX0_face 10 = .ok (.aload_n 0, 1) := by decide +kernel
theorem dX0_face_11 : decode cX0_face 11 = .ok (.iload_n 2, 1) := by decide +kernel
theorem dX0_face_12 : decode cX0_face 12 = .ok (.putfield 22, 3) := by decide +kernel
theorem dX0_face_15 : decode cX0_face 15 = .ok (.aload_n 0, 1) := by decide +kernel
theorem dX0_face_16 : decode cX0_face 16 = .ok (.iload_n 3, 1) := by decide +kernel
theorem dX0_face_17 : decode cX0_face 17 = .ok (.putfield 25, 3) := by decide +kernel
theorem dX0_face_20 : decode cX0_face 20 = .ok (.return_, 1) := by decide +kernel
theorem dX0_begin_0 : decode cX0_begin 0 = .ok (.aload_n 0, 1) := by decide +kernel
theorem dX0_begin_1 : decode cX0_begin 1 = .ok (.getfield 15, 3) := by decide +kernel
theorem dX0_begin_4 : decode cX0_begin 4 = .ok (.aload_n 0, 1) := by decide +kernel
theorem dX0_begin_5 : decode cX0_begin 5 = .ok (.getfield 9, 3) := by decide +kernel
theorem dX0_begin_8 : decode cX0_begin 8 = .ok (.arraylength, 1) := by decide +kernel
theorem dX0_begin_9 : decode cX0_begin 9 = .ok (.if_icmp .ge 23, 3) := by decide +kernel
theorem dX0_begin_12 : decode cX0_begin 12 = .ok (.aload_n 0, 1) := by decide +kernel
theorem dX0_begin_13 : decode cX0_begin 13 = .ok (.getfield 9, 3) := by decide +kernel
theorem dX0_begin_16 : decode cX0_begin 16 = .ok (.aload_n 0, 1) := by decide +kernel
theorem dX0_begin_17 : decode cX0_begin 17 = .ok (.getfield 15, 3) := by decide +kernel
theorem dX0_begin_20 : decode cX0_begin 20 = .ok (.iload_n 1, 1) := by decide +kernel
theorem dX0_begin_21 : decode cX0_begin 21 = .ok (.iastore, 1) := by decide +kernel
theorem dX0_begin_22 : decode cX0_begin 22 = .ok (.aload_n 0, 1) := by decide +kernel
theorem dX0_begin_23 : decode cX0_begin 23 = .ok (.dup, 1) := by decide +kernel
theorem dX0_begin_24 : decode cX0_begin 24 = .ok (.getfield 15, 3) := by decide +kernel
theorem dX0_begin_27 : decode cX0_begin 27 = .ok (.iconst 1, 1) := by decide +kernel
theorem dX0_begin_28 : decode cX0_begin 28 = .ok (.iadd, 1) := by decide +kernel
theorem dX0_begin_29 : decode cX0_begin 29 = .ok (.putfield 15, 3) := by decide +kernel
theorem dX0_begin_32 : decode cX0_begin 32 = .ok (.return_, 1) := by decide +kernel
theorem dX0_size_0 : decode cX0_size 0 = .ok (.iload_n 1, 1) := by decide +kernel
theorem dX0_size_1 : decode cX0_size 1 = .ok (.tableswitch 42 1 3 #[27, 32, 37], 27) := by decide +kernel
theorem dX0_size_28 : decode cX0_size 28 = .ok (.aload_n 0, 1) := by decide +kernel
theorem dX0_size_29 : decode cX0_size 29 = .ok (.invokevirtual 28, 3) := by decide +kernel
theorem dX0_size_32 : decode cX0_size 32 = .ok (.ireturn, 1) := by decide +kernel
theorem dX0_size_33 : decode cX0_size 33 = .ok (.aload_n 0, 1) := by decide +kernel
theorem dX0_size_34 : decode cX0_size 34 = .ok (.invokevirtual 32, 3) := by decide +kernel
theorem dX0_size_37 : decode cX0_size 37 = .ok (.ireturn, 1) := by decide +kernel
theorem dX0_size_38 : decode cX0_size 38 = .ok (.aload_n 0, 1) := by decide +kernel
theorem dX0_size_39 : decode cX0_size 39 = .ok (.invokevirtual 35, 3) := by decide +kernel
theorem dX0_size_42 : decode cX0_size 42 = .ok (.ireturn, 1) := by decide +kernel
theorem dX0_size_43 : decode cX0_size 43 = .ok (.aload_n 0, 1) := by decide +kernel
theorem dX0_size_44 : decode cX0_size 44 = .ok (.invokevirtual 38, 3) := by decide +kernel
theorem dX0_size_47 : decode cX0_size 47 = .ok (.ireturn, 1) := by decide +kernel
theorem dX0_sign_0 : decode cX0_sign 0 = .ok (.iload_n 1, 1) := by decide +kernel
theorem dX0_sign_1 : decode cX0_sign 1 = .ok (.tableswitch 42 1 3 #[27, 32, 37], 27) := by decide +kernel
theorem dX0_sign_28 : decode cX0_sign 28 = .ok (.aload_n 0, 1) := by decide +kernel
theorem dX0_sign_29 : decode cX0_sign 29 = .ok (.invokevirtual 41, 3) := by decide +kernel
theorem dX0_sign_32 : decode cX0_sign 32 = .ok (.ireturn, 1) := by decide +kernel
theorem dX0_sign_33 : decode cX0_sign 33 = .ok (.aload_n 0, 1) := by decide +kernel
theorem dX0_sign_34 : decode cX0_sign 34 = .ok (.invokevirtual 44, 3) := by decide +kernel
theorem dX0_sign_37 : decode cX0_sign 37 = .ok (.ireturn, 1) := by decide +kernel
theorem dX0_sign_38 : decode cX0_sign 38 = .ok (.aload_n 0, 1) := by decide +kernel
theorem dX0_sign_39 : decode cX0_sign 39 = .ok (.invokevirtual 47, 3) := by decide +kernel
theorem dX0_sign_42 : decode cX0_sign 42 = .ok (.ireturn, 1) := by decide +kernel
theorem dX0_sign_43 : decode cX0_sign 43 = .ok (.aload_n 0, 1) := by decide +kernel
theorem dX0_sign_44 : decode cX0_sign 44 = .ok (.invokevirtual 50, 3) := by decide +kernel
theorem dX0_sign_47 : decode cX0_sign 47 = .ok (.ireturn, 1) := by decide +kernel
theorem dX0_sizeLent_0 : decode cX0_sizeLent 0 = .ok (.aload_n 0, 1) := by decide +kernel
theorem dX0_sizeLent_1 : decode cX0_sizeLent 1 = .ok (.bipush 10, 2) := by decide +kernel
theorem dX0_sizeLent_3 : decode cX0_sizeLent 3 = .ok (.invokevirtual 53, 3) := by decide +kernel
theorem dX0_sizeLent_6 : decode cX0_sizeLent 6 = .ok (.aload_n 0, 1) := by decide +kernel
theorem dX0_sizeLent_7 : decode cX0_sizeLent 7 = .ok (.getfield 19, 3) := by decide +kernel
theorem dX0_sizeLent_10 : decode cX0_sizeLent 10 = .ok (.ireturn, 1) := by decide +kernel
theorem dX0_sizeOfSeen_0 : decode cX0_sizeOfSeen 0 = .ok (.aload_n 0, 1) := by decide +kernel
theorem dX0_sizeOfSeen_1 : decode cX0_sizeOfSeen 1 = .ok (.bipush 11, 2) := by decide +kernel
theorem dX0_sizeOfSeen_3 : decode cX0_sizeOfSeen 3 = .ok (.invokevirtual 53, 3) := by decide +kernel
theorem dX0_sizeOfSeen_6 : decode cX0_sizeOfSeen 6 = .ok (.aload_n 0, 1) := by decide +kernel
theorem dX0_sizeOfSeen_7 : decode cX0_sizeOfSeen 7 = .ok (.invokevirtual 38, 3) := by decide +kernel
theorem dX0_sizeOfSeen_10 : decode cX0_sizeOfSeen 10 = .ok (.aload_n 0, 1) := by decide +kernel
theorem dX0_sizeOfSeen_11 : decode cX0_sizeOfSeen 11 = .ok (.getfield 25, 3) := by decide +kernel
theorem dX0_sizeOfSeen_14 : decode cX0_sizeOfSeen 14 = .ok (.iadd, 1) := by decide +kernel
theorem dX0_sizeOfSeen_15 : decode cX0_sizeOfSeen 15 = .ok (.ireturn, 1) := by decide +kernel
theorem dX0_sizeOfSharp_0 : decode cX0_sizeOfSharp 0 = .ok (.aload_n 0, 1) := by decide +kernel
theorem dX0_sizeOfSharp_1 : decode cX0_sizeOfSharp 1 = .ok (.bipush 12, 2) := by decide +kernel
theorem dX0_sizeOfSharp_3 : decode cX0_sizeOfSharp 3 = .ok (.invokevirtual 53, 3) := by decide +kernel
theorem dX0_sizeOfSharp_6 : decode cX0_sizeOfSharp 6 = .ok (.iconst 2, 1) := by decide +kernel
theorem dX0_sizeOfSharp_7 : decode cX0_sizeOfSharp 7 = .ok (.aload_n 0, 1) := by decide +kernel
theorem dX0_sizeOfSharp_8 : decode cX0_sizeOfSharp 8 = .ok (.invokevirtual 28, 3) := by decide +kernel
theorem dX0_sizeOfSharp_11 : decode cX0_sizeOfSharp 11 = .ok (.imul, 1) := by decide +kernel
theorem dX0_sizeOfSharp_12 : decode cX0_sizeOfSharp 12 = .ok (.ireturn, 1) := by decide +kernel
theorem dX0_sizeOfLost_0 : decode cX0_sizeOfLost 0 = .ok (.aload_n 0, 1) := by decide +kernel
theorem dX0_sizeOfLost_1 : decode cX0_sizeOfLost 1 = .ok (.bipush 13, 2) := by decide +kernel
theorem dX0_sizeOfLost_3 : decode cX0_sizeOfLost 3 = .ok (.invokevirtual 53, 3) := by decide +kernel
theorem dX0_sizeOfLost_6 : decode cX0_sizeOfLost 6 = .ok (.aload_n 0, 1) := by decide +kernel
theorem dX0_sizeOfLost_7 : decode cX0_sizeOfLost 7 = .ok (.invokevirtual 38, 3) := by decide +kernel
theorem dX0_sizeOfLost_10 : decode cX0_sizeOfLost 10 = .ok (.istore_n 1, 1) := by decide +kernel
theorem dX0_sizeOfLost_11 : decode cX0_sizeOfLost 11 = .ok (.iload_n 1, 1) := by decide +kernel
theorem dX0_sizeOfLost_12 : decode cX0_sizeOfLost 12 = .ok (.aload_n 0, 1) := by decide +kernel
theorem dX0_sizeOfLost_13 : decode cX0_sizeOfLost 13 = .ok (.invokevirtual 47, 3) := by decide +kernel
theorem dX0_sizeOfLost_16 : decode cX0_sizeOfLost 16 = .ok (.isub, 1) := by decide +kernel
theorem dX0_sizeOfLost_17 : decode cX0_sizeOfLost 17 = .ok (.ireturn, 1) := by decide +kernel
theorem dX0_signLent_0 : decode cX0_signLent 0 = .ok (.aload_n 0, 1) := by decide +kernel
theorem dX0_signLent_1 : decode cX0_signLent 1 = .ok (.bipush 20, 2) := by decide +kernel
theorem dX0_signLent_3 : decode cX0_signLent 3 = .ok (.invokevirtual 53, 3) := by decide +kernel
theorem dX0_signLent_6 : decode cX0_signLent 6 = .ok (.aload_n 0, 1) := by decide +kernel
theorem dX0_signLent_7 : decode cX0_signLent 7 = .ok (.getfield 22, 3) := by decide +kernel
theorem dX0_signLent_10 : decode cX0_signLent 10 = .ok (.ireturn, 1) := by decide +kernel
theorem dX0_signOfSeen_0 : decode cX0_signOfSeen 0 = .ok (.aload_n 0, 1) := by decide +kernel
theorem dX0_signOfSeen_1 : decode cX0_signOfSeen 1 = .ok (.bipush 21, 2) := by decide +kernel
theorem dX0_signOfSeen_3 : decode cX0_signOfSeen 3 = .ok (.invokevirtual 53, 3) := by decide +kernel
theorem dX0_signOfSeen_6 : decode cX0_signOfSeen 6 = .ok (.aload_n 0, 1) := by decide +kernel
theorem dX0_signOfSeen_7 : decode cX0_signOfSeen 7 = .ok (.invokevirtual 50, 3) := by decide +kernel
theorem dX0_signOfSeen_10 : decode cX0_signOfSeen 10 = .ok (.bipush 100, 2) := by decide +kernel
theorem dX0_signOfSeen_12 : decode cX0_signOfSeen 12 = .ok (.iadd, 1) := by decide +kernel
theorem dX0_signOfSeen_13 : decode cX0_signOfSeen 13 = .ok (.ireturn, 1) := by decide +kernel
theorem dX0_signOfSharp_0 : decode cX0_signOfSharp 0 = .ok (.aload_n 0, 1) := by decide +kernel
theorem dX0_signOfSharp_1 : decode cX0_signOfSharp 1 = .ok (.bipush 22, 2) := by decide +kernel
theorem dX0_signOfSharp_3 : decode cX0_signOfSharp 3 = .ok (.invokevirtual 53, 3) := by decide +kernel
theorem dX0_signOfSharp_6 : decode cX0_signOfSharp 6 = .ok (.aload_n 0, 1) := by decide +kernel
theorem dX0_signOfSharp_7 : decode cX0_signOfSharp 7 = .ok (.invokevirtual 41, 3) := by decide +kernel
theorem dX0_signOfSharp_10 : decode cX0_signOfSharp 10 = .ok (.istore_n 1, 1) := by decide +kernel
theorem dX0_signOfSharp_11 : decode cX0_signOfSharp 11 = .ok (.iload_n 1, 1) := by decide +kernel
theorem dX0_signOfSharp_12 : decode cX0_signOfSharp 12 = .ok (.aload_n 0, 1) := by decide +kernel
theorem dX0_signOfSharp_13 : decode cX0_signOfSharp 13 = .ok (.invokevirtual 32, 3) := by decide +kernel
theorem dX0_signOfSharp_16 : decode cX0_signOfSharp 16 = .ok (.iadd, 1) := by decide +kernel
theorem dX0_signOfSharp_17 : decode cX0_signOfSharp 17 = .ok (.ireturn, 1) := by decide +kernel
theorem dX0_signOfLost_0 : decode cX0_signOfLost 0 = .ok (.aload_n 0, 1) := by decide +kernel
theorem dX0_signOfLost_1 : decode cX0_signOfLost 1 = .ok (.bipush 23, 2) := by decide +kernel
theorem dX0_signOfLost_3 : decode cX0_signOfLost 3 = .ok (.invokevirtual 53, 3) := by decide +kernel
theorem dX0_signOfLost_6 : decode cX0_signOfLost 6 = .ok (.aload_n 0, 1) := by decide +kernel
theorem dX0_signOfLost_7 : decode cX0_signOfLost 7 = .ok (.invokevirtual 50, 3) := by decide +kernel
theorem dX0_signOfLost_10 : decode cX0_signOfLost 10 = .ok (.sipush 1000, 3) := by decide +kernel
theorem dX0_signOfLost_13 : decode cX0_signOfLost 13 = .ok (.iadd, 1) := by decide +kernel
theorem dX0_signOfLost_14 : decode cX0_signOfLost 14 = .ok (.ireturn, 1) := by decide +kernel
theorem dX1_init_0 : decode cX1_init 0 = .ok (.aload_n 0, 1) := by decide +kernel
theorem dX1_init_1 : decode cX1_init 1 = .ok (.invokespecial 3, 3) := by decide +kernel
theorem dX1_init_4 : decode cX1_init 4 = .ok (.aload_n 0, 1) := by decide +kernel
theorem dX1_init_5 : decode cX1_init 5 = .ok (.new 9, 3) := by decide +kernel
theorem dX1_init_8 : decode cX1_init 8 = .ok (.dup, 1) := by decide +kernel
theorem dX1_init_9 : decode cX1_init 9 = .ok (.invokespecial 11, 3) := by decide +kernel
theorem dX1_init_12 : decode cX1_init 12 = .ok (.putfield 12, 3) := by decide +kernel
theorem dX1_init_15 : decode cX1_init 15 = .ok (.aload_n 0, 1) := by decide +kernel
theorem dX1_init_16 : decode cX1_init 16 = .ok (.new 9, 3) := by decide +kernel
theorem dX1_init_19 : decode cX1_init 19 = .ok (.dup, 1) := by decide +kernel
theorem dX1_init_20 : decode cX1_init 20 = .ok (.invokespecial 11, 3) := by decide +kernel
theorem dX1_init_23 : decode cX1_init 23 = .ok (.putfield 18, 3) := by decide +kernel
theorem dX1_init_26 : decode cX1_init 26 = .ok (.return_, 1) := by decide +kernel
theorem dX1_take_0 : decode cX1_take 0 = .ok (.aload_n 0, 1) := by decide +kernel
theorem dX1_take_1 : decode cX1_take 1 = .ok (.getfield 12, 3) := by decide +kernel
theorem dX1_take_4 : decode cX1_take 4 = .ok (.iconst 0, 1) := by decide +kernel
theorem dX1_take_5 : decode cX1_take 5 = .ok (.putfield 21, 3) := by decide +kernel
theorem dX1_take_8 : decode cX1_take 8 = .ok (.aload_n 0, 1) := by decide +kernel
theorem dX1_take_9 : decode cX1_take 9 = .ok (.getfield 18, 3) := by decide +kernel
theorem dX1_take_12 : decode cX1_take 12 = .ok (.iconst 0, 1) := by decide +kernel
theorem dX1_take_13 : decode cX1_take 13 = .ok (.putfield 21, 3) := by decide +kernel
theorem dX1_take_16 : decode cX1_take 16 = .ok (.iconst 0, 1) := by decide +kernel
theorem dX1_take_17 : decode cX1_take 17 = .ok (.istore_n 3, 1) := by decide +kernel
theorem dX1_take_18 : decode cX1_take 18 = .ok (.iload_n 3, 1) := by decide +kernel
theorem dX1_take_19 : decode cX1_take 19 = .ok (.bipush 24, 2) := by decide +kernel
theorem dX1_take_21 : decode cX1_take 21 = .ok (.if_icmp .ge 67, 3) := by decide +kernel
theorem dX1_take_24 : decode cX1_take 24 = .ok (.aload_n 1, 1) := by decide +kernel
theorem dX1_take_25 : decode cX1_take 25 = .ok (.getfield 25, 3) := by decide +kernel
theorem dX1_take_28 : decode cX1_take 28 = .ok (.iload_n 3, 1) := by decide +kernel
theorem dX1_take_29 : decode cX1_take 29 = .ok (.baload, 1) := by decide +kernel
theorem dX1_take_30 : decode cX1_take 30 = .ok (.ifCond .eq 52, 3) := by decide +kernel
theorem dX1_take_33 : decode cX1_take 33 = .ok (.aload_n 2, 1) := by decide +kernel
theorem dX1_take_34 : decode cX1_take 34 = .ok (.getfield 25, 3) := by decide +kernel
theorem dX1_take_37 : decode cX1_take 37 = .ok (.iload_n 3, 1) := by decide +kernel
theorem dX1_take_38 : decode cX1_take 38 = .ok (.baload, 1) := by decide +kernel
theorem dX1_take_39 : decode cX1_take 39 = .ok (.ifCond .eq 43, 3) := by decide +kernel
theorem dX1_take_42 : decode cX1_take 42 = .ok (.aload_n 0, 1) := by decide +kernel
theorem dX1_take_43 : decode cX1_take 43 = .ok (.getfield 12, 3) := by decide +kernel
theorem dX1_take_46 : decode cX1_take 46 = .ok (.aload_n 1, 1) := by decide +kernel
theorem dX1_take_47 : decode cX1_take 47 = .ok (.getfield 31, 3) := by decide +kernel
theorem dX1_take_50 : decode cX1_take 50 = .ok (.iload_n 3, 1) := by decide +kernel
theorem dX1_take_51 : decode cX1_take 51 = .ok (.iaload, 1) := by decide +kernel
theorem dX1_take_52 : decode cX1_take 52 = .ok (.aload_n 2, 1) := by decide +kernel
theorem dX1_take_53 : decode cX1_take 53 = .ok (.getfield 31, 3) := by decide +kernel
theorem dX1_take_56 : decode cX1_take 56 = .ok (.iload_n 3, 1) := by decide +kernel
theorem dX1_take_57 : decode cX1_take 57 = .ok (.iaload, 1) := by decide +kernel
theorem dX1_take_58 : decode cX1_take 58 = .ok (.isub, 1) := by decide +kernel
theorem dX1_take_59 : decode cX1_take 59 = .ok (.invokevirtual 35, 3) := by decide +kernel
theorem dX1_take_62 : decode cX1_take 62 = .ok (.aload_n 0, 1) := by decide +kernel
theorem dX1_take_63 : decode cX1_take 63 = .ok (.getfield 18, 3) := by decide +kernel
theorem dX1_take_66 : decode cX1_take 66 = .ok (.aload_n 1, 1) := by decide +kernel
theorem dX1_take_67 : decode cX1_take 67 = .ok (.getfield 39, 3) := by decide +kernel
theorem dX1_take_70 : decode cX1_take 70 = .ok (.iload_n 3, 1) := by decide +kernel
theorem dX1_take_71 : decode cX1_take 71 = .ok (.iaload, 1) := by decide +kernel
theorem dX1_take_72 : decode cX1_take 72 = .ok (.aload_n 2, 1) := by decide +kernel
theorem dX1_take_73 : decode cX1_take 73 = .ok (.getfield 39, 3) := by decide +kernel
theorem dX1_take_76 : decode cX1_take 76 = .ok (.iload_n 3, 1) := by decide +kernel
theorem dX1_take_77 : decode cX1_take 77 = .ok (.iaload, 1) := by decide +kernel
theorem dX1_take_78 : decode cX1_take 78 = .ok (.isub, 1) := by decide +kernel
theorem dX1_take_79 : decode cX1_take 79 = .ok (.invokevirtual 35, 3) := by decide +kernel
theorem dX1_take_82 : decode cX1_take 82 = .ok (.iinc 3 1, 3) := by decide +kernel
theorem dX1_take_85 : decode cX1_take 85 = .ok (.goto (-67), 3) := by decide +kernel
theorem dX1_take_88 : decode cX1_take 88 = .ok (.return_, 1) := by decide +kernel
theorem dX1_common_0 : decode cX1_common 0 = .ok (.aload_n 0, 1) := by decide +kernel
theorem dX1_common_1 : decode cX1_common 1 = .ok (.getfield 12, 3) := by decide +kernel
theorem dX1_common_4 : decode cX1_common 4 = .ok (.getfield 21, 3) := by decide +kernel
theorem dX1_common_7 : decode cX1_common 7 = .ok (.ireturn, 1) := by decide +kernel
theorem dX1_acrossShift_0 : decode cX1_acrossShift 0 = .ok (.aload_n 0, 1) := by decide +kernel
theorem dX1_acrossShift_1 : decode cX1_acrossShift 1 = .ok (.getfield 12, 3) := by decide +kernel
theorem dX1_acrossShift_4 : decode cX1_acrossShift 4 = .ok (.invokevirtual 42, 3) := by decide +kernel
theorem dX1_acrossShift_7 : decode cX1_acrossShift 7 = .ok (.ireturn, 1) := by decide +kernel
theorem dX1_upShift_0 : decode cX1_upShift 0 = .ok (.aload_n 0, 1) := by decide +kernel
theorem dX1_upShift_1 : decode cX1_upShift 1 = .ok (.getfield 18, 3) := by decide +kernel
theorem dX1_upShift_4 : decode cX1_upShift 4 = .ok (.invokevirtual 42, 3) := by decide +kernel
theorem dX1_upShift_7 : decode cX1_upShift 7 = .ok (.ireturn, 1) := by decide +kernel
theorem dX1_misfit_0 : decode cX1_misfit 0 = .ok (.aload_n 0, 1) := by decide +kernel
theorem dX1_misfit_1 : decode cX1_misfit 1 = .ok (.getfield 12, 3) := by decide +kernel
theorem dX1_misfit_4 : decode cX1_misfit 4 = .ok (.invokevirtual 46, 3) := by decide +kernel
theorem dX1_misfit_7 : decode cX1_misfit 7 = .ok (.aload_n 0, 1) := by decide +kernel
theorem dX1_misfit_8 : decode cX1_misfit 8 = .ok (.getfield 18, 3) := by decide +kernel
theorem dX1_misfit_11 : decode cX1_misfit 11 = .ok (.invokevirtual 46, 3) := by decide +kernel
theorem dX1_misfit_14 : decode cX1_misfit 14 = .ok (.iadd, 1) := by decide +kernel
theorem dX1_misfit_15 : decode cX1_misfit 15 = .ok (.ireturn, 1) := by decide +kernel
theorem dX2_init_0 : decode cX2_init 0 = .ok (.aload_n 0, 1) := by decide +kernel
theorem dX2_init_1 : decode cX2_init 1 = .ok (.invokespecial 3, 3) := by decide +kernel
theorem dX2_init_4 : decode cX2_init 4 = .ok (.return_, 1) := by decide +kernel
theorem dX2_take_0 : decode cX2_take 0 = .ok (.aload_n 1, 1) := by decide +kernel
theorem dX2_take_1 : decode cX2_take 1 = .ok (.getfield 9, 3) := by decide +kernel
theorem dX2_take_4 : decode cX2_take 4 = .ok (.iconst 2, 1) := by decide +kernel
theorem dX2_take_5 : decode cX2_take 5 = .ok (.iaload, 1) := by decide +kernel
theorem dX2_take_6 : decode cX2_take 6 = .ok (.istore_n 3, 1) := by decide +kernel
theorem dX2_take_7 : decode cX2_take 7 = .ok (.aload_n 0, 1) := by decide +kernel
theorem dX2_take_8 : decode cX2_take 8 = .ok (.iload_n 3, 1) := by decide +kernel
theorem dX2_take_9 : decode cX2_take 9 = .ok (.aload_n 2, 1) := by decide +kernel
theorem dX2_take_10 : decode cX2_take 10 = .ok (.invokestatic 15, 3) := by decide +kernel
theorem dX2_take_13 : decode cX2_take 13 = .ok (.putfield 19, 3) := by decide +kernel
theorem dX2_take_16 : decode cX2_take 16 = .ok (.aload_n 0, 1) := by decide +kernel
theorem dX2_take_17 : decode cX2_take 17 = .ok (.aload_n 0, 1) := by decide +kernel
theorem dX2_take_18 : decode cX2_take 18 = .ok (.getfield 19, 3) := by decide +kernel
theorem dX2_take_21 : decode cX2_take 21 = .ok (.invokestatic 25, 3) := by decide +kernel
theorem dX2_take_24 : decode cX2_take 24 = .ok (.putfield 29, 3) := by decide +kernel
theorem dX2_take_27 : decode cX2_take 27 = .ok (.aload_n 0, 1) := by decide +kernel
theorem dX2_take_28 : decode cX2_take 28 = .ok (.aload_n 1, 1) := by decide +kernel
theorem dX2_take_29 : decode cX2_take 29 = .ok (.iload_n 3, 1) := by decide +kernel
theorem dX2_take_30 : decode cX2_take 30 = .ok (.aload_n 0, 1) := by decide +kernel
theorem dX2_take_31 : decode cX2_take 31 = .ok (.getfield 29, 3) := by decide +kernel
theorem dX2_take_34 : decode cX2_take 34 = .ok (.invokevirtual 32, 3) := by decide +kernel
theorem dX2_take_37 : decode cX2_take 37 = .ok (.putfield 36, 3) := by decide +kernel
theorem dX2_take_40 : decode cX2_take 40 = .ok (.aload_n 0, 1) := by decide +kernel
theorem dX2_take_41 : decode cX2_take 41 = .ok (.aload_n 2, 1) := by decide +kernel
theorem dX2_take_42 : decode cX2_take 42 = .ok (.getfield 39, 3) := by decide +kernel
theorem dX2_take_45 : decode cX2_take 45 = .ok (.ineg, 1) := by decide +kernel
theorem dX2_take_46 : decode cX2_take 46 = .ok (.aload_n 0, 1) := by decide +kernel
theorem dX2_take_47 : decode cX2_take 47 = .ok (.getfield 36, 3) := by decide +kernel
theorem dX2_take_50 : decode cX2_take 50 = .ok (.imul, 1) := by decide +kernel
theorem dX2_take_51 : decode cX2_take 51 = .ok (.aload_n 2, 1) := by decide +kernel
theorem dX2_take_52 : decode cX2_take 52 = .ok (.getfield 44, 3) := by decide +kernel
theorem dX2_take_55 : decode cX2_take 55 = .ok (.invokestatic 47, 3) := by decide +kernel
theorem dX2_take_58 : decode cX2_take 58 = .ok (.putfield 50, 3) := by decide +kernel
theorem dX2_take_61 : decode cX2_take 61 = .ok (.aload_n 0, 1) := by decide +kernel
theorem dX2_take_62 : decode cX2_take 62 = .ok (.aload_n 1, 1) := by decide +kernel
theorem dX2_take_63 : decode cX2_take 63 = .ok (.getfield 9, 3) := by decide +kernel
theorem dX2_take_66 : decode cX2_take 66 = .ok (.iconst 3, 1) := by decide +kernel
theorem dX2_take_67 : decode cX2_take 67 = .ok (.iaload, 1) := by decide +kernel
theorem dX2_take_68 : decode cX2_take 68 = .ok (.iconst 1, 1) := by decide +kernel
theorem dX2_take_69 : decode cX2_take 69 = .ok (.if_icmp .ne 10, 3) := by decide +kernel
theorem dX2_take_72 : decode cX2_take 72 = .ok (.aload_n 2, 1) := by decide +kernel
theorem dX2_take_73 : decode cX2_take 73 = .ok (.getfield 51, 3) := by decide +kernel
theorem dX2_take_76 : decode cX2_take 76 = .ok (.goto 8, 3) := by decide +kernel
theorem dX2_take_79 : decode cX2_take 79 = .ok (.aload_n 2, 1) := by decide +kernel
theorem dX2_take_80 : decode cX2_take 80 = .ok (.getfield 51, 3) := by decide +kernel
theorem dX2_take_83 : decode cX2_take 83 = .ok (.ineg, 1) := by decide +kernel
theorem dX2_take_84 : decode cX2_take 84 = .ok (.aload_n 0, 1) := by decide +kernel
theorem dX2_take_85 : decode cX2_take 85 = .ok (.getfield 36, 3) := by decide +kernel
theorem dX2_take_88 : decode cX2_take 88 = .ok (.imul, 1) := by decide +kernel
theorem dX2_take_89 : decode cX2_take 89 = .ok (.aload_n 2, 1) := by decide +kernel
theorem dX2_take_90 : decode cX2_take 90 = .ok (.getfield 44, 3) := by decide +kernel
theorem dX2_take_93 : decode cX2_take 93 = .ok (.invokestatic 47, 3) := by decide +kernel
theorem dX2_take_96 : decode cX2_take 96 = .ok (.putfield 54, 3) := by decide +kernel
theorem dX2_take_99 : decode cX2_take 99 = .ok (.aload_n 0, 1) := by decide +kernel
theorem dX2_take_100 : decode cX2_take 100 = .ok (.aload_n 1, 1) := by decide +kernel
theorem dX2_take_101 : decode cX2_take 101 = .ok (.aload_n 0, 1) := by decide +kernel
theorem dX2_take_102 : decode cX2_take 102 = .ok (.getfield 36, 3) := by decide +kernel
theorem dX2_take_105 : decode cX2_take 105 = .ok (.aload_n 2, 1) := by decide +kernel
theorem dX2_take_106 : decode cX2_take 106 = .ok (.getfield 44, 3) := by decide +kernel
theorem dX2_take_109 : decode cX2_take 109 = .ok (.invokevirtual 55, 3) := by decide +kernel
theorem dX2_take_112 : decode cX2_take 112 = .ok (.putfield 58, 3) := by decide +kernel
theorem dX2_take_115 : decode cX2_take 115 = .ok (.return_, 1) := by decide +kernel
theorem dX3_init_0 : decode cX3_init 0 = .ok (.aload_n 0, 1) := by decide +kernel
theorem dX3_init_1 : decode cX3_init 1 = .ok (.invokespecial 3, 3) := by decide +kernel
theorem dX3_init_4 : decode cX3_init 4 = .ok (.aload_n 0, 1) := by decide +kernel
theorem dX3_init_5 : decode cX3_init 5 = .ok (.bipush 9, 2) := by decide +kernel
theorem dX3_init_7 : decode cX3_init 7 = .ok (.newarray .int, 2) := by decide +kernel
theorem dX3_init_9 : decode cX3_init 9 = .ok (.putfield 9, 3) := by decide +kernel
theorem dX3_init_12 : decode cX3_init 12 = .ok (.aload_n 0, 1) := by decide +kernel
theorem dX3_init_13 : decode cX3_init 13 = .ok (.bipush 9, 2) := by decide +kernel
theorem dX3_init_15 : decode cX3_init 15 = .ok (.newarray .int, 2) := by decide +kernel
theorem dX3_init_17 : decode cX3_init 17 = .ok (.putfield 15, 3) := by decide +kernel
theorem dX3_init_20 : decode cX3_init 20 = .ok (.aload_n 0, 1) := by decide +kernel
theorem dX3_init_21 : decode cX3_init 21 = .ok (.iconst 0, 1) := by decide +kernel
theorem dX3_init_22 : decode cX3_init 22 = .ok (.putfield 18, 3) := by decide +kernel
theorem dX3_init_25 : decode cX3_init 25 = .ok (.return_, 1) := by decide +kernel
theorem dX3_take_0 : decode cX3_take 0 = .ok (.aload_n 0, 1) := by decide +kernel
theorem dX3_take_1 : decode cX3_take 1 = .ok (.iconst 0, 1) := by decide +kernel
theorem dX3_take_2 : decode cX3_take 2 = .ok (.putfield 18, 3) := by decide +kernel
theorem dX3_take_5 : decode cX3_take 5 = .ok (.iconst 0, 1) := by decide +kernel
theorem dX3_take_6 : decode cX3_take 6 = .ok (.istore 4, 2) := by decide +kernel
theorem dX3_take_8 : decode cX3_take 8 = .ok (.iload 4, 2) := by decide +kernel
theorem dX3_take_10 : decode cX3_take 10 = .ok (.iload_n 2, 1) := by decide +kernel
theorem dX3_take_11 : decode cX3_take 11 = .ok (.if_icmp .ge 99, 3) := by decide +kernel
theorem dX3_take_14 : decode cX3_take 14 = .ok (.aload_n 3, 1) := by decide +kernel
theorem dX3_take_15 : decode cX3_take 15 = .ok (.aload_n 1, 1) := by decide +kernel
theorem dX3_take_16 : decode cX3_take 16 = .ok (.iload 4, 2) := by decide +kernel
theorem dX3_take_18 : decode cX3_take 18 = .ok (.aaload, 1) := by decide +kernel
theorem dX3_take_19 : decode cX3_take 19 = .ok (.aload_n 1, 1) := by decide +kernel
theorem dX3_take_20 : decode cX3_take 20 = .ok (.iload 4, 2) := by decide +kernel
theorem dX3_take_22 : decode cX3_take 22 = .ok (.iconst 1, 1) := by decide +kernel
theorem dX3_take_23 : decode cX3_take 23 = .ok (.iadd, 1) := by decide +kernel
theorem dX3_take_24 : decode cX3_take 24 = .ok (.iload_n 2, 1) := by decide +kernel
theorem dX3_take_25 : decode cX3_take 25 = .ok (.if_icmp .ge 10, 3) := by decide +kernel
theorem dX3_take_28 : decode cX3_take 28 = .ok (.iload 4, 2) := by decide +kernel
theorem dX3_take_30 : decode cX3_take 30 = .ok (.iconst 1, 1) := by decide +kernel
theorem dX3_take_31 : decode cX3_take 31 = .ok (.iadd, 1) := by decide +kernel
theorem dX3_take_32 : decode cX3_take 32 = .ok (.goto 4, 3) := by decide +kernel
theorem dX3_take_35 : decode cX3_take 35 = .ok (.iconst 0, 1) := by decide +kernel
theorem dX3_take_36 : decode cX3_take 36 = .ok (.aaload, 1) := by decide +kernel
theorem dX3_take_37 : decode cX3_take 37 = .ok (.invokevirtual 22, 3) := by decide +kernel
theorem dX3_take_40 : decode cX3_take 40 = .ok (.aload_n 3, 1) := by decide +kernel
theorem dX3_take_41 : decode cX3_take 41 = .ok (.invokevirtual 28, 3) := by decide +kernel
theorem dX3_take_44 : decode cX3_take 44 = .ok (.ifCond .ne 5, 3) := by decide +kernel
theorem dX3_take_47 : decode cX3_take 47 = .ok (.iconst 0, 1) := by decide +kernel
theorem dX3_take_48 : decode cX3_take 48 = .ok (.ireturn, 1) := by decide +kernel
theorem dX3_take_49 : decode cX3_take 49 = .ok (.aload_n 0, 1) := by decide +kernel
theorem dX3_take_50 : decode cX3_take 50 = .ok (.getfield 9, 3) := by decide +kernel
theorem dX3_take_53 : decode cX3_take 53 = .ok (.iload 4, 2) := by decide +kernel
theorem dX3_take_55 : decode cX3_take 55 = .ok (.iconst 1, 1) := by decide +kernel
theorem dX3_take_56 : decode cX3_take 56 = .ok (.iadd, 1) := by decide +kernel
theorem dX3_take_57 : decode cX3_take 57 = .ok (.aload_n 0, 1) := by decide +kernel
theorem dX3_take_58 : decode cX3_take 58 = .ok (.getfield 9, 3) := by decide +kernel
theorem dX3_take_61 : decode cX3_take 61 = .ok (.iload 4, 2) := by decide +kernel
theorem dX3_take_63 : decode cX3_take 63 = .ok (.iaload, 1) := by decide +kernel
theorem dX3_take_64 : decode cX3_take 64 = .ok (.aload_n 3, 1) := by decide +kernel
theorem dX3_take_65 : decode cX3_take 65 = .ok (.invokevirtual 32, 3) := by decide +kernel
theorem dX3_take_68 : decode cX3_take 68 = .ok (.iadd, 1) := by decide +kernel
theorem dX3_take_69 : decode cX3_take 69 = .ok (.iastore, 1) := by decide +kernel
theorem dX3_take_70 : decode cX3_take 70 = .ok (.aload_n 0, 1) := by decide +kernel
theorem dX3_take_71 : decode cX3_take 71 = .ok (.getfield 15, 3) := by decide +kernel
theorem dX3_take_74 : decode cX3_take 74 = .ok (.iload 4, 2) := by decide +kernel
theorem dX3_take_76 : decode cX3_take 76 = .ok (.iconst 1, 1) := by decide +kernel
theorem dX3_take_77 : decode cX3_take 77 = .ok (.iadd, 1) := by decide +kernel
theorem dX3_take_78 : decode cX3_take 78 = .ok (.aload_n 0, 1) := by decide +kernel
theorem dX3_take_79 : decode cX3_take 79 = .ok (.getfield 15, 3) := by decide +kernel
theorem dX3_take_82 : decode cX3_take 82 = .ok (.iload 4, 2) := by decide +kernel
theorem dX3_take_84 : decode cX3_take 84 = .ok (.iaload, 1) := by decide +kernel
theorem dX3_take_85 : decode cX3_take 85 = .ok (.aload_n 3, 1) := by decide +kernel
theorem dX3_take_86 : decode cX3_take 86 = .ok (.invokevirtual 35, 3) := by decide +kernel
theorem dX3_take_89 : decode cX3_take 89 = .ok (.iadd, 1) := by decide +kernel
theorem dX3_take_90 : decode cX3_take 90 = .ok (.iastore, 1) := by decide +kernel
theorem dX3_take_91 : decode cX3_take 91 = .ok (.aload_n 0, 1) := by decide +kernel
theorem dX3_take_92 : decode cX3_take 92 = .ok (.dup, 1) := by decide +kernel
theorem dX3_take_93 : decode cX3_take 93 = .ok (.getfield 18, 3) := by decide +kernel
theorem dX3_take_96 : decode cX3_take 96 = .ok (.aload_n 3, 1) := by decide +kernel
theorem dX3_take_97 : decode cX3_take 97 = .ok (.invokevirtual 38, 3) := by decide +kernel
theorem dX3_take_100 : decode cX3_take 100 = .ok (.iadd, 1) := by decide +kernel
theorem dX3_take_101 : decode cX3_take 101 = .ok (.putfield 18, 3) := by decide +kernel
theorem dX3_take_104 : decode cX3_take 104 = .ok (.iinc 4 1, 3) := by decide +kernel
theorem dX3_take_107 : decode cX3_take 107 = .ok (.goto (-99), 3) := by decide +kernel
theorem dX3_take_110 : decode cX3_take 110 = .ok (.iconst 1, 1) := by decide +kernel
theorem dX3_take_111 : decode cX3_take 111 = .ok (.ireturn, 1) := by decide +kernel
theorem dX4_init_0 : decode cX4_init 0 = .ok (.aload_n 0, 1) := by decide +kernel
theorem dX4_init_1 : decode cX4_init 1 = .ok (.invokespecial 3, 3) := by decide +kernel
theorem dX4_init_4 : decode cX4_init 4 = .ok (.aload_n 0, 1) := by decide +kernel
theorem dX4_init_5 : decode cX4_init 5 = .ok (.bipush 7, 2) := by decide +kernel
theorem dX4_init_7 : decode cX4_init 7 = .ok (.newarray .int, 2) := by decide +kernel
theorem dX4_init_9 : decode cX4_init 9 = .ok (.dup, 1) := by decide +kernel
theorem dX4_init_10 : decode cX4_init 10 = .ok (.iconst 0, 1) := by decide +kernel
theorem dX4_init_11 : decode cX4_init 11 = .ok (.iconst 0, 1) := by decide +kernel
theorem dX4_init_12 : decode cX4_init 12 = .ok (.iastore, 1) := by decide +kernel
theorem dX4_init_13 : decode cX4_init 13 = .ok (.dup, 1) := by decide +kernel
theorem dX4_init_14 : decode cX4_init 14 = .ok (.iconst 1, 1) := by decide +kernel
theorem dX4_init_15 : decode cX4_init 15 = .ok (.bipush 10, 2) := by decide +kernel
theorem dX4_init_17 : decode cX4_init 17 = .ok (.iastore, 1) := by decide +kernel
theorem dX4_init_18 : decode cX4_init 18 = .ok (.dup, 1) := by decide +kernel
theorem dX4_init_19 : decode cX4_init 19 = .ok (.iconst 2, 1) := by decide +kernel
theorem dX4_init_20 : decode cX4_init 20 = .ok (.bipush 100, 2) := by decide +kernel
theorem dX4_init_22 : decode cX4_init 22 = .ok (.iastore, 1) := by decide +kernel
theorem dX4_init_23 : decode cX4_init 23 = .ok (.dup, 1) := by decide +kernel
theorem dX4_init_24 : decode cX4_init 24 = .ok (.iconst 3, 1) := by decide +kernel
theorem dX4_init_25 : decode cX4_init 25 = .ok (.iconst 0, 1) := by decide +kernel
theorem dX4_init_26 : decode cX4_init 26 = .ok (.iastore, 1) := by decide +kernel
theorem dX4_init_27 : decode cX4_init 27 = .ok (.dup, 1) := by decide +kernel
theorem dX4_init_28 : decode cX4_init 28 = .ok (.iconst 4, 1) := by decide +kernel
theorem dX4_init_29 : decode cX4_init 29 = .ok (.iconst 5, 1) := by decide +kernel
theorem dX4_init_30 : decode cX4_init 30 = .ok (.iastore, 1) := by decide +kernel
theorem dX4_init_31 : decode cX4_init 31 = .ok (.dup, 1) := by decide +kernel
theorem dX4_init_32 : decode cX4_init 32 = .ok (.iconst 5, 1) := by decide +kernel
theorem dX4_init_33 : decode cX4_init 33 = .ok (.sipush 160, 3) := by decide +kernel
theorem dX4_init_36 : decode cX4_init 36 = .ok (.iastore, 1) := by decide +kernel
theorem dX4_init_37 : decode cX4_init 37 = .ok (.dup, 1) := by decide +kernel
theorem dX4_init_38 : decode cX4_init 38 = .ok (.bipush 6, 2) := by decide +kernel
theorem dX4_init_40 : decode cX4_init 40 = .ok (.bipush 100, 2) := by decide +kernel
theorem dX4_init_42 : decode cX4_init 42 = .ok (.iastore, 1) := by decide +kernel
theorem dX4_init_43 : decode cX4_init 43 = .ok (.putfield 9, 3) := by decide +kernel
theorem dX4_init_46 : decode cX4_init 46 = .ok (.aload_n 0, 1) := by decide +kernel
theorem dX4_init_47 : decode cX4_init 47 = .ok (.bipush 17, 2) := by decide +kernel
theorem dX4_init_49 : decode cX4_init 49 = .ok (.newarray .int, 2) := by decide +kernel
theorem dX4_init_51 : decode cX4_init 51 = .ok (.putfield 15, 3) := by decide +kernel
theorem dX4_init_54 : decode cX4_init 54 = .ok (.aload_n 0, 1) := by decide +kernel
theorem dX4_init_55 : decode cX4_init 55 = .ok (.bipush 101, 2) := by decide +kernel
theorem dX4_init_57 : decode cX4_init 57 = .ok (.newarray .int, 2) := by decide +kernel
theorem dX4_init_59 : decode cX4_init 59 = .ok (.putfield 18, 3) := by decide +kernel
theorem dX4_init_62 : decode cX4_init 62 = .ok (.return_, 1) := by decide +kernel
theorem dX4_firstAt_0 : decode cX4_firstAt 0 = .ok (.aload_n 1, 1) := by decide +kernel
theorem dX4_firstAt_1 : decode cX4_firstAt 1 = .ok (.getfield 21, 3) := by decide +kernel
theorem dX4_firstAt_4 : decode cX4_firstAt 4 = .ok (.ineg, 1) := by decide +kernel
theorem dX4_firstAt_5 : decode cX4_firstAt 5 = .ok (.iload_n 0, 1) := by decide +kernel
theorem dX4_firstAt_6 : decode cX4_firstAt 6 = .ok (.imul, 1) := by decide +kernel
theorem dX4_firstAt_7 : decode cX4_firstAt 7 = .ok (.aload_n 1, 1) := by decide +kernel
theorem dX4_firstAt_8 : decode cX4_firstAt 8 = .ok (.getfield 27, 3) := by decide +kernel
theorem dX4_firstAt_11 : decode cX4_firstAt 11 = .ok (.invokestatic 30, 3) := by decide +kernel
theorem dX4_firstAt_14 : decode cX4_firstAt 14 = .ok (.ireturn, 1) := by decide +kernel
theorem dX4_columnOf_0 : decode cX4_columnOf 0 = .ok (.iload_n 0, 1) := by decide +kernel
theorem dX4_columnOf_1 : decode cX4_columnOf 1 = .ok (.bipush 10, 2) := by decide +kernel
theorem dX4_columnOf_3 : decode cX4_columnOf 3 = .ok (.iadd, 1) := by decide +kernel
theorem dX4_columnOf_4 : decode cX4_columnOf 4 = .ok (.bipush 20, 2) := by decide +kernel
theorem dX4_columnOf_6 : decode cX4_columnOf 6 = .ok (.invokestatic 34, 3) := by decide +kernel
theorem dX4_columnOf_9 : decode cX4_columnOf 9 = .ok (.istore_n 1, 1) := by decide +kernel
theorem dX4_columnOf_10 : decode cX4_columnOf 10 = .ok (.bipush (-8), 2) := by decide +kernel
theorem dX4_columnOf_12 : decode cX4_columnOf 12 = .ok (.bipush 8, 2) := by decide +kernel
theorem dX4_columnOf_14 : decode cX4_columnOf 14 = .ok (.iload_n 1, 1) := by decide +kernel
theorem dX4_columnOf_15 : decode cX4_columnOf 15 = .ok (.invokestatic 39, 3) := by decide +kernel
theorem dX4_columnOf_18 : decode cX4_columnOf 18 = .ok (.invokestatic 42, 3) := by decide +kernel
theorem dX4_columnOf_21 : decode cX4_columnOf 21 = .ok (.ireturn, 1) := by decide +kernel
theorem dX4_columnAt_0 : decode cX4_columnAt 0 = .ok (.iload_n 0, 1) := by decide +kernel
theorem dX4_columnAt_1 : decode cX4_columnAt 1 = .ok (.aload_n 1, 1) := by decide +kernel
theorem dX4_columnAt_2 : decode cX4_columnAt 2 = .ok (.invokestatic 45, 3) := by decide +kernel
theorem dX4_columnAt_5 : decode cX4_columnAt 5 = .ok (.invokestatic 49, 3) := by decide +kernel
theorem dX4_columnAt_8 : decode cX4_columnAt 8 = .ok (.ireturn, 1) := by decide +kernel
theorem dX4_reach_0 : decode cX4_reach 0 = .ok (.iconst 1, 1) := by decide +kernel
theorem dX4_reach_1 : decode cX4_reach 1 = .ok (.iload_n 1, 1) := by decide +kernel
theorem dX4_reach_2 : decode cX4_reach 2 = .ok (.aload_n 0, 1) := by decide +kernel
theorem dX4_reach_3 : decode cX4_reach 3 = .ok (.getfield 15, 3) := by decide +kernel
theorem dX4_reach_6 : decode cX4_reach 6 = .ok (.iload_n 2, 1) := by decide +kernel
theorem dX4_reach_7 : decode cX4_reach 7 = .ok (.bipush 8, 2) := by decide +kernel
theorem dX4_reach_9 : decode cX4_reach 9 = .ok (.iadd, 1) := by decide +kernel
theorem dX4_reach_10 : decode cX4_reach 10 = .ok (.iaload, 1) := by decide +kernel
theorem dX4_reach_11 : decode cX4_reach 11 = .ok (.iadd, 1) := by decide +kernel
theorem dX4_reach_12 : decode cX4_reach 12 = .ok (.invokestatic 42, 3) := by decide +kernel
theorem dX4_reach_15 : decode cX4_reach 15 = .ok (.ireturn, 1) := by decide +kernel
theorem dX4_blurBy_0 : decode cX4_blurBy 0 = .ok (.aload_n 0, 1) := by decide +kernel
theorem dX4_blurBy_1 : decode cX4_blurBy 1 = .ok (.getfield 9, 3) := by decide +kernel
theorem dX4_blurBy_4 : decode cX4_blurBy 4 = .ok (.iconst 0, 1) := by decide +kernel
theorem dX4_blurBy_5 : decode cX4_blurBy 5 = .ok (.iaload, 1) := by decide +kernel
theorem dX4_blurBy_6 : decode cX4_blurBy 6 = .ok (.istore_n 3, 1) := by decide +kernel
theorem dX4_blurBy_7 : decode cX4_blurBy 7 = .ok (.iload_n 3, 1) := by decide +kernel
theorem dX4_blurBy_8 : decode cX4_blurBy 8 = .ok (.ifCond .ne 18, 3) := by decide +kernel
theorem dX4_blurBy_11 : decode cX4_blurBy 11 = .ok (.aload_n 0, 1) := by decide +kernel
theorem dX4_blurBy_12 : decode cX4_blurBy 12 = .ok (.getfield 9, 3) := by decide +kernel
theorem dX4_blurBy_15 : decode cX4_blurBy 15 = .ok (.iconst 1, 1) := by decide +kernel
theorem dX4_blurBy_16 : decode cX4_blurBy 16 = .ok (.iaload, 1) := by decide +kernel
theorem dX4_blurBy_17 : decode cX4_blurBy 17 = .ok (.iload_n 2, 1) := by decide +kernel
theorem dX4_blurBy_18 : decode cX4_blurBy 18 = .ok (.iload_n 1, 1) := by decide +kernel
theorem dX4_blurBy_19 : decode cX4_blurBy 19 = .ok (.iadd, 1) := by decide +kernel
theorem dX4_blurBy_20 : decode cX4_blurBy 20 = .ok (.imul, 1) := by decide +kernel
theorem dX4_blurBy_21 : decode cX4_blurBy 21 = .ok (.iload_n 2, 1) := by decide +kernel
theorem dX4_blurBy_22 : decode cX4_blurBy 22 = .ok (.invokestatic 30, 3) := by decide +kernel
theorem dX4_blurBy_25 : decode cX4_blurBy 25 = .ok (.ireturn, 1) := by decide +kernel
theorem dX4_blurBy_26 : decode cX4_blurBy 26 = .ok (.aload_n 0, 1) := by decide +kernel
theorem dX4_blurBy_27 : decode cX4_blurBy 27 = .ok (.getfield 9, 3) := by decide +kernel
theorem dX4_blurBy_30 : decode cX4_blurBy 30 = .ok (.iconst 1, 1) := by decide +kernel
theorem dX4_blurBy_31 : decode cX4_blurBy 31 = .ok (.iaload, 1) := by decide +kernel
theorem dX4_blurBy_32 : decode cX4_blurBy 32 = .ok (.iload_n 1, 1) := by decide +kernel
theorem dX4_blurBy_33 : decode cX4_blurBy 33 = .ok (.iload_n 2, 1) := by decide +kernel
theorem dX4_blurBy_34 : decode cX4_blurBy 34 = .ok (.iload_n 3, 1) := by decide +kernel
theorem dX4_blurBy_35 : decode cX4_blurBy 35 = .ok (.isub, 1) := by decide +kernel
theorem dX4_blurBy_36 : decode cX4_blurBy 36 = .ok (.imul, 1) := by decide +kernel
theorem dX4_blurBy_37 : decode cX4_blurBy 37 = .ok (.iload_n 3, 1) := by decide +kernel
theorem dX4_blurBy_38 : decode cX4_blurBy 38 = .ok (.iload_n 2, 1) := by decide +kernel
theorem dX4_blurBy_39 : decode cX4_blurBy 39 = .ok (.imul, 1) := by decide +kernel
theorem dX4_blurBy_40 : decode cX4_blurBy 40 = .ok (.isub, 1) := by decide +kernel
theorem dX4_blurBy_41 : decode cX4_blurBy 41 = .ok (.invokestatic 53, 3) := by decide +kernel
theorem dX4_blurBy_44 : decode cX4_blurBy 44 = .ok (.imul, 1) := by decide +kernel
theorem dX4_blurBy_45 : decode cX4_blurBy 45 = .ok (.iload_n 3, 1) := by decide +kernel
theorem dX4_blurBy_46 : decode cX4_blurBy 46 = .ok (.iload_n 2, 1) := by decide +kernel
theorem dX4_blurBy_47 : decode cX4_blurBy 47 = .ok (.imul, 1) := by decide +kernel
theorem dX4_blurBy_48 : decode cX4_blurBy 48 = .ok (.invokestatic 30, 3) := by decide +kernel
theorem dX4_blurBy_51 : decode cX4_blurBy 51 = .ok (.ireturn, 1) := by decide +kernel
theorem dX4_blurAt_0 : decode cX4_blurAt 0 = .ok (.aload_n 0, 1) := by decide +kernel
theorem dX4_blurAt_1 : decode cX4_blurAt 1 = .ok (.aload_n 0, 1) := by decide +kernel
theorem dX4_blurAt_2 : decode cX4_blurAt 2 = .ok (.iload_n 1, 1) := by decide +kernel
theorem dX4_blurAt_3 : decode cX4_blurAt 3 = .ok (.iload_n 1, 1) := by decide +kernel
theorem dX4_blurAt_4 : decode cX4_blurAt 4 = .ok (.aload_n 2, 1) := by decide +kernel
theorem dX4_blurAt_5 : decode cX4_blurAt 5 = .ok (.invokestatic 56, 3) := by decide +kernel
theorem dX4_blurAt_8 : decode cX4_blurAt 8 = .ok (.invokevirtual 59, 3) := by decide +kernel
theorem dX4_blurAt_11 : decode cX4_blurAt 11 = .ok (.aload_n 2, 1) := by decide +kernel
theorem dX4_blurAt_12 : decode cX4_blurAt 12 = .ok (.getfield 27, 3) := by decide +kernel
theorem dX4_blurAt_15 : decode cX4_blurAt 15 = .ok (.invokevirtual 62, 3) := by decide +kernel
theorem dX4_blurAt_18 : decode cX4_blurAt 18 = .ok (.ireturn, 1) := by decide +kernel
theorem dX4_sharpestDepth_0 : decode cX4_sharpestDepth 0 = .ok (.iconst 1, 1) := by decide +kernel
theorem dX4_sharpestDepth_1 : decode cX4_sharpestDepth 1 = .ok (.istore_n 2, 1) := by decide +kernel
theorem dX4_sharpestDepth_2 : decode cX4_sharpestDepth 2 = .ok (.aload_n 0, 1) := by decide +kernel
theorem dX4_sharpestDepth_3 : decode cX4_sharpestDepth 3 = .ok (.iconst 1, 1) := by decide +kernel
theorem dX4_sharpestDepth_4 : decode cX4_sharpestDepth 4 = .ok (.aload_n 1, 1) := by decide +kernel
theorem dX4_sharpestDepth_5 : decode cX4_sharpestDepth 5 = .ok (.invokevirtual 65, 3) := by decide +kernel
theorem dX4_sharpestDepth_8 : decode cX4_sharpestDepth 8 = .ok (.istore_n 3, 1) := by decide +kernel
theorem dX4_sharpestDepth_9 : decode cX4_sharpestDepth 9 = .ok (.iconst 2, 1) := by decide +kernel
theorem dX4_sharpestDepth_10 : decode cX4_sharpestDepth 10 = .ok (.istore 4, 2) := by decide +kernel
theorem dX4_sharpestDepth_12 : decode cX4_sharpestDepth 12 = .ok (.iload 4, 2) := by decide +kernel
theorem dX4_sharpestDepth_14 : decode cX4_sharpestDepth 14 = .ok (.sipush 1000, 3) := by decide +kernel
theorem dX4_sharpestDepth_17 : decode cX4_sharpestDepth 17 = .ok (.if_icmp .gt 34, 3) := by decide +kernel
theorem dX4_sharpestDepth_20 : decode cX4_sharpestDepth 20 = .ok (.iload_n 3, 1) := by decide +kernel
theorem dX4_sharpestDepth_21 : decode cX4_sharpestDepth 21 = .ok (.ifCond .le 30, 3) := by decide +kernel
theorem dX4_sharpestDepth_24 : decode cX4_sharpestDepth 24 = .ok (.aload_n 0, 1) := by decide +kernel
theorem dX4_sharpestDepth_25 : decode cX4_sharpestDepth 25 = .ok (.iload 4, 2) := by decide +kernel
theorem dX4_sharpestDepth_27 : decode cX4_sharpestDepth 27 = .ok (.aload_n 1, 1) := by decide +kernel
theorem dX4_sharpestDepth_28 : decode cX4_sharpestDepth 28 = .ok (.invokevirtual 65, 3) := by decide +kernel
theorem dX4_sharpestDepth_31 : decode cX4_sharpestDepth 31 = .ok (.istore 5, 2) := by decide +kernel
theorem dX4_sharpestDepth_33 : decode cX4_sharpestDepth 33 = .ok (.iload 5, 2) := by decide +kernel
theorem dX4_sharpestDepth_35 : decode cX4_sharpestDepth 35 = .ok (.iload_n 3, 1) := by decide +kernel
theorem dX4_sharpestDepth_36 : decode cX4_sharpestDepth 36 = .ok (.if_icmp .ge 9, 3) := by decide +kernel
theorem dX4_sharpestDepth_39 : decode cX4_sharpestDepth 39 = .ok (.iload 5, 2) := by decide +kernel
theorem dX4_sharpestDepth_41 : decode cX4_sharpestDepth 41 = .ok (.istore_n 3, 1) := by decide +kernel
theorem dX4_sharpestDepth_42 : decode cX4_sharpestDepth 42 = .ok (.iload 4, 2) := by decide +kernel
theorem dX4_sharpestDepth_44 : decode cX4_sharpestDepth 44 = .ok (.istore_n 2, 1) := by decide +kernel
theorem dX4_sharpestDepth_45 : decode cX4_sharpestDepth 45 = .ok (.iinc 4 1, 3) := by decide +kernel
theorem dX4_sharpestDepth_48 : decode cX4_sharpestDepth 48 = .ok (.goto (-36), 3) := by decide +kernel
theorem dX4_sharpestDepth_51 : decode cX4_sharpestDepth 51 = .ok (.iload_n 2, 1) := by decide +kernel
theorem dX4_sharpestDepth_52 : decode cX4_sharpestDepth 52 = .ok (.ireturn, 1) := by decide +kernel
theorem dX4_clearBlurs_0 : decode cX4_clearBlurs 0 = .ok (.iconst 0, 1) := by decide +kernel
theorem dX4_clearBlurs_1 : decode cX4_clearBlurs 1 = .ok (.istore_n 1, 1) := by decide +kernel
theorem dX4_clearBlurs_2 : decode cX4_clearBlurs 2 = .ok (.iload_n 1, 1) := by decide +kernel
theorem dX4_clearBlurs_3 : decode cX4_clearBlurs 3 = .ok (.aload_n 0, 1) := by decide +kernel
theorem dX4_clearBlurs_4 : decode cX4_clearBlurs 4 = .ok (.getfield 18, 3) := by decide +kernel
theorem dX4_clearBlurs_7 : decode cX4_clearBlurs 7 = .ok (.arraylength, 1) := by decide +kernel
theorem dX4_clearBlurs_8 : decode cX4_clearBlurs 8 = .ok (.if_icmp .ge 16, 3) := by decide +kernel
theorem dX4_clearBlurs_11 : decode cX4_clearBlurs 11 = .ok (.aload_n 0, 1) := by decide +kernel
theorem dX4_clearBlurs_12 : decode cX4_clearBlurs 12 = .ok (.getfield 18, 3) := by decide +kernel
theorem dX4_clearBlurs_15 : decode cX4_clearBlurs 15 = .ok (.iload_n 1, 1) := by decide +kernel
theorem dX4_clearBlurs_16 : decode cX4_clearBlurs 16 = .ok (.iconst 0, 1) := by decide +kernel
theorem dX4_clearBlurs_17 : decode cX4_clearBlurs 17 = .ok (.iastore, 1) := by decide +kernel
theorem dX4_clearBlurs_18 : decode cX4_clearBlurs 18 = .ok (.iinc 1 1, 3) := by decide +kernel
theorem dX4_clearBlurs_21 : decode cX4_clearBlurs 21 = .ok (.goto (-19), 3) := by decide +kernel
theorem dX4_clearBlurs_24 : decode cX4_clearBlurs 24 = .ok (.return_, 1) := by decide +kernel
theorem dX4_addBlurs_0 : decode cX4_addBlurs 0 = .ok (.bipush (-50), 2) := by decide +kernel
theorem dX4_addBlurs_2 : decode cX4_addBlurs 2 = .ok (.istore_n 2, 1) := by decide +kernel
theorem dX4_addBlurs_3 : decode cX4_addBlurs 3 = .ok (.iload_n 2, 1) := by decide +kernel
theorem dX4_addBlurs_4 : decode cX4_addBlurs 4 = .ok (.bipush 50, 2) := by decide +kernel
theorem dX4_addBlurs_6 : decode cX4_addBlurs 6 = .ok (.if_icmp .gt 40, 3) := by decide +kernel
theorem dX4_addBlurs_9 : decode cX4_addBlurs 9 = .ok (.iconst 1, 1) := by decide +kernel
theorem dX4_addBlurs_10 : decode cX4_addBlurs 10 = .ok (.aload_n 0, 1) := by decide +kernel
theorem dX4_addBlurs_11 : decode cX4_addBlurs 11 = .ok (.getfield 9, 3) := by decide +kernel
theorem dX4_addBlurs_14 : decode cX4_addBlurs 14 = .ok (.iconst 2, 1) := by decide +kernel
theorem dX4_addBlurs_15 : decode cX4_addBlurs 15 = .ok (.iaload, 1) := by decide +kernel
theorem dX4_addBlurs_16 : decode cX4_addBlurs 16 = .ok (.iload_n 2, 1) := by decide +kernel
theorem dX4_addBlurs_17 : decode cX4_addBlurs 17 = .ok (.iadd, 1) := by decide +kernel
theorem dX4_addBlurs_18 : decode cX4_addBlurs 18 = .ok (.invokestatic 42, 3) := by decide +kernel
theorem dX4_addBlurs_21 : decode cX4_addBlurs 21 = .ok (.istore_n 3, 1) := by decide +kernel
theorem dX4_addBlurs_22 : decode cX4_addBlurs 22 = .ok (.aload_n 0, 1) := by decide +kernel
theorem dX4_addBlurs_23 : decode cX4_addBlurs 23 = .ok (.getfield 18, 3) := by decide +kernel
theorem dX4_addBlurs_26 : decode cX4_addBlurs 26 = .ok (.iload_n 2, 1) := by decide +kernel
theorem dX4_addBlurs_27 : decode cX4_addBlurs 27 = .ok (.bipush 50, 2) := by decide +kernel
theorem dX4_addBlurs_29 : decode cX4_addBlurs 29 = .ok (.iadd, 1) := by decide +kernel
theorem dX4_addBlurs_30 : decode cX4_addBlurs 30 = .ok (.dup2, 1) := by decide +kernel
theorem dX4_addBlurs_31 : decode cX4_addBlurs 31 = .ok (.iaload, 1) := by decide +kernel
theorem dX4_addBlurs_32 : decode cX4_addBlurs 32 = .ok (.aload_n 0, 1) := by decide +kernel
theorem dX4_addBlurs_33 : decode cX4_addBlurs 33 = .ok (.iload_n 3, 1) := by decide +kernel
theorem dX4_addBlurs_34 : decode cX4_addBlurs 34 = .ok (.iload_n 1, 1) := by decide +kernel
theorem dX4_addBlurs_35 : decode cX4_addBlurs 35 = .ok (.invokevirtual 62, 3) := by decide +kernel
theorem dX4_addBlurs_38 : decode cX4_addBlurs 38 = .ok (.iadd, 1) := by decide +kernel
theorem dX4_addBlurs_39 : decode cX4_addBlurs 39 = .ok (.iastore, 1) := by decide +kernel
theorem dX4_addBlurs_40 : decode cX4_addBlurs 40 = .ok (.iinc 2 1, 3) := by decide +kernel
theorem dX4_addBlurs_43 : decode cX4_addBlurs 43 = .ok (.goto (-40), 3) := by decide +kernel
theorem dX4_addBlurs_46 : decode cX4_addBlurs 46 = .ok (.return_, 1) := by decide +kernel
theorem dX4_bestBend_0 : decode cX4_bestBend 0 = .ok (.iconst 0, 1) := by decide +kernel
theorem dX4_bestBend_1 : decode cX4_bestBend 1 = .ok (.istore_n 1, 1) := by decide +kernel
theorem dX4_bestBend_2 : decode cX4_bestBend 2 = .ok (.iconst 1, 1) := by decide +kernel
theorem dX4_bestBend_3 : decode cX4_bestBend 3 = .ok (.istore_n 2, 1) := by decide +kernel
theorem dX4_bestBend_4 : decode cX4_bestBend 4 = .ok (.iload_n 2, 1) := by decide +kernel
theorem dX4_bestBend_5 : decode cX4_bestBend 5 = .ok (.bipush 50, 2) := by decide +kernel
theorem dX4_bestBend_7 : decode cX4_bestBend 7 = .ok (.if_icmp .gt 56, 3) := by decide +kernel
theorem dX4_bestBend_10 : decode cX4_bestBend 10 = .ok (.aload_n 0, 1) := by decide +kernel
theorem dX4_bestBend_11 : decode cX4_bestBend 11 = .ok (.getfield 18, 3) := by decide +kernel
theorem dX4_bestBend_14 : decode cX4_bestBend 14 = .ok (.bipush 50, 2) := by decide +kernel
theorem dX4_bestBend_16 : decode cX4_bestBend 16 = .ok (.iload_n 2, 1) := by decide +kernel
theorem dX4_bestBend_17 : decode cX4_bestBend 17 = .ok (.isub, 1) := by decide +kernel
theorem dX4_bestBend_18 : decode cX4_bestBend 18 = .ok (.iaload, 1) := by decide +kernel
theorem dX4_bestBend_19 : decode cX4_bestBend 19 = .ok (.aload_n 0, 1) := by decide +kernel
theorem dX4_bestBend_20 : decode cX4_bestBend 20 = .ok (.getfield 18, 3) := by decide +kernel
theorem dX4_bestBend_23 : decode cX4_bestBend 23 = .ok (.bipush 50, 2) := by decide +kernel
theorem dX4_bestBend_25 : decode cX4_bestBend 25 = .ok (.iload_n 1, 1) := by decide +kernel
theorem dX4_bestBend_26 : decode cX4_bestBend 26 = .ok (.iadd, 1) := by decide +kernel
theorem dX4_bestBend_27 : decode cX4_bestBend 27 = .ok (.iaload, 1) := by decide +kernel
theorem dX4_bestBend_28 : decode cX4_bestBend 28 = .ok (.if_icmp .ge 6, 3) := by decide +kernel
theorem dX4_bestBend_31 : decode cX4_bestBend 31 = .ok (.iload_n 2, 1) := by decide +kernel
theorem dX4_bestBend_32 : decode cX4_bestBend 32 = .ok (.ineg, 1) := by decide +kernel
theorem dX4_bestBend_33 : decode cX4_bestBend 33 = .ok (.istore_n 1, 1) := by decide +kernel
theorem dX4_bestBend_34 : decode cX4_bestBend 34 = .ok (.aload_n 0, 1) := by decide +kernel
theorem dX4_bestBend_35 : decode cX4_bestBend 35 = .ok (.getfield 18, 3) := by decide +kernel
theorem dX4_bestBend_38 : decode cX4_bestBend 38 = .ok (.bipush 50, 2) := by decide +kernel
theorem dX4_bestBend_40 : decode cX4_bestBend 40 = .ok (.iload_n 2, 1) := by decide +kernel
theorem dX4_bestBend_41 : decode cX4_bestBend 41 = .ok (.iadd, 1) := by decide +kernel
theorem dX4_bestBend_42 : decode cX4_bestBend 42 = .ok (.iaload, 1) := by decide +kernel
theorem dX4_bestBend_43 : decode cX4_bestBend 43 = .ok (.aload_n 0, 1) := by decide +kernel
theorem dX4_bestBend_44 : decode cX4_bestBend 44 = .ok (.getfield 18, 3) := by decide +kernel
theorem dX4_bestBend_47 : decode cX4_bestBend 47 = .ok (.bipush 50, 2) := by decide +kernel
theorem dX4_bestBend_49 : decode cX4_bestBend 49 = .ok (.iload_n 1, 1) := by decide +kernel
theorem dX4_bestBend_50 : decode cX4_bestBend 50 = .ok (.iadd, 1) := by decide +kernel
theorem dX4_bestBend_51 : decode cX4_bestBend 51 = .ok (.iaload, 1) := by decide +kernel
theorem dX4_bestBend_52 : decode cX4_bestBend 52 = .ok (.if_icmp .ge 5, 3) := by decide +kernel
theorem dX4_bestBend_55 : decode cX4_bestBend 55 = .ok (.iload_n 2, 1) := by decide +kernel
theorem dX4_bestBend_56 : decode cX4_bestBend 56 = .ok (.istore_n 1, 1) := by decide +kernel
theorem dX4_bestBend_57 : decode cX4_bestBend 57 = .ok (.iinc 2 1, 3) := by decide +kernel
theorem dX4_bestBend_60 : decode cX4_bestBend 60 = .ok (.goto (-56), 3) := by decide +kernel
theorem dX4_bestBend_63 : decode cX4_bestBend 63 = .ok (.iload_n 1, 1) := by decide +kernel
theorem dX4_bestBend_64 : decode cX4_bestBend 64 = .ok (.ireturn, 1) := by decide +kernel
theorem dX4_shows_0 : decode cX4_shows 0 = .ok (.aload_n 1, 1) := by decide +kernel
theorem dX4_shows_1 : decode cX4_shows 1 = .ok (.getfield 68, 3) := by decide +kernel
theorem dX4_shows_4 : decode cX4_shows 4 = .ok (.aload_n 0, 1) := by decide +kernel
theorem dX4_shows_5 : decode cX4_shows 5 = .ok (.getfield 9, 3) := by decide +kernel
theorem dX4_shows_8 : decode cX4_shows 8 = .ok (.iconst 5, 1) := by decide +kernel
theorem dX4_shows_9 : decode cX4_shows 9 = .ok (.iaload, 1) := by decide +kernel
theorem dX4_shows_10 : decode cX4_shows 10 = .ok (.ineg, 1) := by decide +kernel
theorem dX4_shows_11 : decode cX4_shows 11 = .ok (.aload_n 0, 1) := by decide +kernel
theorem dX4_shows_12 : decode cX4_shows 12 = .ok (.getfield 9, 3) := by decide +kernel
theorem dX4_shows_15 : decode cX4_shows 15 = .ok (.iconst 5, 1) := by decide +kernel
theorem dX4_shows_16 : decode cX4_shows 16 = .ok (.iaload, 1) := by decide +kernel
theorem dX4_shows_17 : decode cX4_shows 17 = .ok (.invokestatic 71, 3) := by decide +kernel
theorem dX4_shows_20 : decode cX4_shows 20 = .ok (.ifCond .eq 32, 3) := by decide +kernel
theorem dX4_shows_23 : decode cX4_shows 23 = .ok (.aload_n 1, 1) := by decide +kernel
theorem dX4_shows_24 : decode cX4_shows 24 = .ok (.getfield 75, 3) := by decide +kernel
theorem dX4_shows_27 : decode cX4_shows 27 = .ok (.aload_n 0, 1) := by decide +kernel
theorem dX4_shows_28 : decode cX4_shows 28 = .ok (.getfield 9, 3) := by decide +kernel
theorem dX4_shows_31 : decode cX4_shows 31 = .ok (.bipush 6, 2) := by decide +kernel
theorem dX4_shows_33 : decode cX4_shows 33 = .ok (.iaload, 1) := by decide +kernel
theorem dX4_shows_34 : decode cX4_shows 34 = .ok (.ineg, 1) := by decide +kernel
theorem dX4_shows_35 : decode cX4_shows 35 = .ok (.aload_n 0, 1) := by decide +kernel
theorem dX4_shows_36 : decode cX4_shows 36 = .ok (.getfield 9, 3) := by decide +kernel
theorem dX4_shows_39 : decode cX4_shows 39 = .ok (.bipush 6, 2) := by decide +kernel
theorem dX4_shows_41 : decode cX4_shows 41 = .ok (.iaload, 1) := by decide +kernel
theorem dX4_shows_42 : decode cX4_shows 42 = .ok (.invokestatic 71, 3) := by decide +kernel
theorem dX4_shows_45 : decode cX4_shows 45 = .ok (.ifCond .eq 7, 3) := by decide +kernel
theorem dX4_shows_48 : decode cX4_shows 48 = .ok (.iconst 1, 1) := by decide +kernel
theorem dX4_shows_49 : decode cX4_shows 49 = .ok (.goto 4, 3) := by decide +kernel
theorem dX4_shows_52 : decode cX4_shows 52 = .ok (.iconst 0, 1) := by decide +kernel
theorem dX4_shows_53 : decode cX4_shows 53 = .ok (.ireturn, 1) := by decide +kernel
theorem dX4_bendsMade_0 : decode cX4_bendsMade 0 = .ok (.iconst 0, 1) := by decide +kernel
theorem dX4_bendsMade_1 : decode cX4_bendsMade 1 = .ok (.istore_n 1, 1) := by decide +kernel
theorem dX4_bendsMade_2 : decode cX4_bendsMade 2 = .ok (.iconst 0, 1) := by decide +kernel
theorem dX4_bendsMade_3 : decode cX4_bendsMade 3 = .ok (.istore_n 2, 1) := by decide +kernel
theorem dX4_bendsMade_4 : decode cX4_bendsMade 4 = .ok (.iload_n 2, 1) := by decide +kernel
theorem dX4_bendsMade_5 : decode cX4_bendsMade 5 = .ok (.bipush 17, 2) := by decide +kernel
theorem dX4_bendsMade_7 : decode cX4_bendsMade 7 = .ok (.if_icmp .ge 21, 3) := by decide +kernel
theorem dX4_bendsMade_10 : decode cX4_bendsMade 10 = .ok (.aload_n 0, 1) := by decide +kernel
theorem dX4_bendsMade_11 : decode cX4_bendsMade 11 = .ok (.getfield 15, 3) := by decide +kernel
theorem dX4_bendsMade_14 : decode cX4_bendsMade 14 = .ok (.iload_n 2, 1) := by decide +kernel
theorem dX4_bendsMade_15 : decode cX4_bendsMade 15 = .ok (.iaload, 1) := by decide +kernel
theorem dX4_bendsMade_16 : decode cX4_bendsMade 16 = .ok (.ifCond .eq 6, 3) := by decide +kernel
theorem dX4_bendsMade_19 : decode cX4_bendsMade 19 = .ok (.iinc 1 1, 3) := by decide +kernel
theorem dX4_bendsMade_22 : decode cX4_bendsMade 22 = .ok (.iinc 2 1, 3) := by decide +kernel
theorem dX4_bendsMade_25 : decode cX4_bendsMade 25 = .ok (.goto (-21), 3) := by decide +kernel
theorem dX4_bendsMade_28 : decode cX4_bendsMade 28 = .ok (.iload_n 1, 1) := by decide +kernel
theorem dX4_bendsMade_29 : decode cX4_bendsMade 29 = .ok (.ireturn, 1) := by decide +kernel
theorem dX5_init_0 : decode cX5_init 0 = .ok (.aload_n 0, 1) := by decide +kernel
theorem dX5_init_1 : decode cX5_init 1 = .ok (.invokespecial 3, 3) := by decide +kernel
theorem dX5_init_4 : decode cX5_init 4 = .ok (.aload_n 0, 1) := by decide +kernel
theorem dX5_init_5 : decode cX5_init 5 = .ok (.bipush 24, 2) := by decide +kernel
theorem dX5_init_7 : decode cX5_init 7 = .ok (.newarray .int, 2) := by decide +kernel
theorem dX5_init_9 : decode cX5_init 9 = .ok (.putfield 9, 3) := by decide +kernel
theorem dX5_init_12 : decode cX5_init 12 = .ok (.aload_n 0, 1) := by decide +kernel
theorem dX5_init_13 : decode cX5_init 13 = .ok (.iconst 0, 1) := by decide +kernel
theorem dX5_init_14 : decode cX5_init 14 = .ok (.putfield 15, 3) := by decide +kernel
theorem dX5_init_17 : decode cX5_init 17 = .ok (.return_, 1) := by decide +kernel
theorem dX5_insert_0 : decode cX5_insert 0 = .ok (.aload_n 0, 1) := by decide +kernel
theorem dX5_insert_1 : decode cX5_insert 1 = .ok (.getfield 15, 3) := by decide +kernel
theorem dX5_insert_4 : decode cX5_insert 4 = .ok (.bipush 24, 2) := by decide +kernel
theorem dX5_insert_6 : decode cX5_insert 6 = .ok (.if_icmp .lt 4, 3) := by decide +kernel
theorem dX5_insert_9 : decode cX5_insert 9 = .ok (.return_, 1) := by decide +kernel
theorem dX5_insert_10 : decode cX5_insert 10 = .ok (.aload_n 0, 1) := by decide +kernel
theorem dX5_insert_11 : decode cX5_insert 11 = .ok (.getfield 15, 3) := by decide +kernel
theorem dX5_insert_14 : decode cX5_insert 14 = .ok (.istore_n 2, 1) := by decide +kernel
theorem dX5_insert_15 : decode cX5_insert 15 = .ok (.iload_n 2, 1) := by decide +kernel
theorem dX5_insert_16 : decode cX5_insert 16 = .ok (.ifCond .le 35, 3) := by decide +kernel
theorem dX5_insert_19 : decode cX5_insert 19 = .ok (.aload_n 0, 1) := by decide +kernel
theorem dX5_insert_20 : decode cX5_insert 20 = .ok (.getfield 9, 3) := by decide +kernel
theorem dX5_insert_23 : decode cX5_insert 23 = .ok (.iload_n 2, 1) := by decide +kernel
theorem dX5_insert_24 : decode cX5_insert 24 = .ok (.iconst 1, 1) := by decide +kernel
theorem dX5_insert_25 : decode cX5_insert 25 = .ok (.isub, 1) := by decide +kernel
theorem dX5_insert_26 : decode cX5_insert 26 = .ok (.iaload, 1) := by decide +kernel
theorem dX5_insert_27 : decode cX5_insert 27 = .ok (.iload_n 1, 1) := by decide +kernel
theorem dX5_insert_28 : decode cX5_insert 28 = .ok (.if_icmp .le 23, 3) := by decide +kernel
theorem dX5_insert_31 : decode cX5_insert 31 = .ok (.aload_n 0, 1) := by decide +kernel
theorem dX5_insert_32 : decode cX5_insert 32 = .ok (.getfield 9, 3) := by decide +kernel
theorem dX5_insert_35 : decode cX5_insert 35 = .ok (.iload_n 2, 1) := by decide +kernel
theorem dX5_insert_36 : decode cX5_insert 36 = .ok (.aload_n 0, 1) := by decide +kernel
theorem dX5_insert_37 : decode cX5_insert 37 = .ok (.getfield 9, 3) := by decide +kernel
theorem dX5_insert_40 : decode cX5_insert 40 = .ok (.iload_n 2, 1) := by decide +kernel
theorem dX5_insert_41 : decode cX5_insert 41 = .ok (.iconst 1, 1) := by decide +kernel
theorem dX5_insert_42 : decode cX5_insert 42 = .ok (.isub, 1) := by decide +kernel
theorem dX5_insert_43 : decode cX5_insert 43 = .ok (.iaload, 1) := by decide +kernel
theorem dX5_insert_44 : decode cX5_insert 44 = .ok (.iastore, 1) := by decide +kernel
theorem dX5_insert_45 : decode cX5_insert 45 = .ok (.iinc 2 (-1), 3) := by decide +kernel
theorem dX5_insert_48 : decode cX5_insert 48 = .ok (.goto (-33), 3) := by decide +kernel
theorem dX5_insert_51 : decode cX5_insert 51 = .ok (.aload_n 0, 1) := by decide +kernel
theorem dX5_insert_52 : decode cX5_insert 52 = .ok (.getfield 9, 3) := by decide +kernel
theorem dX5_insert_55 : decode cX5_insert 55 = .ok (.iload_n 2, 1) := by decide +kernel
theorem dX5_insert_56 : decode cX5_insert 56 = .ok (.iload_n 1, 1) := by decide +kernel
theorem dX5_insert_57 : decode cX5_insert 57 = .ok (.iastore, 1) := by decide +kernel
theorem dX5_insert_58 : decode cX5_insert 58 = .ok (.aload_n 0, 1) := by decide +kernel
theorem dX5_insert_59 : decode cX5_insert 59 = .ok (.dup, 1) := by decide +kernel
theorem dX5_insert_60 : decode cX5_insert 60 = .ok (.getfield 15, 3) := by decide +kernel
theorem dX5_insert_63 : decode cX5_insert 63 = .ok (.iconst 1, 1) := by decide +kernel
theorem dX5_insert_64 : decode cX5_insert 64 = .ok (.iadd, 1) := by decide +kernel
theorem dX5_insert_65 : decode cX5_insert 65 = .ok (.putfield 15, 3) := by decide +kernel
theorem dX5_insert_68 : decode cX5_insert 68 = .ok (.return_, 1) := by decide +kernel
theorem dX5_middle_0 : decode cX5_middle 0 = .ok (.aload_n 0, 1) := by decide +kernel
theorem dX5_middle_1 : decode cX5_middle 1 = .ok (.getfield 15, 3) := by decide +kernel
theorem dX5_middle_4 : decode cX5_middle 4 = .ok (.ifCond .ne 7, 3) := by decide +kernel
theorem dX5_middle_7 : decode cX5_middle 7 = .ok (.iconst 0, 1) := by decide +kernel
theorem dX5_middle_8 : decode cX5_middle 8 = .ok (.goto 16, 3) := by decide +kernel
theorem dX5_middle_11 : decode cX5_middle 11 = .ok (.aload_n 0, 1) := by decide +kernel
theorem dX5_middle_12 : decode cX5_middle 12 = .ok (.getfield 9, 3) := by decide +kernel
theorem dX5_middle_15 : decode cX5_middle 15 = .ok (.aload_n 0, 1) := by decide +kernel
theorem dX5_middle_16 : decode cX5_middle 16 = .ok (.getfield 15, 3) := by decide +kernel
theorem dX5_middle_19 : decode cX5_middle 19 = .ok (.iconst 1, 1) := by decide +kernel
theorem dX5_middle_20 : decode cX5_middle 20 = .ok (.isub, 1) := by decide +kernel
theorem dX5_middle_21 : decode cX5_middle 21 = .ok (.iconst 2, 1) := by decide +kernel
theorem dX5_middle_22 : decode cX5_middle 22 = .ok (.idiv, 1) := by decide +kernel
theorem dX5_middle_23 : decode cX5_middle 23 = .ok (.iaload, 1) := by decide +kernel
theorem dX5_middle_24 : decode cX5_middle 24 = .ok (.ireturn, 1) := by decide +kernel
theorem dX5_misfit_0 : decode cX5_misfit 0 = .ok (.iconst 0, 1) := by decide +kernel
theorem dX5_misfit_1 : decode cX5_misfit 1 = .ok (.istore_n 1, 1) := by decide +kernel
theorem dX5_misfit_2 : decode cX5_misfit 2 = .ok (.iconst 0, 1) := by decide +kernel
theorem dX5_misfit_3 : decode cX5_misfit 3 = .ok (.istore_n 2, 1) := by decide +kernel
theorem dX5_misfit_4 : decode cX5_misfit 4 = .ok (.iload_n 2, 1) := by decide +kernel
theorem dX5_misfit_5 : decode cX5_misfit 5 = .ok (.aload_n 0, 1) := by decide +kernel
theorem dX5_misfit_6 : decode cX5_misfit 6 = .ok (.getfield 15, 3) := by decide +kernel
theorem dX5_misfit_9 : decode cX5_misfit 9 = .ok (.if_icmp .ge 26, 3) := by decide +kernel
theorem dX5_misfit_12 : decode cX5_misfit 12 = .ok (.iload_n 1, 1) := by decide +kernel
theorem dX5_misfit_13 : decode cX5_misfit 13 = .ok (.aload_n 0, 1) := by decide +kernel
theorem dX5_misfit_14 : decode cX5_misfit 14 = .ok (.getfield 9, 3) := by decide +kernel
theorem dX5_misfit_17 : decode cX5_misfit 17 = .ok (.iload_n 2, 1) := by decide +kernel
theorem dX5_misfit_18 : decode cX5_misfit 18 = .ok (.iaload, 1) := by decide +kernel
theorem dX5_misfit_19 : decode cX5_misfit 19 = .ok (.aload_n 0, 1) := by decide +kernel
theorem dX5_misfit_20 : decode cX5_misfit 20 = .ok (.invokevirtual 19, 3) := by decide +kernel
theorem dX5_misfit_23 : decode cX5_misfit 23 = .ok (.isub, 1) := by decide +kernel
theorem dX5_misfit_24 : decode cX5_misfit 24 = .ok (.invokestatic 23, 3) := by decide +kernel
theorem dX5_misfit_27 : decode cX5_misfit 27 = .ok (.iadd, 1) := by decide +kernel
theorem dX5_misfit_28 : decode cX5_misfit 28 = .ok (.istore_n 1, 1) := by decide +kernel
theorem dX5_misfit_29 : decode cX5_misfit 29 = .ok (.iinc 2 1, 3) := by decide +kernel
theorem dX5_misfit_32 : decode cX5_misfit 32 = .ok (.goto (-28), 3) := by decide +kernel
theorem dX5_misfit_35 : decode cX5_misfit 35 = .ok (.iload_n 1, 1) := by decide +kernel
theorem dX5_misfit_36 : decode cX5_misfit 36 = .ok (.ireturn, 1) := by decide +kernel
theorem dX6_init_0 : decode cX6_init 0 = .ok (.aload_n 0, 1) := by decide +kernel
theorem dX6_init_1 : decode cX6_init 1 = .ok (.invokespecial 3, 3) := by decide +kernel
theorem dX6_init_4 : decode cX6_init 4 = .ok (.aload_n 0, 1) := by decide +kernel
theorem dX6_init_5 : decode cX6_init 5 = .ok (.bipush 80, 2) := by decide +kernel
theorem dX6_init_7 : decode cX6_init 7 = .ok (.newarray .int, 2) := by decide +kernel
theorem dX6_init_9 : decode cX6_init 9 = .ok (.putfield 9, 3) := by decide +kernel
theorem dX6_init_12 : decode cX6_init 12 = .ok (.aload_n 0, 1) := by decide +kernel
theorem dX6_init_13 : decode cX6_init 13 = .ok (.iconst (-1), 1) := by decide +kernel
theorem dX6_init_14 : decode cX6_init 14 = .ok (.putfield 15, 3) := by decide +kernel
theorem dX6_init_17 : decode cX6_init 17 = .ok (.aload_n 0, 1) := by decide +kernel
theorem dX6_init_18 : decode cX6_init 18 = .ok (.iconst 0, 1) := by decide +kernel
theorem dX6_init_19 : decode cX6_init 19 = .ok (.putfield 19, 3) := by decide +kernel
theorem dX6_init_22 : decode cX6_init 22 = .ok (.return_, 1) := by decide +kernel
theorem dX6_isMissing_0 : decode cX6_isMissing 0 = .ok (.aload_n 0, 1) := by decide +kernel
theorem dX6_isMissing_1 : decode cX6_isMissing 1 = .ok (.getfield 15, 3) := by decide +kernel
theorem dX6_isMissing_4 : decode cX6_isMissing 4 = .ok (.iconst (-1), 1) := by decide +kernel
theorem dX6_isMissing_5 : decode cX6_isMissing 5 = .ok (.if_icmp .ne 7, 3) := by decide +kernel
theorem dX6_isMissing_8 : decode cX6_isMissing 8 = .ok (.iconst 1, 1) := by decide +kernel
theorem dX6_isMissing_9 : decode cX6_isMissing 9 = .ok (.goto 4, 3) := by decide +kernel
theorem dX6_isMissing_12 : decode cX6_isMissing 12 = .ok (.iconst 0, 1) := by decide +kernel
theorem dX6_isMissing_13 : decode cX6_isMissing 13 = .ok (.ireturn, 1) := by decide +kernel
theorem dX6_lay_0 : decode cX6_lay 0 = .ok (.aload_n 0, 1) := by decide +kernel
theorem dX6_lay_1 : decode cX6_lay 1 = .ok (.iload_n 1, 1) := by decide +kernel
theorem dX6_lay_2 : decode cX6_lay 2 = .ok (.putfield 15, 3) := by decide +kernel
theorem dX6_lay_5 : decode cX6_lay 5 = .ok (.aload_n 0, 1) := by decide +kernel
theorem dX6_lay_6 : decode cX6_lay 6 = .ok (.iload_n 2, 1) := by decide +kernel
theorem dX6_lay_7 : decode cX6_lay 7 = .ok (.putfield 19, 3) := by decide +kernel
theorem dX6_lay_10 : decode cX6_lay 10 = .ok (.iconst 0, 1) := by decide +kernel
theorem dX6_lay_11 : decode cX6_lay 11 = .ok (.istore_n 3, 1) := by decide +kernel
theorem dX6_lay_12 : decode cX6_lay 12 = .ok (.iload_n 3, 1) := by decide +kernel
theorem dX6_lay_13 : decode cX6_lay 13 = .ok (.bipush 80, 2) := by decide +kernel
theorem dX6_lay_15 : decode cX6_lay 15 = .ok (.if_icmp .ge 16, 3) := by decide +kernel
theorem dX6_lay_18 : decode cX6_lay 18 = .ok (.aload_n 0, 1) := by decide +kernel
theorem dX6_lay_19 : decode cX6_lay 19 = .ok (.getfield 9, 3) := by decide +kernel
theorem dX6_lay_22 : decode cX6_lay 22 = .ok (.iload_n 3, 1) := by decide +kernel
theorem dX6_lay_23 : decode cX6_lay 23 = .ok (.iconst 0, 1) := by decide +kernel
theorem dX6_lay_24 : decode cX6_lay 24 = .ok (.iastore, 1) := by decide +kernel
theorem dX6_lay_25 : decode cX6_lay 25 = .ok (.iinc 3 1, 3) := by decide +kernel
theorem dX6_lay_28 : decode cX6_lay 28 = .ok (.goto (-16), 3) := by decide +kernel
theorem dX6_lay_31 : decode cX6_lay 31 = .ok (.return_, 1) := by decide +kernel
theorem dX6_lose_0 : decode cX6_lose 0 = .ok (.aload_n 0, 1) := by decide +kernel
theorem dX6_lose_1 : decode cX6_lose 1 = .ok (.getfield 19, 3) := by decide +kernel
theorem dX6_lose_4 : decode cX6_lose 4 = .ok (.istore_n 1, 1) := by decide +kernel
theorem dX6_lose_5 : decode cX6_lose 5 = .ok (.aload_n 0, 1) := by decide +kernel
theorem dX6_lose_6 : decode cX6_lose 6 = .ok (.iconst (-1), 1) := by decide +kernel
theorem dX6_lose_7 : decode cX6_lose 7 = .ok (.putfield 15, 3) := by decide +kernel
theorem dX6_lose_10 : decode cX6_lose 10 = .ok (.aload_n 0, 1) := by decide +kernel
theorem dX6_lose_11 : decode cX6_lose 11 = .ok (.iconst 0, 1) := by decide +kernel
theorem dX6_lose_12 : decode cX6_lose 12 = .ok (.putfield 19, 3) := by decide +kernel
theorem dX6_lose_15 : decode cX6_lose 15 = .ok (.iload_n 1, 1) := by decide +kernel
theorem dX6_lose_16 : decode cX6_lose 16 = .ok (.ireturn, 1) := by decide +kernel
theorem dX6_write_0 : decode cX6_write 0 = .ok (.aload_n 0, 1) := by decide +kernel
theorem dX6_write_1 : decode cX6_write 1 = .ok (.getfield 9, 3) := by decide +kernel
theorem dX6_write_4 : decode cX6_write 4 = .ok (.iload_n 1, 1) := by decide +kernel
theorem dX6_write_5 : decode cX6_write 5 = .ok (.aload_n 0, 1) := by decide +kernel
theorem dX6_write_6 : decode cX6_write 6 = .ok (.getfield 15, 3) := by decide +kernel
theorem dX6_write_9 : decode cX6_write 9 = .ok (.ifCond .ne 8, 3) := by decide +kernel
theorem dX6_write_12 : decode cX6_write 12 = .ok (.iload_n 2, 1) := by decide +kernel
theorem dX6_write_13 : decode cX6_write 13 = .ok (.i2b, 1) := by decide +kernel
theorem dX6_write_14 : decode cX6_write 14 = .ok (.goto 17, 3) := by decide +kernel
theorem dX6_write_17 : decode cX6_write 17 = .ok (.aload_n 0, 1) := by decide +kernel
theorem dX6_write_18 : decode cX6_write 18 = .ok (.getfield 15, 3) := by decide +kernel
theorem dX6_write_21 : decode cX6_write 21 = .ok (.iconst 1, 1) := by decide +kernel
theorem dX6_write_22 : decode cX6_write 22 = .ok (.if_icmp .ne 8, 3) := by decide +kernel
theorem dX6_write_25 : decode cX6_write 25 = .ok (.iload_n 2, 1) := by decide +kernel
theorem dX6_write_26 : decode cX6_write 26 = .ok (.i2s, 1) := by decide +kernel
theorem dX6_write_27 : decode cX6_write 27 = .ok (.goto 4, 3) := by decide +kernel
theorem dX6_write_30 : decode cX6_write 30 = .ok (.iload_n 2, 1) := by decide +kernel
theorem dX6_write_31 : decode cX6_write 31 = .ok (.iastore, 1) := by decide +kernel
theorem dX6_write_32 : decode cX6_write 32 = .ok (.aload_n 0, 1) := by decide +kernel
theorem dX6_write_33 : decode cX6_write 33 = .ok (.getfield 9, 3) := by decide +kernel
theorem dX6_write_36 : decode cX6_write 36 = .ok (.iload_n 1, 1) := by decide +kernel
theorem dX6_write_37 : decode cX6_write 37 = .ok (.iaload, 1) := by decide +kernel
theorem dX6_write_38 : decode cX6_write 38 = .ok (.ireturn, 1) := by decide +kernel
theorem dX6_holds_0 : decode cX6_holds 0 = .ok (.iload_n 1, 1) := by decide +kernel
theorem dX6_holds_1 : decode cX6_holds 1 = .ok (.ifCond .lt 29, 3) := by decide +kernel
theorem dX6_holds_4 : decode cX6_holds 4 = .ok (.iload_n 2, 1) := by decide +kernel
theorem dX6_holds_5 : decode cX6_holds 5 = .ok (.ifCond .lt 25, 3) := by decide +kernel
theorem dX6_holds_8 : decode cX6_holds 8 = .ok (.iload_n 2, 1) := by decide +kernel
theorem dX6_holds_9 : decode cX6_holds 9 = .ok (.aload_n 0, 1) := by decide +kernel
theorem dX6_holds_10 : decode cX6_holds 10 = .ok (.getfield 19, 3) := by decide +kernel
theorem dX6_holds_13 : decode cX6_holds 13 = .ok (.if_icmp .gt 17, 3) := by decide +kernel
theorem dX6_holds_16 : decode cX6_holds 16 = .ok (.iload_n 1, 1) := by decide +kernel
theorem dX6_holds_17 : decode cX6_holds 17 = .ok (.aload_n 0, 1) := by decide +kernel
theorem dX6_holds_18 : decode cX6_holds 18 = .ok (.getfield 19, 3) := by decide +kernel
theorem dX6_holds_21 : decode cX6_holds 21 = .ok (.iload_n 2, 1) := by decide +kernel
theorem dX6_holds_22 : decode cX6_holds 22 = .ok (.isub, 1) := by decide +kernel
theorem dX6_holds_23 : decode cX6_holds 23 = .ok (.if_icmp .gt 7, 3) := by decide +kernel
theorem dX6_holds_26 : decode cX6_holds 26 = .ok (.iconst 1, 1) := by decide +kernel
theorem dX6_holds_27 : decode cX6_holds 27 = .ok (.goto 4, 3) := by decide +kernel
theorem dX6_holds_30 : decode cX6_holds 30 = .ok (.iconst 0, 1) := by decide +kernel
theorem dX6_holds_31 : decode cX6_holds 31 = .ok (.ireturn, 1) := by decide +kernel
theorem dX7_init_0 : decode cX7_init 0 = .ok (.aload_n 0, 1) := by decide +kernel
theorem dX7_init_1 : decode cX7_init 1 = .ok (.invokespecial 1, 3) := by decide +kernel
theorem dX7_init_4 : decode cX7_init 4 = .ok (.return_, 1) := by decide +kernel
theorem dX7_take_0 : decode cX7_take 0 = .ok (.aload_n 0, 1) := by decide +kernel
theorem dX7_take_1 : decode cX7_take 1 = .ok (.lload 5, 2) := by decide +kernel
theorem dX7_take_3 : decode cX7_take 3 = .ok (.aload_n 1, 1) := by decide +kernel
theorem dX7_take_4 : decode cX7_take 4 = .ok (.getfield 7, 3) := by decide +kernel
theorem dX7_take_7 : decode cX7_take 7 = .ok (.i2l, 1) := by decide +kernel
theorem dX7_take_8 : decode cX7_take 8 = .ok (.lmul, 1) := by decide +kernel
theorem dX7_take_9 : decode cX7_take 9 = .ok (.lload_n 3, 1) := by decide +kernel
theorem dX7_take_10 : decode cX7_take 10 = .ok (.aload_n 2, 1) := by decide +kernel
theorem dX7_take_11 : decode cX7_take 11 = .ok (.getfield 7, 3) := by decide +kernel
theorem dX7_take_14 : decode cX7_take 14 = .ok (.i2l, 1) := by decide +kernel
theorem dX7_take_15 : decode cX7_take 15 = .ok (.lmul, 1) := by decide +kernel
theorem dX7_take_16 : decode cX7_take 16 = .ok (.lsub, 1) := by decide +kernel
theorem dX7_take_17 : decode cX7_take 17 = .ok (.putfield 13, 3) := by decide +kernel
theorem dX7_take_20 : decode cX7_take 20 = .ok (.aload_n 0, 1) := by decide +kernel
theorem dX7_take_21 : decode cX7_take 21 = .ok (.aload_n 2, 1) := by decide +kernel
theorem dX7_take_22 : decode cX7_take 22 = .ok (.getfield 19, 3) := by decide +kernel
theorem dX7_take_25 : decode cX7_take 25 = .ok (.aload_n 1, 1) := by decide +kernel
theorem dX7_take_26 : decode cX7_take 26 = .ok (.getfield 19, 3) := by decide +kernel
theorem dX7_take_29 : decode cX7_take 29 = .ok (.isub, 1) := by decide +kernel
theorem dX7_take_30 : decode cX7_take 30 = .ok (.i2l, 1) := by decide +kernel
theorem dX7_take_31 : decode cX7_take 31 = .ok (.aload_n 1, 1) := by decide +kernel
theorem dX7_take_32 : decode cX7_take 32 = .ok (.getfield 7, 3) := by decide +kernel
theorem dX7_take_35 : decode cX7_take 35 = .ok (.i2l, 1) := by decide +kernel
theorem dX7_take_36 : decode cX7_take 36 = .ok (.lmul, 1) := by decide +kernel
theorem dX7_take_37 : decode cX7_take 37 = .ok (.aload_n 2, 1) := by decide +kernel
theorem dX7_take_38 : decode cX7_take 38 = .ok (.getfield 7, 3) := by decide +kernel
theorem dX7_take_41 : decode cX7_take 41 = .ok (.i2l, 1) := by decide +kernel
theorem dX7_take_42 : decode cX7_take 42 = .ok (.lmul, 1) := by decide +kernel
theorem dX7_take_43 : decode cX7_take 43 = .ok (.lload_n 3, 1) := by decide +kernel
theorem dX7_take_44 : decode cX7_take 44 = .ok (.aload_n 1, 1) := by decide +kernel
theorem dX7_take_45 : decode cX7_take 45 = .ok (.getfield 22, 3) := by decide +kernel
theorem dX7_take_48 : decode cX7_take 48 = .ok (.i2l, 1) := by decide +kernel
theorem dX7_take_49 : decode cX7_take 49 = .ok (.lmul, 1) := by decide +kernel
theorem dX7_take_50 : decode cX7_take 50 = .ok (.aload_n 2, 1) := by decide +kernel
theorem dX7_take_51 : decode cX7_take 51 = .ok (.getfield 7, 3) := by decide +kernel
theorem dX7_take_54 : decode cX7_take 54 = .ok (.i2l, 1) := by decide +kernel
theorem dX7_take_55 : decode cX7_take 55 = .ok (.lmul, 1) := by decide +kernel
theorem dX7_take_56 : decode cX7_take 56 = .ok (.lsub, 1) := by decide +kernel
theorem dX7_take_57 : decode cX7_take 57 = .ok (.lload 5, 2) := by decide +kernel
theorem dX7_take_59 : decode cX7_take 59 = .ok (.aload_n 2, 1) := by decide +kernel
theorem dX7_take_60 : decode cX7_take 60 = .ok (.getfield 22, 3) := by decide +kernel
theorem dX7_take_63 : decode cX7_take 63 = .ok (.i2l, 1) := by decide +kernel
theorem dX7_take_64 : decode cX7_take 64 = .ok (.lmul, 1) := by decide +kernel
theorem dX7_take_65 : decode cX7_take 65 = .ok (.aload_n 1, 1) := by decide +kernel
theorem dX7_take_66 : decode cX7_take 66 = .ok (.getfield 7, 3) := by decide +kernel
theorem dX7_take_69 : decode cX7_take 69 = .ok (.i2l, 1) := by decide +kernel
theorem dX7_take_70 : decode cX7_take 70 = .ok (.lmul, 1) := by decide +kernel
theorem dX7_take_71 : decode cX7_take 71 = .ok (.ladd, 1) := by decide +kernel
theorem dX7_take_72 : decode cX7_take 72 = .ok (.putfield 25, 3) := by decide +kernel
theorem dX7_take_75 : decode cX7_take 75 = .ok (.aload_n 0, 1) := by decide +kernel
theorem dX7_take_76 : decode cX7_take 76 = .ok (.getfield 13, 3) := by decide +kernel
theorem dX7_take_79 : decode cX7_take 79 = .ok (.lconst 0, 1) := by decide +kernel
theorem dX7_take_80 : decode cX7_take 80 = .ok (.lcmp, 1) := by decide +kernel
theorem dX7_take_81 : decode cX7_take 81 = .ok (.ifCond .ge 21, 3) := by decide +kernel
theorem dX7_take_84 : decode cX7_take 84 = .ok (.aload_n 0, 1) := by decide +kernel
theorem dX7_take_85 : decode cX7_take 85 = .ok (.aload_n 0, 1) := by decide +kernel
theorem dX7_take_86 : decode cX7_take 86 = .ok (.getfield 13, 3) := by decide +kernel
theorem dX7_take_89 : decode cX7_take 89 = .ok (.lneg, 1) := by decide +kernel
theorem dX7_take_90 : decode cX7_take 90 = .ok (.putfield 13, 3) := by decide +kernel
theorem dX7_take_93 : decode cX7_take 93 = .ok (.aload_n 0, 1) := by decide +kernel
theorem dX7_take_94 : decode cX7_take 94 = .ok (.aload_n 0, 1) := by decide +kernel
theorem dX7_take_95 : decode cX7_take 95 = .ok (.getfield 25, 3) := by decide +kernel
theorem dX7_take_98 : decode cX7_take 98 = .ok (.lneg, 1) := by decide +kernel
theorem dX7_take_99 : decode cX7_take 99 = .ok (.putfield 25, 3) := by decide +kernel
theorem dX7_take_102 : decode cX7_take 102 = .ok (.aload_n 0, 1) := by decide +kernel
theorem dX7_take_103 : decode cX7_take 103 = .ok (.getfield 13, 3) := by decide +kernel
theorem dX7_take_106 : decode cX7_take 106 = .ok (.lconst 0, 1) := by decide +kernel
theorem dX7_take_107 : decode cX7_take 107 = .ok (.lcmp, 1) := by decide +kernel
theorem dX7_take_108 : decode cX7_take 108 = .ok (.ifCond .eq 32, 3) := by decide +kernel
theorem dX7_take_111 : decode cX7_take 111 = .ok (.aload_n 0, 1) := by decide +kernel
theorem dX7_take_112 : decode cX7_take 112 = .ok (.getfield 25, 3) := by decide +kernel
theorem dX7_take_115 : decode cX7_take 115 = .ok (.aload_n 0, 1) := by decide +kernel
theorem dX7_take_116 : decode cX7_take 116 = .ok (.getfield 13, 3) := by decide +kernel
theorem dX7_take_119 : decode cX7_take 119 = .ok (.aload_n 1, 1) := by decide +kernel
theorem dX7_take_120 : decode cX7_take 120 = .ok (.getfield 22, 3) := by decide +kernel
theorem dX7_take_123 : decode cX7_take 123 = .ok (.aload_n 2, 1) := by decide +kernel
theorem dX7_take_124 : decode cX7_take 124 = .ok (.getfield 22, 3) := by decide +kernel
theorem dX7_take_127 : decode cX7_take 127 = .ok (.invokestatic 28, 3) := by decide +kernel
theorem dX7_take_130 : decode cX7_take 130 = .ok (.i2l, 1) := by decide +kernel
theorem dX7_take_131 : decode cX7_take 131 = .ok (.lmul, 1) := by decide +kernel
theorem dX7_take_132 : decode cX7_take 132 = .ok (.lcmp, 1) := by decide +kernel
theorem dX7_take_133 : decode cX7_take 133 = .ok (.ifCond .le 7, 3) := by decide +kernel
theorem dX7_take_136 : decode cX7_take 136 = .ok (.iconst 1, 1) := by decide +kernel
theorem dX7_take_137 : decode cX7_take 137 = .ok (.goto 4, 3) := by decide +kernel
theorem dX7_take_140 : decode cX7_take 140 = .ok (.iconst 0, 1) := by decide +kernel
theorem dX7_take_141 : decode cX7_take 141 = .ok (.ireturn, 1) := by decide +kernel
theorem dX7_highOf_0 : decode cX7_highOf 0 = .ok (.aload_n 1, 1) := by decide +kernel
theorem dX7_highOf_1 : decode cX7_highOf 1 = .ok (.getfield 34, 3) := by decide +kernel
theorem dX7_highOf_4 : decode cX7_highOf 4 = .ok (.i2l, 1) := by decide +kernel
theorem dX7_highOf_5 : decode cX7_highOf 5 = .ok (.aload_n 0, 1) := by decide +kernel
theorem dX7_highOf_6 : decode cX7_highOf 6 = .ok (.getfield 13, 3) := by decide +kernel
theorem dX7_highOf_9 : decode cX7_highOf 9 = .ok (.lmul, 1) := by decide +kernel
theorem dX7_highOf_10 : decode cX7_highOf 10 = .ok (.aload_n 1, 1) := by decide +kernel
theorem dX7_highOf_11 : decode cX7_highOf 11 = .ok (.getfield 7, 3) := by decide +kernel
theorem dX7_highOf_14 : decode cX7_highOf 14 = .ok (.i2l, 1) := by decide +kernel
theorem dX7_highOf_15 : decode cX7_highOf 15 = .ok (.lmul, 1) := by decide +kernel
theorem dX7_highOf_16 : decode cX7_highOf 16 = .ok (.lload_n 2, 1) := by decide +kernel
theorem dX7_highOf_17 : decode cX7_highOf 17 = .ok (.aload_n 0, 1) := by decide +kernel
theorem dX7_highOf_18 : decode cX7_highOf 18 = .ok (.getfield 25, 3) := by decide +kernel
theorem dX7_highOf_21 : decode cX7_highOf 21 = .ok (.aload_n 1, 1) := by decide +kernel
theorem dX7_highOf_22 : decode cX7_highOf 22 = .ok (.getfield 22, 3) := by decide +kernel
theorem dX7_highOf_25 : decode cX7_highOf 25 = .ok (.i2l, 1) := by decide +kernel
theorem dX7_highOf_26 : decode cX7_highOf 26 = .ok (.aload_n 0, 1) := by decide +kernel
theorem dX7_highOf_27 : decode cX7_highOf 27 = .ok (.getfield 13, 3) := by decide +kernel
theorem dX7_highOf_30 : decode cX7_highOf 30 = .ok (.lmul, 1) := by decide +kernel
theorem dX7_highOf_31 : decode cX7_highOf 31 = .ok (.lsub, 1) := by decide +kernel
theorem dX7_highOf_32 : decode cX7_highOf 32 = .ok (.lmul, 1) := by decide +kernel
theorem dX7_highOf_33 : decode cX7_highOf 33 = .ok (.lsub, 1) := by decide +kernel
theorem dX7_highOf_34 : decode cX7_highOf 34 = .ok (.aload_n 0, 1) := by decide +kernel
theorem dX7_highOf_35 : decode cX7_highOf 35 = .ok (.getfield 13, 3) := by decide +kernel
theorem dX7_highOf_38 : decode cX7_highOf 38 = .ok (.aload_n 1, 1) := by decide +kernel
theorem dX7_highOf_39 : decode cX7_highOf 39 = .ok (.getfield 7, 3) := by decide +kernel
theorem dX7_highOf_42 : decode cX7_highOf 42 = .ok (.i2l, 1) := by decide +kernel
theorem dX7_highOf_43 : decode cX7_highOf 43 = .ok (.lmul, 1) := by decide +kernel
theorem dX7_highOf_44 : decode cX7_highOf 44 = .ok (.invokestatic 37, 3) := by decide +kernel
theorem dX7_highOf_47 : decode cX7_highOf 47 = .ok (.lreturn, 1) := by decide +kernel
theorem dX8_init_0 : decode cX8_init 0 = .ok (.aload_n 0, 1) := by decide +kernel
theorem dX8_init_1 : decode cX8_init 1 = .ok (.invokespecial 1, 3) := by decide +kernel
theorem dX8_init_4 : decode cX8_init 4 = .ok (.aload_n 0, 1) := by decide +kernel
theorem dX8_init_5 : decode cX8_init 5 = .ok (.bipush 100, 2) := by decide +kernel
theorem dX8_init_7 : decode cX8_init 7 = .ok (.putfield 7, 3) := by decide +kernel
theorem dX8_init_10 : decode cX8_init 10 = .ok (.return_, 1) := by decide +kernel
theorem dX8_put_0 : decode cX8_put 0 = .ok (.aload_n 0, 1) := by decide +kernel
theorem dX8_put_1 : decode cX8_put 1 = .ok (.iload_n 1, 1) := by decide +kernel
theorem dX8_put_2 : decode cX8_put 2 = .ok (.putfield 13, 3) := by decide +kernel
theorem dX8_put_5 : decode cX8_put 5 = .ok (.aload_n 0, 1) := by decide +kernel
theorem dX8_put_6 : decode cX8_put 6 = .ok (.iload_n 2, 1) := by decide +kernel
theorem dX8_put_7 : decode cX8_put 7 = .ok (.putfield 16, 3) := by decide +kernel
theorem dX8_put_10 : decode cX8_put 10 = .ok (.aload_n 0, 1) := by decide +kernel
theorem dX8_put_11 : decode cX8_put 11 = .ok (.iload_n 3, 1) := by decide +kernel
theorem dX8_put_12 : decode cX8_put 12 = .ok (.putfield 19, 3) := by decide +kernel
theorem dX8_put_15 : decode cX8_put 15 = .ok (.aload_n 0, 1) := by decide +kernel
theorem dX8_put_16 : decode cX8_put 16 = .ok (.iload 4, 2) := by decide +kernel
theorem dX8_put_18 : decode cX8_put 18 = .ok (.putfield 7, 3) := by decide +kernel
theorem dX8_put_21 : decode cX8_put 21 = .ok (.return_, 1) := by decide +kernel
theorem dX8_sees_0 : decode cX8_sees 0 = .ok (.aload_n 1, 1) := by decide +kernel
theorem dX8_sees_1 : decode cX8_sees 1 = .ok (.getfield 22, 3) := by decide +kernel
theorem dX8_sees_4 : decode cX8_sees 4 = .ok (.aload_n 0, 1) := by decide +kernel
theorem dX8_sees_5 : decode cX8_sees 5 = .ok (.getfield 19, 3) := by decide +kernel
theorem dX8_sees_8 : decode cX8_sees 8 = .ok (.if_icmp .le 7, 3) := by decide +kernel
theorem dX8_sees_11 : decode cX8_sees 11 = .ok (.iconst 1, 1) := by decide +kernel
theorem dX8_sees_12 : decode cX8_sees 12 = .ok (.goto 4, 3) := by decide +kernel
theorem dX8_sees_15 : decode cX8_sees 15 = .ok (.iconst 0, 1) := by decide +kernel
theorem dX8_sees_16 : decode cX8_sees 16 = .ok (.ireturn, 1) := by decide +kernel
theorem dX8_across_0 : decode cX8_across 0 = .ok (.aload_n 1, 1) := by decide +kernel
theorem dX8_across_1 : decode cX8_across 1 = .ok (.getfield 27, 3) := by decide +kernel
theorem dX8_across_4 : decode cX8_across 4 = .ok (.aload_n 0, 1) := by decide +kernel
theorem dX8_across_5 : decode cX8_across 5 = .ok (.getfield 13, 3) := by decide +kernel
theorem dX8_across_8 : decode cX8_across 8 = .ok (.isub, 1) := by decide +kernel
theorem dX8_across_9 : decode cX8_across 9 = .ok (.ineg, 1) := by decide +kernel
theorem dX8_across_10 : decode cX8_across 10 = .ok (.aload_n 0, 1) := by decide +kernel
theorem dX8_across_11 : decode cX8_across 11 = .ok (.getfield 7, 3) := by decide +kernel
theorem dX8_across_14 : decode cX8_across 14 = .ok (.imul, 1) := by decide +kernel
theorem dX8_across_15 : decode cX8_across 15 = .ok (.aload_n 1, 1) := by decide +kernel
theorem dX8_across_16 : decode cX8_across 16 = .ok (.getfield 22, 3) := by decide +kernel
theorem dX8_across_19 : decode cX8_across 19 = .ok (.aload_n 0, 1) := by decide +kernel
theorem dX8_across_20 : decode cX8_across 20 = .ok (.getfield 19, 3) := by decide +kernel
theorem dX8_across_23 : decode cX8_across 23 = .ok (.isub, 1) := by decide +kernel
theorem dX8_across_24 : decode cX8_across 24 = .ok (.invokestatic 30, 3) := by decide +kernel
theorem dX8_across_27 : decode cX8_across 27 = .ok (.ireturn, 1) := by decide +kernel
theorem dX8_up_0 : decode cX8_up 0 = .ok (.aload_n 1, 1) := by decide +kernel
theorem dX8_up_1 : decode cX8_up 1 = .ok (.getfield 36, 3) := by decide +kernel
theorem dX8_up_4 : decode cX8_up 4 = .ok (.aload_n 0, 1) := by decide +kernel
theorem dX8_up_5 : decode cX8_up 5 = .ok (.getfield 16, 3) := by decide +kernel
theorem dX8_up_8 : decode cX8_up 8 = .ok (.isub, 1) := by decide +kernel
theorem dX8_up_9 : decode cX8_up 9 = .ok (.ineg, 1) := by decide +kernel
theorem dX8_up_10 : decode cX8_up 10 = .ok (.aload_n 0, 1) := by decide +kernel
theorem dX8_up_11 : decode cX8_up 11 = .ok (.getfield 7, 3) := by decide +kernel
theorem dX8_up_14 : decode cX8_up 14 = .ok (.imul, 1) := by decide +kernel
theorem dX8_up_15 : decode cX8_up 15 = .ok (.aload_n 1, 1) := by decide +kernel
theorem dX8_up_16 : decode cX8_up 16 = .ok (.getfield 22, 3) := by decide +kernel
theorem dX8_up_19 : decode cX8_up 19 = .ok (.aload_n 0, 1) := by decide +kernel
theorem dX8_up_20 : decode cX8_up 20 = .ok (.getfield 19, 3) := by decide +kernel
theorem dX8_up_23 : decode cX8_up 23 = .ok (.isub, 1) := by decide +kernel
theorem dX8_up_24 : decode cX8_up 24 = .ok (.invokestatic 30, 3) := by decide +kernel
theorem dX8_up_27 : decode cX8_up 27 = .ok (.ireturn, 1) := by decide +kernel
theorem dX9_init_0 : decode cX9_init 0 = .ok (.aload_n 0, 1) := by decide +kernel
theorem dX9_init_1 : decode cX9_init 1 = .ok (.invokespecial 1, 3) := by decide +kernel
theorem dX9_init_4 : decode cX9_init 4 = .ok (.aload_n 0, 1) := by decide +kernel
theorem dX9_init_5 : decode cX9_init 5 = .ok (.iconst 1, 1) := by decide +kernel
theorem dX9_init_6 : decode cX9_init 6 = .ok (.putfield 7, 3) := by decide +kernel
theorem dX9_init_9 : decode cX9_init 9 = .ok (.return_, 1) := by decide +kernel
theorem dX9_put_0 : decode cX9_put 0 = .ok (.aload_n 0, 1) := by decide +kernel
theorem dX9_put_1 : decode cX9_put 1 = .ok (.iload_n 1, 1) := by decide +kernel
theorem dX9_put_2 : decode cX9_put 2 = .ok (.putfield 13, 3) := by decide +kernel
theorem dX9_put_5 : decode cX9_put 5 = .ok (.aload_n 0, 1) := by decide +kernel
theorem dX9_put_6 : decode cX9_put 6 = .ok (.iload_n 2, 1) := by decide +kernel
theorem dX9_put_7 : decode cX9_put 7 = .ok (.putfield 16, 3) := by decide +kernel
theorem dX9_put_10 : decode cX9_put 10 = .ok (.aload_n 0, 1) := by decide +kernel
theorem dX9_put_11 : decode cX9_put 11 = .ok (.iload_n 3, 1) := by decide +kernel
theorem dX9_put_12 : decode cX9_put 12 = .ok (.putfield 7, 3) := by decide +kernel
theorem dX9_put_15 : decode cX9_put 15 = .ok (.return_, 1) := by decide +kernel
theorem dX10_init_0 : decode cX10_init 0 = .ok (.aload_n 0, 1) := by decide +kernel
theorem dX10_init_1 : decode cX10_init 1 = .ok (.invokespecial 3, 3) := by decide +kernel
theorem dX10_init_4 : decode cX10_init 4 = .ok (.aload_n 0, 1) := by decide +kernel
theorem dX10_init_5 : decode cX10_init 5 = .ok (.bipush 24, 2) := by decide +kernel
theorem dX10_init_7 : decode cX10_init 7 = .ok (.newarray .boolean, 2) := by decide +kernel
theorem dX10_init_9 : decode cX10_init 9 = .ok (.putfield 9, 3) := by decide +kernel
theorem dX10_init_12 : decode cX10_init 12 = .ok (.aload_n 0, 1) := by decide +kernel
theorem dX10_init_13 : decode cX10_init 13 = .ok (.bipush 24, 2) := by decide +kernel
theorem dX10_init_15 : decode cX10_init 15 = .ok (.newarray .int, 2) := by decide +kernel
theorem dX10_init_17 : decode cX10_init 17 = .ok (.putfield 15, 3) := by decide +kernel
theorem dX10_init_20 : decode cX10_init 20 = .ok (.aload_n 0, 1) := by decide +kernel
theorem dX10_init_21 : decode cX10_init 21 = .ok (.bipush 24, 2) := by decide +kernel
theorem dX10_init_23 : decode cX10_init 23 = .ok (.newarray .int, 2) := by decide +kernel
theorem dX10_init_25 : decode cX10_init 25 = .ok (.putfield 19, 3) := by decide +kernel
theorem dX10_init_28 : decode cX10_init 28 = .ok (.return_, 1) := by decide +kernel
theorem dX10_put_0 : decode cX10_put 0 = .ok (.aload_n 0, 1) := by decide +kernel
theorem dX10_put_1 : decode cX10_put 1 = .ok (.getfield 9, 3) := by decide +kernel
theorem dX10_put_4 : decode cX10_put 4 = .ok (.iload_n 1, 1) := by decide +kernel
theorem dX10_put_5 : decode cX10_put 5 = .ok (.iconst 1, 1) := by decide +kernel
theorem dX10_put_6 : decode cX10_put 6 = .ok (.bastore, 1) := by decide +kernel
theorem dX10_put_7 : decode cX10_put 7 = .ok (.aload_n 0, 1) := by decide +kernel
theorem dX10_put_8 : decode cX10_put 8 = .ok (.getfield 15, 3) := by decide +kernel
theorem dX10_put_11 : decode cX10_put 11 = .ok (.iload_n 1, 1) := by decide +kernel
theorem dX10_put_12 : decode cX10_put 12 = .ok (.iload_n 2, 1) := by decide +kernel
theorem dX10_put_13 : decode cX10_put 13 = .ok (.iastore, 1) := by decide +kernel
theorem dX10_put_14 : decode cX10_put 14 = .ok (.aload_n 0, 1) := by decide +kernel
theorem dX10_put_15 : decode cX10_put 15 = .ok (.getfield 19, 3) := by decide +kernel
theorem dX10_put_18 : decode cX10_put 18 = .ok (.iload_n 1, 1) := by decide +kernel
theorem dX10_put_19 : decode cX10_put 19 = .ok (.iload_n 3, 1) := by decide +kernel
theorem dX10_put_20 : decode cX10_put 20 = .ok (.iastore, 1) := by decide +kernel
theorem dX10_put_21 : decode cX10_put 21 = .ok (.return_, 1) := by decide +kernel
theorem dX10_clear_0 : decode cX10_clear 0 = .ok (.iconst 0, 1) := by decide +kernel
theorem dX10_clear_1 : decode cX10_clear 1 = .ok (.istore_n 1, 1) := by decide +kernel
theorem dX10_clear_2 : decode cX10_clear 2 = .ok (.iload_n 1, 1) := by decide +kernel
theorem dX10_clear_3 : decode cX10_clear 3 = .ok (.bipush 24, 2) := by decide +kernel
theorem dX10_clear_5 : decode cX10_clear 5 = .ok (.if_icmp .ge 16, 3) := by decide +kernel
theorem dX10_clear_8 : decode cX10_clear 8 = .ok (.aload_n 0, 1) := by decide +kernel
theorem dX10_clear_9 : decode cX10_clear 9 = .ok (.getfield 9, 3) := by decide +kernel
theorem dX10_clear_12 : decode cX10_clear 12 = .ok (.iload_n 1, 1) := by decide +kernel
theorem dX10_clear_13 : decode cX10_clear 13 = .ok (.iconst 0, 1) := by decide +kernel
theorem dX10_clear_14 : decode cX10_clear 14 = .ok (.bastore, 1) := by decide +kernel
theorem dX10_clear_15 : decode cX10_clear 15 = .ok (.iinc 1 1, 3) := by decide +kernel
theorem dX10_clear_18 : decode cX10_clear 18 = .ok (.goto (-16), 3) := by decide +kernel
theorem dX10_clear_21 : decode cX10_clear 21 = .ok (.return_, 1) := by decide +kernel
theorem dX10_marksMade_0 : decode cX10_marksMade 0 = .ok (.iconst 0, 1) := by decide +kernel
theorem dX10_marksMade_1 : decode cX10_marksMade 1 = .ok (.istore_n 1, 1) := by decide +kernel
theorem dX10_marksMade_2 : decode cX10_marksMade 2 = .ok (.iconst 0, 1) := by decide +kernel
theorem dX10_marksMade_3 : decode cX10_marksMade 3 = .ok (.istore_n 2, 1) := by decide +kernel
theorem dX10_marksMade_4 : decode cX10_marksMade 4 = .ok (.iload_n 2, 1) := by decide +kernel
theorem dX10_marksMade_5 : decode cX10_marksMade 5 = .ok (.bipush 24, 2) := by decide +kernel
theorem dX10_marksMade_7 : decode cX10_marksMade 7 = .ok (.if_icmp .ge 21, 3) := by decide +kernel
theorem dX10_marksMade_10 : decode cX10_marksMade 10 = .ok (.aload_n 0, 1) := by decide +kernel
theorem dX10_marksMade_11 : decode cX10_marksMade 11 = .ok (.getfield 9, 3) := by decide +kernel
theorem dX10_marksMade_14 : decode cX10_marksMade 14 = .ok (.iload_n 2, 1) := by decide +kernel
theorem dX10_marksMade_15 : decode cX10_marksMade 15 = .ok (.baload, 1) := by decide +kernel
theorem dX10_marksMade_16 : decode cX10_marksMade 16 = .ok (.ifCond .eq 6, 3) := by decide +kernel
theorem dX10_marksMade_19 : decode cX10_marksMade 19 = .ok (.iinc 1 1, 3) := by decide +kernel
theorem dX10_marksMade_22 : decode cX10_marksMade 22 = .ok (.iinc 2 1, 3) := by decide +kernel
theorem dX10_marksMade_25 : decode cX10_marksMade 25 = .ok (.goto (-21), 3) := by decide +kernel
theorem dX10_marksMade_28 : decode cX10_marksMade 28 = .ok (.iload_n 1, 1) := by decide +kernel
theorem dX10_marksMade_29 : decode cX10_marksMade 29 = .ok (.ireturn, 1) := by decide +kernel
theorem dJ9_floorDiv_7cf53_0 : decode cJ9_floorDiv_7cf53 0 = .ok (.iload_n 0, 1) := by decide +kernel
theorem dJ9_floorDiv_7cf53_1 : decode cJ9_floorDiv_7cf53 1 = .ok (.iload_n 1, 1) := by decide +kernel
theorem dJ9_floorDiv_7cf53_2 : decode cJ9_floorDiv_7cf53 2 = .ok (.idiv, 1) := by decide +kernel
theorem dJ9_floorDiv_7cf53_3 : decode cJ9_floorDiv_7cf53 3 = .ok (.istore_n 2, 1) := by decide +kernel
theorem dJ9_floorDiv_7cf53_4 : decode cJ9_floorDiv_7cf53 4 = .ok (.iload_n 0, 1) := by decide +kernel
theorem dJ9_floorDiv_7cf53_5 : decode cJ9_floorDiv_7cf53 5 = .ok (.iload_n 1, 1) := by decide +kernel
theorem dJ9_floorDiv_7cf53_6 : decode cJ9_floorDiv_7cf53 6 = .ok (.ixor, 1) := by decide +kernel
theorem dJ9_floorDiv_7cf53_7 : decode cJ9_floorDiv_7cf53 7 = .ok (.ifCond .ge 14, 3) := by decide +kernel
theorem dJ9_floorDiv_7cf53_10 : decode cJ9_floorDiv_7cf53 10 = .ok (.iload_n 2, 1) := by decide +kernel
theorem dJ9_floorDiv_7cf53_11 : decode cJ9_floorDiv_7cf53 11 = .ok (.iload_n 1, 1) := by decide +kernel
theorem dJ9_floorDiv_7cf53_12 : decode cJ9_floorDiv_7cf53 12 = .ok (.imul, 1) := by decide +kernel
theorem dJ9_floorDiv_7cf53_13 : decode cJ9_floorDiv_7cf53 13 = .ok (.iload_n 0, 1) := by decide +kernel
theorem dJ9_floorDiv_7cf53_14 : decode cJ9_floorDiv_7cf53 14 = .ok (.if_icmp .eq 7, 3) := by decide +kernel
theorem dJ9_floorDiv_7cf53_17 : decode cJ9_floorDiv_7cf53 17 = .ok (.iload_n 2, 1) := by decide +kernel
theorem dJ9_floorDiv_7cf53_18 : decode cJ9_floorDiv_7cf53 18 = .ok (.iconst 1, 1) := by decide +kernel
theorem dJ9_floorDiv_7cf53_19 : decode cJ9_floorDiv_7cf53 19 = .ok (.isub, 1) := by decide +kernel
theorem dJ9_floorDiv_7cf53_20 : decode cJ9_floorDiv_7cf53 20 = .ok (.ireturn, 1) := by decide +kernel
theorem dJ9_floorDiv_7cf53_21 : decode cJ9_floorDiv_7cf53 21 = .ok (.iload_n 2, 1) := by decide +kernel
theorem dJ9_floorDiv_7cf53_22 : decode cJ9_floorDiv_7cf53 22 = .ok (.ireturn, 1) := by decide +kernel
theorem dJ9_abs_0f7a4_0 : decode cJ9_abs_0f7a4 0 = .ok (.iload_n 0, 1) := by decide +kernel
theorem dJ9_abs_0f7a4_1 : decode cJ9_abs_0f7a4 1 = .ok (.ifCond .ge 8, 3) := by decide +kernel
theorem dJ9_abs_0f7a4_4 : decode cJ9_abs_0f7a4 4 = .ok (.iload_n 0, 1) := by decide +kernel
theorem dJ9_abs_0f7a4_5 : decode cJ9_abs_0f7a4 5 = .ok (.ineg, 1) := by decide +kernel
theorem dJ9_abs_0f7a4_6 : decode cJ9_abs_0f7a4 6 = .ok (.goto 4, 3) := by decide +kernel
theorem dJ9_abs_0f7a4_9 : decode cJ9_abs_0f7a4 9 = .ok (.iload_n 0, 1) := by decide +kernel
theorem dJ9_abs_0f7a4_10 : decode cJ9_abs_0f7a4 10 = .ok (.ireturn, 1) := by decide +kernel
theorem dJ9_max_7cf53_0 : decode cJ9_max_7cf53 0 = .ok (.iload_n 0, 1) := by decide +kernel
theorem dJ9_max_7cf53_1 : decode cJ9_max_7cf53 1 = .ok (.iload_n 1, 1) := by decide +kernel
theorem dJ9_max_7cf53_2 : decode cJ9_max_7cf53 2 = .ok (.if_icmp .lt 7, 3) := by decide +kernel
theorem dJ9_max_7cf53_5 : decode cJ9_max_7cf53 5 = .ok (.iload_n 0, 1) := by decide +kernel
theorem dJ9_max_7cf53_6 : decode cJ9_max_7cf53 6 = .ok (.goto 4, 3) := by decide +kernel
theorem dJ9_max_7cf53_9 : decode cJ9_max_7cf53 9 = .ok (.iload_n 1, 1) := by decide +kernel
theorem dJ9_max_7cf53_10 : decode cJ9_max_7cf53 10 = .ok (.ireturn, 1) := by decide +kernel
theorem dJ9_max_f86c9_0 : decode cJ9_max_f86c9 0 = .ok (.lload_n 0, 1) := by decide +kernel
theorem dJ9_max_f86c9_1 : decode cJ9_max_f86c9 1 = .ok (.lload_n 2, 1) := by decide +kernel
theorem dJ9_max_f86c9_2 : decode cJ9_max_f86c9 2 = .ok (.lcmp, 1) := by decide +kernel
theorem dJ9_max_f86c9_3 : decode cJ9_max_f86c9 3 = .ok (.ifCond .lt 7, 3) := by decide +kernel
theorem dJ9_max_f86c9_6 : decode cJ9_max_f86c9 6 = .ok (.lload_n 0, 1) := by decide +kernel
theorem dJ9_max_f86c9_7 : decode cJ9_max_f86c9 7 = .ok (.goto 4, 3) := by decide +kernel
theorem dJ9_max_f86c9_10 : decode cJ9_max_f86c9 10 = .ok (.lload_n 2, 1) := by decide +kernel
theorem dJ9_max_f86c9_11 : decode cJ9_max_f86c9 11 = .ok (.lreturn, 1) := by decide +kernel
theorem dJ9_min_7cf53_0 : decode cJ9_min_7cf53 0 = .ok (.iload_n 0, 1) := by decide +kernel
theorem dJ9_min_7cf53_1 : decode cJ9_min_7cf53 1 = .ok (.iload_n 1, 1) := by decide +kernel
theorem dJ9_min_7cf53_2 : decode cJ9_min_7cf53 2 = .ok (.if_icmp .gt 7, 3) := by decide +kernel
theorem dJ9_min_7cf53_5 : decode cJ9_min_7cf53 5 = .ok (.iload_n 0, 1) := by decide +kernel
theorem dJ9_min_7cf53_6 : decode cJ9_min_7cf53 6 = .ok (.goto 4, 3) := by decide +kernel
theorem dJ9_min_7cf53_9 : decode cJ9_min_7cf53 9 = .ok (.iload_n 1, 1) := by decide +kernel
theorem dJ9_min_7cf53_10 : decode cJ9_min_7cf53 10 = .ok (.ireturn, 1) := by decide +kernel
theorem dJ9_min_f86c9_0 : decode cJ9_min_f86c9 0 = .ok (.lload_n 0, 1) := by decide +kernel
theorem dJ9_min_f86c9_1 : decode cJ9_min_f86c9 1 = .ok (.lload_n 2, 1) := by decide +kernel
theorem dJ9_min_f86c9_2 : decode cJ9_min_f86c9 2 = .ok (.lcmp, 1) := by decide +kernel
theorem dJ9_min_f86c9_3 : decode cJ9_min_f86c9 3 = .ok (.ifCond .gt 7, 3) := by decide +kernel
theorem dJ9_min_f86c9_6 : decode cJ9_min_f86c9 6 = .ok (.lload_n 0, 1) := by decide +kernel
theorem dJ9_min_f86c9_7 : decode cJ9_min_f86c9 7 = .ok (.goto 4, 3) := by decide +kernel
theorem dJ9_min_f86c9_10 : decode cJ9_min_f86c9 10 = .ok (.lload_n 2, 1) := by decide +kernel
theorem dJ9_min_f86c9_11 : decode cJ9_min_f86c9 11 = .ok (.lreturn, 1) := by decide +kernel
end
section
theorem dX11_init_0 : decode cX11_init 0 = .ok (.aload_n 0, 1) := by decide +kernel
theorem dX11_init_1 : decode cX11_init 1 = .ok (.invokespecial 1, 3) := by decide +kernel
theorem dX11_init_4 : decode cX11_init 4 = .ok (.aload_n 0, 1) := by decide +kernel
theorem dX11_init_5 : decode cX11_init 5 = .ok (.bipush 8, 2) := by decide +kernel
theorem dX11_init_7 : decode cX11_init 7 = .ok (.anewarray 9, 3) := by decide +kernel
theorem dX11_init_10 : decode cX11_init 10 = .ok (.putfield 11, 3) := by decide +kernel
theorem dX11_init_13 : decode cX11_init 13 = .ok (.aload_n 0, 1) := by decide +kernel
theorem dX11_init_14 : decode cX11_init 14 = .ok (.new 15, 3) := by decide +kernel
theorem dX11_init_17 : decode cX11_init 17 = .ok (.dup, 1) := by decide +kernel
theorem dX11_init_18 : decode cX11_init 18 = .ok (.invokespecial 17, 3) := by decide +kernel
theorem dX11_init_21 : decode cX11_init 21 = .ok (.putfield 18, 3) := by decide +kernel
theorem dX11_init_24 : decode cX11_init 24 = .ok (.aload_n 0, 1) := by decide +kernel
theorem dX11_init_25 : decode cX11_init 25 = .ok (.bipush 24, 2) := by decide +kernel
theorem dX11_init_27 : decode cX11_init 27 = .ok (.anewarray 22, 3) := by decide +kernel
theorem dX11_init_30 : decode cX11_init 30 = .ok (.putfield 24, 3) := by decide +kernel
theorem dX11_init_33 : decode cX11_init 33 = .ok (.aload_n 0, 1) := by decide +kernel
theorem dX11_init_34 : decode cX11_init 34 = .ok (.iconst 0, 1) := by decide +kernel
theorem dX11_init_35 : decode cX11_init 35 = .ok (.putfield 28, 3) := by decide +kernel
theorem dX11_init_38 : decode cX11_init 38 = .ok (.aload_n 0, 1) := by decide +kernel
theorem dX11_init_39 : decode cX11_init 39 = .ok (.new 32, 3) := by decide +kernel
theorem dX11_init_42 : decode cX11_init 42 = .ok (.dup, 1) := by decide +kernel
theorem dX11_init_43 : decode cX11_init 43 = .ok (.invokespecial 34, 3) := by decide +kernel
theorem dX11_init_46 : decode cX11_init 46 = .ok (.putfield 35, 3) := by decide +kernel
theorem dX11_init_49 : decode cX11_init 49 = .ok (.aload_n 0, 1) := by decide +kernel
theorem dX11_init_50 : decode cX11_init 50 = .ok (.bipush 8, 2) := by decide +kernel
theorem dX11_init_52 : decode cX11_init 52 = .ok (.anewarray 39, 3) := by decide +kernel
theorem dX11_init_55 : decode cX11_init 55 = .ok (.putfield 41, 3) := by decide +kernel
theorem dX11_init_58 : decode cX11_init 58 = .ok (.aload_n 0, 1) := by decide +kernel
theorem dX11_init_59 : decode cX11_init 59 = .ok (.new 45, 3) := by decide +kernel
theorem dX11_init_62 : decode cX11_init 62 = .ok (.dup, 1) := by decide +kernel
theorem dX11_init_63 : decode cX11_init 63 = .ok (.invokespecial 47, 3) := by decide +kernel
theorem dX11_init_66 : decode cX11_init 66 = .ok (.putfield 48, 3) := by decide +kernel
theorem dX11_init_69 : decode cX11_init 69 = .ok (.aload_n 0, 1) := by decide +kernel
theorem dX11_init_70 : decode cX11_init 70 = .ok (.new 52, 3) := by decide +kernel
theorem dX11_init_73 : decode cX11_init 73 = .ok (.dup, 1) := by decide +kernel
theorem dX11_init_74 : decode cX11_init 74 = .ok (.invokespecial 54, 3) := by decide +kernel
theorem dX11_init_77 : decode cX11_init 77 = .ok (.putfield 55, 3) := by decide +kernel
theorem dX11_init_80 : decode cX11_init 80 = .ok (.aload_n 0, 1) := by decide +kernel
theorem dX11_init_81 : decode cX11_init 81 = .ok (.iconst 2, 1) := by decide +kernel
theorem dX11_init_82 : decode cX11_init 82 = .ok (.anewarray 59, 3) := by decide +kernel
theorem dX11_init_85 : decode cX11_init 85 = .ok (.putfield 61, 3) := by decide +kernel
theorem dX11_init_88 : decode cX11_init 88 = .ok (.aload_n 0, 1) := by decide +kernel
theorem dX11_init_89 : decode cX11_init 89 = .ok (.new 65, 3) := by decide +kernel
theorem dX11_init_92 : decode cX11_init 92 = .ok (.dup, 1) := by decide +kernel
theorem dX11_init_93 : decode cX11_init 93 = .ok (.invokespecial 67, 3) := by decide +kernel
theorem dX11_init_96 : decode cX11_init 96 = .ok (.putfield 68, 3) := by decide +kernel
theorem dX11_init_99 : decode cX11_init 99 = .ok (.aload_n 0, 1) := by decide +kernel
theorem dX11_init_100 : decode cX11_init 100 = .ok (.new 59, 3) := by decide +kernel
theorem dX11_init_103 : decode cX11_init 103 = .ok (.dup, 1) := by decide +kernel
theorem dX11_init_104 : decode cX11_init 104 = .ok (.invokespecial 72, 3) := by decide +kernel
theorem dX11_init_107 : decode cX11_init 107 = .ok (.putfield 73, 3) := by decide +kernel
theorem dX11_init_110 : decode cX11_init 110 = .ok (.aload_n 0, 1) := by decide +kernel
theorem dX11_init_111 : decode cX11_init 111 = .ok (.new 77, 3) := by decide +kernel
theorem dX11_init_114 : decode cX11_init 114 = .ok (.dup, 1) := by decide +kernel
theorem dX11_init_115 : decode cX11_init 115 = .ok (.invokespecial 79, 3) := by decide +kernel
theorem dX11_init_118 : decode cX11_init 118 = .ok (.putfield 80, 3) := by decide +kernel
theorem dX11_init_121 : decode cX11_init 121 = .ok (.aload_n 0, 1) := by decide +kernel
theorem dX11_init_122 : decode cX11_init 122 = .ok (.iconst 0, 1) := by decide +kernel
theorem dX11_init_123 : decode cX11_init 123 = .ok (.putfield 84, 3) := by decide +kernel
theorem dX11_init_126 : decode cX11_init 126 = .ok (.iconst 0, 1) := by decide +kernel
theorem dX11_init_127 : decode cX11_init 127 = .ok (.istore_n 1, 1) := by decide +kernel
theorem dX11_init_128 : decode cX11_init 128 = .ok (.iload_n 1, 1) := by decide +kernel
theorem dX11_init_129 : decode cX11_init 129 = .ok (.bipush 8, 2) := by decide +kernel
theorem dX11_init_131 : decode cX11_init 131 = .ok (.if_icmp .ge 22, 3) := by decide +kernel
theorem dX11_init_134 : decode cX11_init 134 = .ok (.aload_n 0, 1) := by decide +kernel
theorem dX11_init_135 : decode cX11_init 135 = .ok (.getfield 11, 3) := by decide +kernel
theorem dX11_init_138 : decode cX11_init 138 = .ok (.iload_n 1, 1) := by decide +kernel
theorem dX11_init_139 : decode cX11_init 139 = .ok (.new 9, 3) := by decide +kernel
theorem dX11_init_142 : decode cX11_init 142 = .ok (.dup, 1) := by decide +kernel
theorem dX11_init_143 : decode cX11_init 143 = .ok (.invokespecial 87, 3) := by decide +kernel
theorem dX11_init_146 : decode cX11_init 146 = .ok (.aastore, 1) := by decide +kernel
theorem dX11_init_147 : decode cX11_init 147 = .ok (.iinc 1 1, 3) := by decide +kernel
theorem dX11_init_150 : decode cX11_init 150 = .ok (.goto (-22), 3) := by decide +kernel
theorem dX11_init_153 : decode cX11_init 153 = .ok (.iconst 0, 1) := by decide +kernel
theorem dX11_init_154 : decode cX11_init 154 = .ok (.istore_n 1, 1) := by decide +kernel
theorem dX11_init_155 : decode cX11_init 155 = .ok (.iload_n 1, 1) := by decide +kernel
theorem dX11_init_156 : decode cX11_init 156 = .ok (.bipush 24, 2) := by decide +kernel
theorem dX11_init_158 : decode cX11_init 158 = .ok (.if_icmp .ge 22, 3) := by decide +kernel
theorem dX11_init_161 : decode cX11_init 161 = .ok (.aload_n 0, 1) := by decide +kernel
theorem dX11_init_162 : decode cX11_init 162 = .ok (.getfield 24, 3) := by decide +kernel
theorem dX11_init_165 : decode cX11_init 165 = .ok (.iload_n 1, 1) := by decide +kernel
theorem dX11_init_166 : decode cX11_init 166 = .ok (.new 22, 3) := by decide +kernel
theorem dX11_init_169 : decode cX11_init 169 = .ok (.dup, 1) := by decide +kernel
theorem dX11_init_170 : decode cX11_init 170 = .ok (.invokespecial 88, 3) := by decide +kernel
theorem dX11_init_173 : decode cX11_init 173 = .ok (.aastore, 1) := by decide +kernel
theorem dX11_init_174 : decode cX11_init 174 = .ok (.iinc 1 1, 3) := by decide +kernel
theorem dX11_init_177 : decode cX11_init 177 = .ok (.goto (-22), 3) := by decide +kernel
theorem dX11_init_180 : decode cX11_init 180 = .ok (.iconst 0, 1) := by decide +kernel
theorem dX11_init_181 : decode cX11_init 181 = .ok (.istore_n 1, 1) := by decide +kernel
theorem dX11_init_182 : decode cX11_init 182 = .ok (.iload_n 1, 1) := by decide +kernel
theorem dX11_init_183 : decode cX11_init 183 = .ok (.bipush 8, 2) := by decide +kernel
theorem dX11_init_185 : decode cX11_init 185 = .ok (.if_icmp .ge 22, 3) := by decide +kernel
theorem dX11_init_188 : decode cX11_init 188 = .ok (.aload_n 0, 1) := by decide +kernel
theorem dX11_init_189 : decode cX11_init 189 = .ok (.getfield 41, 3) := by decide +kernel
theorem dX11_init_192 : decode cX11_init 192 = .ok (.iload_n 1, 1) := by decide +kernel
theorem dX11_init_193 : decode cX11_init 193 = .ok (.new 39, 3) := by decide +kernel
theorem dX11_init_196 : decode cX11_init 196 = .ok (.dup, 1) := by decide +kernel
theorem dX11_init_197 : decode cX11_init 197 = .ok (.invokespecial 89, 3) := by decide +kernel
theorem dX11_init_200 : decode cX11_init 200 = .ok (.aastore, 1) := by decide +kernel
theorem dX11_init_201 : decode cX11_init 201 = .ok (.iinc 1 1, 3) := by decide +kernel
theorem dX11_init_204 : decode cX11_init 204 = .ok (.goto (-22), 3) := by decide +kernel
theorem dX11_init_207 : decode cX11_init 207 = .ok (.iconst 0, 1) := by decide +kernel
theorem dX11_init_208 : decode cX11_init 208 = .ok (.istore_n 1, 1) := by decide +kernel
theorem dX11_init_209 : decode cX11_init 209 = .ok (.iload_n 1, 1) := by decide +kernel
theorem dX11_init_210 : decode cX11_init 210 = .ok (.iconst 2, 1) := by decide +kernel
theorem dX11_init_211 : decode cX11_init 211 = .ok (.if_icmp .ge 22, 3) := by decide +kernel
theorem dX11_init_214 : decode cX11_init 214 = .ok (.aload_n 0, 1) := by decide +kernel
theorem dX11_init_215 : decode cX11_init 215 = .ok (.getfield 61, 3) := by decide +kernel
theorem dX11_init_218 : decode cX11_init 218 = .ok (.iload_n 1, 1) := by decide +kernel
theorem dX11_init_219 : decode cX11_init 219 = .ok (.new 59, 3) := by decide +kernel
theorem dX11_init_222 : decode cX11_init 222 = .ok (.dup, 1) := by decide +kernel
theorem dX11_init_223 : decode cX11_init 223 = .ok (.invokespecial 72, 3) := by decide +kernel
theorem dX11_init_226 : decode cX11_init 226 = .ok (.aastore, 1) := by decide +kernel
theorem dX11_init_227 : decode cX11_init 227 = .ok (.iinc 1 1, 3) := by decide +kernel
theorem dX11_init_230 : decode cX11_init 230 = .ok (.goto (-21), 3) := by decide +kernel
theorem dX11_init_233 : decode cX11_init 233 = .ok (.return_, 1) := by decide +kernel
theorem dX11_sheet_0 : decode cX11_sheet 0 = .ok (.iload_n 1, 1) := by decide +kernel
theorem dX11_sheet_1 : decode cX11_sheet 1 = .ok (.invokestatic 90, 3) := by decide +kernel
theorem dX11_sheet_4 : decode cX11_sheet 4 = .ok (.ifCond .eq 18, 3) := by decide +kernel
theorem dX11_sheet_7 : decode cX11_sheet 7 = .ok (.iload_n 2, 1) := by decide +kernel
theorem dX11_sheet_8 : decode cX11_sheet 8 = .ok (.iconst 0, 1) := by decide +kernel
theorem dX11_sheet_9 : decode cX11_sheet 9 = .ok (.iconst 2, 1) := by decide +kernel
theorem dX11_sheet_10 : decode cX11_sheet 10 = .ok (.invokestatic 94, 3) := by decide +kernel
theorem dX11_sheet_13 : decode cX11_sheet 13 = .ok (.ifCond .eq 9, 3) := by decide +kernel
theorem dX11_sheet_16 : decode cX11_sheet 16 = .ok (.iload_n 3, 1) := by decide +kernel
theorem dX11_sheet_17 : decode cX11_sheet 17 = .ok (.bipush 80, 2) := by decide +kernel
theorem dX11_sheet_19 : decode cX11_sheet 19 = .ok (.if_icmp .le 6, 3) := by decide +kernel
theorem dX11_sheet_22 : decode cX11_sheet 22 = .ok (.ldc 98, 2) := by decide +kernel
theorem dX11_sheet_24 : decode cX11_sheet 24 = .ok (.ireturn, 1) := by decide +kernel
theorem dX11_sheet_25 : decode cX11_sheet 25 = .ok (.iload_n 3, 1) := by decide +kernel
theorem dX11_sheet_26 : decode cX11_sheet 26 = .ok (.ifCond .ge 9, 3) := by decide +kernel
theorem dX11_sheet_29 : decode cX11_sheet 29 = .ok (.aload_n 0, 1) := by decide +kernel
theorem dX11_sheet_30 : decode cX11_sheet 30 = .ok (.iconst 4, 1) := by decide +kernel
theorem dX11_sheet_31 : decode cX11_sheet 31 = .ok (.invokevirtual 99, 3) := by decide +kernel
theorem dX11_sheet_34 : decode cX11_sheet 34 = .ok (.ireturn, 1) := by decide +kernel
theorem dX11_sheet_35 : decode cX11_sheet 35 = .ok (.aload_n 0, 1) := by decide +kernel
theorem dX11_sheet_36 : decode cX11_sheet 36 = .ok (.getfield 11, 3) := by decide +kernel
theorem dX11_sheet_39 : decode cX11_sheet 39 = .ok (.iload_n 1, 1) := by decide +kernel
theorem dX11_sheet_40 : decode cX11_sheet 40 = .ok (.aaload, 1) := by decide +kernel
theorem dX11_sheet_41 : decode cX11_sheet 41 = .ok (.iload_n 2, 1) := by decide +kernel
theorem dX11_sheet_42 : decode cX11_sheet 42 = .ok (.iload_n 3, 1) := by decide +kernel
theorem dX11_sheet_43 : decode cX11_sheet 43 = .ok (.invokevirtual 103, 3) := by decide +kernel
theorem dX11_sheet_46 : decode cX11_sheet 46 = .ok (.aload_n 0, 1) := by decide +kernel
theorem dX11_sheet_47 : decode cX11_sheet 47 = .ok (.iload_n 3, 1) := by decide +kernel
theorem dX11_sheet_48 : decode cX11_sheet 48 = .ok (.invokevirtual 107, 3) := by decide +kernel
theorem dX11_sheet_51 : decode cX11_sheet 51 = .ok (.ireturn, 1) := by decide +kernel
theorem dX11_set_0 : decode cX11_set 0 = .ok (.iload_n 1, 1) := by decide +kernel
theorem dX11_set_1 : decode cX11_set 1 = .ok (.invokestatic 90, 3) := by decide +kernel
theorem dX11_set_4 : decode cX11_set 4 = .ok (.ifCond .ne 6, 3) := by decide +kernel
theorem dX11_set_7 : decode cX11_set 7 = .ok (.ldc 98, 2) := by decide +kernel
theorem dX11_set_9 : decode cX11_set 9 = .ok (.ireturn, 1) := by decide +kernel
theorem dX11_set_10 : decode cX11_set 10 = .ok (.aload_n 0, 1) := by decide +kernel
theorem dX11_set_11 : decode cX11_set 11 = .ok (.getfield 11, 3) := by decide +kernel
theorem dX11_set_14 : decode cX11_set 14 = .ok (.iload_n 1, 1) := by decide +kernel
theorem dX11_set_15 : decode cX11_set 15 = .ok (.aaload, 1) := by decide +kernel
theorem dX11_set_16 : decode cX11_set 16 = .ok (.astore 4, 2) := by decide +kernel
theorem dX11_set_18 : decode cX11_set 18 = .ok (.aload 4, 2) := by decide +kernel
theorem dX11_set_20 : decode cX11_set 20 = .ok (.invokevirtual 110, 3) := by decide +kernel
theorem dX11_set_23 : decode cX11_set 23 = .ok (.ifCond .eq 9, 3) := by decide +kernel
theorem dX11_set_26 : decode cX11_set 26 = .ok (.aload_n 0, 1) := by decide +kernel
theorem dX11_set_27 : decode cX11_set 27 = .ok (.iconst 1, 1) := by decide +kernel
theorem dX11_set_28 : decode cX11_set 28 = .ok (.invokevirtual 99, 3) := by decide +kernel
theorem dX11_set_31 : decode cX11_set 31 = .ok (.ireturn, 1) := by decide +kernel
theorem dX11_set_32 : decode cX11_set 32 = .ok (.aload 4, 2) := by decide +kernel
theorem dX11_set_34 : decode cX11_set 34 = .ok (.iload_n 2, 1) := by decide +kernel
theorem dX11_set_35 : decode cX11_set 35 = .ok (.iconst 1, 1) := by decide +kernel
theorem dX11_set_36 : decode cX11_set 36 = .ok (.invokevirtual 114, 3) := by decide +kernel
theorem dX11_set_39 : decode cX11_set 39 = .ok (.ifCond .ne 9, 3) := by decide +kernel
theorem dX11_set_42 : decode cX11_set 42 = .ok (.aload_n 0, 1) := by decide +kernel
theorem dX11_set_43 : decode cX11_set 43 = .ok (.iconst 2, 1) := by decide +kernel
theorem dX11_set_44 : decode cX11_set 44 = .ok (.invokevirtual 99, 3) := by decide +kernel
theorem dX11_set_47 : decode cX11_set 47 = .ok (.ireturn, 1) := by decide +kernel
theorem dX11_set_48 : decode cX11_set 48 = .ok (.aload_n 0, 1) := by decide +kernel
theorem dX11_set_49 : decode cX11_set 49 = .ok (.aload 4, 2) := by decide +kernel
theorem dX11_set_51 : decode cX11_set 51 = .ok (.iload_n 2, 1) := by decide +kernel
theorem dX11_set_52 : decode cX11_set 52 = .ok (.iload_n 3, 1) := by decide +kernel
theorem dX11_set_53 : decode cX11_set 53 = .ok (.invokevirtual 118, 3) := by decide +kernel
theorem dX11_set_56 : decode cX11_set 56 = .ok (.invokevirtual 107, 3) := by decide +kernel
theorem dX11_set_59 : decode cX11_set 59 = .ok (.ireturn, 1) := by decide +kernel
theorem dX11_copy_0 : decode cX11_copy 0 = .ok (.iload_n 1, 1) := by decide +kernel
theorem dX11_copy_1 : decode cX11_copy 1 = .ok (.invokestatic 90, 3) := by decide +kernel
theorem dX11_copy_4 : decode cX11_copy 4 = .ok (.ifCond .eq 10, 3) := by decide +kernel
theorem dX11_copy_7 : decode cX11_copy 7 = .ok (.iload_n 3, 1) := by decide +kernel
theorem dX11_copy_8 : decode cX11_copy 8 = .ok (.invokestatic 90, 3) := by decide +kernel
theorem dX11_copy_11 : decode cX11_copy 11 = .ok (.ifCond .ne 6, 3) := by decide +kernel
theorem dX11_copy_14 : decode cX11_copy 14 = .ok (.ldc 98, 2) := by decide +kernel
theorem dX11_copy_16 : decode cX11_copy 16 = .ok (.ireturn, 1) := by decide +kernel
theorem dX11_copy_17 : decode cX11_copy 17 = .ok (.aload_n 0, 1) := by decide +kernel
theorem dX11_copy_18 : decode cX11_copy 18 = .ok (.getfield 11, 3) := by decide +kernel
theorem dX11_copy_21 : decode cX11_copy 21 = .ok (.iload_n 1, 1) := by decide +kernel
theorem dX11_copy_22 : decode cX11_copy 22 = .ok (.aaload, 1) := by decide +kernel
theorem dX11_copy_23 : decode cX11_copy 23 = .ok (.astore 6, 2) := by decide +kernel
theorem dX11_copy_25 : decode cX11_copy 25 = .ok (.aload_n 0, 1) := by decide +kernel
theorem dX11_copy_26 : decode cX11_copy 26 = .ok (.getfield 11, 3) := by decide +kernel
theorem dX11_copy_29 : decode cX11_copy 29 = .ok (.iload_n 3, 1) := by decide +kernel
theorem dX11_copy_30 : decode cX11_copy 30 = .ok (.aaload, 1) := by decide +kernel
theorem dX11_copy_31 : decode cX11_copy 31 = .ok (.astore 7, 2) := by decide +kernel
theorem dX11_copy_33 : decode cX11_copy 33 = .ok (.aload 6, 2) := by decide +kernel
theorem dX11_copy_35 : decode cX11_copy 35 = .ok (.invokevirtual 110, 3) := by decide +kernel
theorem dX11_copy_38 : decode cX11_copy 38 = .ok (.ifCond .ne 11, 3) := by decide +kernel
theorem dX11_copy_41 : decode cX11_copy 41 = .ok (.aload 7, 2) := by decide +kernel
theorem dX11_copy_43 : decode cX11_copy 43 = .ok (.invokevirtual 110, 3) := by decide +kernel
theorem dX11_copy_46 : decode cX11_copy 46 = .ok (.ifCond .eq 9, 3) := by decide +kernel
theorem dX11_copy_49 : decode cX11_copy 49 = .ok (.aload_n 0, 1) := by decide +kernel
theorem dX11_copy_50 : decode cX11_copy 50 = .ok (.iconst 1, 1) := by decide +kernel
theorem dX11_copy_51 : decode cX11_copy 51 = .ok (.invokevirtual 99, 3) := by decide +kernel
theorem dX11_copy_54 : decode cX11_copy 54 = .ok (.ireturn, 1) := by decide +kernel
theorem dX11_copy_55 : decode cX11_copy 55 = .ok (.aload 6, 2) := by decide +kernel
theorem dX11_copy_57 : decode cX11_copy 57 = .ok (.getfield 122, 3) := by decide +kernel
theorem dX11_copy_60 : decode cX11_copy 60 = .ok (.aload 7, 2) := by decide +kernel
theorem dX11_copy_62 : decode cX11_copy 62 = .ok (.getfield 122, 3) := by decide +kernel
theorem dX11_copy_65 : decode cX11_copy 65 = .ok (.if_icmp .eq 9, 3) := by decide +kernel
theorem dX11_copy_68 : decode cX11_copy 68 = .ok (.aload_n 0, 1) := by decide +kernel
theorem dX11_copy_69 : decode cX11_copy 69 = .ok (.iconst 5, 1) := by decide +kernel
theorem dX11_copy_70 : decode cX11_copy 70 = .ok (.invokevirtual 99, 3) := by decide +kernel
theorem dX11_copy_73 : decode cX11_copy 73 = .ok (.ireturn, 1) := by decide +kernel
theorem dX11_copy_74 : decode cX11_copy 74 = .ok (.aload 6, 2) := by decide +kernel
theorem dX11_copy_76 : decode cX11_copy 76 = .ok (.iload_n 2, 1) := by decide +kernel
theorem dX11_copy_77 : decode cX11_copy 77 = .ok (.iload 5, 2) := by decide +kernel
theorem dX11_copy_79 : decode cX11_copy 79 = .ok (.invokevirtual 114, 3) := by decide +kernel
theorem dX11_copy_82 : decode cX11_copy 82 = .ok (.ifCond .eq 15, 3) := by decide +kernel
theorem dX11_copy_85 : decode cX11_copy 85 = .ok (.aload 7, 2) := by decide +kernel
theorem dX11_copy_87 : decode cX11_copy 87 = .ok (.iload 4, 2) := by decide +kernel
theorem dX11_copy_89 : decode cX11_copy 89 = .ok (.iload 5, 2) := by decide +kernel
theorem dX11_copy_91 : decode cX11_copy 91 = .ok (.invokevirtual 114, 3) := by decide +kernel
theorem dX11_copy_94 : decode cX11_copy 94 = .ok (.ifCond .ne 9, 3) := by decide +kernel
theorem dX11_copy_97 : decode cX11_copy 97 = .ok (.aload_n 0, 1) := by decide +kernel
theorem dX11_copy_98 : decode cX11_copy 98 = .ok (.iconst 2, 1) := by decide +kernel
theorem dX11_copy_99 : decode cX11_copy 99 = .ok (.invokevirtual 99, 3) := by decide +kernel
theorem dX11_copy_102 : decode cX11_copy 102 = .ok (.ireturn, 1) := by decide +kernel
theorem dX11_copy_103 : decode cX11_copy 103 = .ok (.aload 6, 2) := by decide +kernel
theorem dX11_copy_105 : decode cX11_copy 105 = .ok (.getfield 125, 3) := by decide +kernel
theorem dX11_copy_108 : decode cX11_copy 108 = .ok (.iload_n 2, 1) := by decide +kernel
theorem dX11_copy_109 : decode cX11_copy 109 = .ok (.aload 7, 2) := by decide +kernel
theorem dX11_copy_111 : decode cX11_copy 111 = .ok (.getfield 125, 3) := by decide +kernel
theorem dX11_copy_114 : decode cX11_copy 114 = .ok (.iload 4, 2) := by decide +kernel
theorem dX11_copy_116 : decode cX11_copy 116 = .ok (.iload 5, 2) := by decide +kernel
theorem dX11_copy_118 : decode cX11_copy 118 = .ok (.invokestatic 129, 3) := by decide +kernel
theorem dX11_copy_121 : decode cX11_copy 121 = .ok (.aload_n 0, 1) := by decide +kernel
theorem dX11_copy_122 : decode cX11_copy 122 = .ok (.iload 5, 2) := by decide +kernel
theorem dX11_copy_124 : decode cX11_copy 124 = .ok (.invokevirtual 107, 3) := by decide +kernel
theorem dX11_copy_127 : decode cX11_copy 127 = .ok (.ireturn, 1) := by decide +kernel
theorem dX11_drop_0 : decode cX11_drop 0 = .ok (.iload_n 1, 1) := by decide +kernel
theorem dX11_drop_1 : decode cX11_drop 1 = .ok (.invokestatic 90, 3) := by decide +kernel
theorem dX11_drop_4 : decode cX11_drop 4 = .ok (.ifCond .ne 6, 3) := by decide +kernel
theorem dX11_drop_7 : decode cX11_drop 7 = .ok (.ldc 98, 2) := by decide +kernel
theorem dX11_drop_9 : decode cX11_drop 9 = .ok (.ireturn, 1) := by decide +kernel
theorem dX11_drop_10 : decode cX11_drop 10 = .ok (.aload_n 0, 1) := by decide +kernel
theorem dX11_drop_11 : decode cX11_drop 11 = .ok (.getfield 11, 3) := by decide +kernel
theorem dX11_drop_14 : decode cX11_drop 14 = .ok (.iload_n 1, 1) := by decide +kernel
theorem dX11_drop_15 : decode cX11_drop 15 = .ok (.aaload, 1) := by decide +kernel
theorem dX11_drop_16 : decode cX11_drop 16 = .ok (.invokevirtual 110, 3) := by decide +kernel
theorem dX11_drop_19 : decode cX11_drop 19 = .ok (.ifCond .eq 9, 3) := by decide +kernel
theorem dX11_drop_22 : decode cX11_drop 22 = .ok (.aload_n 0, 1) := by decide +kernel
theorem dX11_drop_23 : decode cX11_drop 23 = .ok (.iconst 1, 1) := by decide +kernel
theorem dX11_drop_24 : decode cX11_drop 24 = .ok (.invokevirtual 99, 3) := by decide +kernel
theorem dX11_drop_27 : decode cX11_drop 27 = .ok (.ireturn, 1) := by decide +kernel
theorem dX11_drop_28 : decode cX11_drop 28 = .ok (.aload_n 0, 1) := by decide +kernel
theorem dX11_drop_29 : decode cX11_drop 29 = .ok (.aload_n 0, 1) := by decide +kernel
theorem dX11_drop_30 : decode cX11_drop 30 = .ok (.getfield 11, 3) := by decide +kernel
theorem dX11_drop_33 : decode cX11_drop 33 = .ok (.iload_n 1, 1) := by decide +kernel
theorem dX11_drop_34 : decode cX11_drop 34 = .ok (.aaload, 1) := by decide +kernel
theorem dX11_drop_35 : decode cX11_drop 35 = .ok (.invokevirtual 135, 3) := by decide +kernel
theorem dX11_drop_38 : decode cX11_drop 38 = .ok (.invokevirtual 107, 3) := by decide +kernel
theorem dX11_drop_41 : decode cX11_drop 41 = .ok (.ireturn, 1) := by decide +kernel
theorem dX11_room_0 : decode cX11_room 0 = .ok (.iload_n 1, 1) := by decide +kernel
theorem dX11_room_1 : decode cX11_room 1 = .ok (.iconst 0, 1) := by decide +kernel
theorem dX11_room_2 : decode cX11_room 2 = .ok (.bipush 6, 2) := by decide +kernel
theorem dX11_room_4 : decode cX11_room 4 = .ok (.invokestatic 94, 3) := by decide +kernel
theorem dX11_room_7 : decode cX11_room 7 = .ok (.ifCond .eq 20, 3) := by decide +kernel
theorem dX11_room_10 : decode cX11_room 10 = .ok (.iload_n 2, 1) := by decide +kernel
theorem dX11_room_11 : decode cX11_room 11 = .ok (.getstatic 139, 3) := by decide +kernel
theorem dX11_room_14 : decode cX11_room 14 = .ok (.iload_n 1, 1) := by decide +kernel
theorem dX11_room_15 : decode cX11_room 15 = .ok (.iaload, 1) := by decide +kernel
theorem dX11_room_16 : decode cX11_room 16 = .ok (.getstatic 142, 3) := by decide +kernel
theorem dX11_room_19 : decode cX11_room 19 = .ok (.iload_n 1, 1) := by decide +kernel
theorem dX11_room_20 : decode cX11_room 20 = .ok (.iaload, 1) := by decide +kernel
theorem dX11_room_21 : decode cX11_room 21 = .ok (.invokestatic 94, 3) := by decide +kernel
theorem dX11_room_24 : decode cX11_room 24 = .ok (.ifCond .ne 6, 3) := by decide +kernel
theorem dX11_room_27 : decode cX11_room 27 = .ok (.ldc 98, 2) := by decide +kernel
theorem dX11_room_29 : decode cX11_room 29 = .ok (.ireturn, 1) := by decide +kernel
theorem dX11_room_30 : decode cX11_room 30 = .ok (.aload_n 0, 1) := by decide +kernel
theorem dX11_room_31 : decode cX11_room 31 = .ok (.getfield 18, 3) := by decide +kernel
theorem dX11_room_34 : decode cX11_room 34 = .ok (.getfield 145, 3) := by decide +kernel
theorem dX11_room_37 : decode cX11_room 37 = .ok (.iload_n 1, 1) := by decide +kernel
theorem dX11_room_38 : decode cX11_room 38 = .ok (.iaload, 1) := by decide +kernel
theorem dX11_room_39 : decode cX11_room 39 = .ok (.istore_n 3, 1) := by decide +kernel
theorem dX11_room_40 : decode cX11_room 40 = .ok (.aload_n 0, 1) := by decide +kernel
theorem dX11_room_41 : decode cX11_room 41 = .ok (.getfield 18, 3) := by decide +kernel
theorem dX11_room_44 : decode cX11_room 44 = .ok (.getfield 145, 3) := by decide +kernel
theorem dX11_room_47 : decode cX11_room 47 = .ok (.iload_n 1, 1) := by decide +kernel
theorem dX11_room_48 : decode cX11_room 48 = .ok (.iload_n 2, 1) := by decide +kernel
theorem dX11_room_49 : decode cX11_room 49 = .ok (.iastore, 1) := by decide +kernel
theorem dX11_room_50 : decode cX11_room 50 = .ok (.iload_n 3, 1) := by decide +kernel
theorem dX11_room_51 : decode cX11_room 51 = .ok (.ireturn, 1) := by decide +kernel
theorem dX11_bend_0 : decode cX11_bend 0 = .ok (.iload_n 1, 1) := by decide +kernel
theorem dX11_bend_1 : decode cX11_bend 1 = .ok (.bipush (-8), 2) := by decide +kernel
theorem dX11_bend_3 : decode cX11_bend 3 = .ok (.bipush 8, 2) := by decide +kernel
theorem dX11_bend_5 : decode cX11_bend 5 = .ok (.invokestatic 94, 3) := by decide +kernel
theorem dX11_bend_8 : decode cX11_bend 8 = .ok (.ifCond .eq 14, 3) := by decide +kernel
theorem dX11_bend_11 : decode cX11_bend 11 = .ok (.iload_n 2, 1) := by decide +kernel
theorem dX11_bend_12 : decode cX11_bend 12 = .ok (.bipush (-50), 2) := by decide +kernel
theorem dX11_bend_14 : decode cX11_bend 14 = .ok (.bipush 50, 2) := by decide +kernel
theorem dX11_bend_16 : decode cX11_bend 16 = .ok (.invokestatic 94, 3) := by decide +kernel
theorem dX11_bend_19 : decode cX11_bend 19 = .ok (.ifCond .ne 6, 3) := by decide +kernel
theorem dX11_bend_22 : decode cX11_bend 22 = .ok (.ldc 98, 2) := by decide +kernel
theorem dX11_bend_24 : decode cX11_bend 24 = .ok (.ireturn, 1) := by decide +kernel
theorem dX11_bend_25 : decode cX11_bend 25 = .ok (.aload_n 0, 1) := by decide +kernel
theorem dX11_bend_26 : decode cX11_bend 26 = .ok (.getfield 18, 3) := by decide +kernel
theorem dX11_bend_29 : decode cX11_bend 29 = .ok (.getfield 148, 3) := by decide +kernel
theorem dX11_bend_32 : decode cX11_bend 32 = .ok (.iload_n 1, 1) := by decide +kernel
theorem dX11_bend_33 : decode cX11_bend 33 = .ok (.bipush 8, 2) := by decide +kernel
theorem dX11_bend_35 : decode cX11_bend 35 = .ok (.iadd, 1) := by decide +kernel
theorem dX11_bend_36 : decode cX11_bend 36 = .ok (.iaload, 1) := by decide +kernel
theorem dX11_bend_37 : decode cX11_bend 37 = .ok (.istore_n 3, 1) := by decide +kernel
theorem dX11_bend_38 : decode cX11_bend 38 = .ok (.aload_n 0, 1) := by decide +kernel
theorem dX11_bend_39 : decode cX11_bend 39 = .ok (.getfield 18, 3) := by decide +kernel
theorem dX11_bend_42 : decode cX11_bend 42 = .ok (.getfield 148, 3) := by decide +kernel
theorem dX11_bend_45 : decode cX11_bend 45 = .ok (.iload_n 1, 1) := by decide +kernel
theorem dX11_bend_46 : decode cX11_bend 46 = .ok (.bipush 8, 2) := by decide +kernel
theorem dX11_bend_48 : decode cX11_bend 48 = .ok (.iadd, 1) := by decide +kernel
theorem dX11_bend_49 : decode cX11_bend 49 = .ok (.iload_n 2, 1) := by decide +kernel
theorem dX11_bend_50 : decode cX11_bend 50 = .ok (.iastore, 1) := by decide +kernel
theorem dX11_bend_51 : decode cX11_bend 51 = .ok (.iload_n 3, 1) := by decide +kernel
theorem dX11_bend_52 : decode cX11_bend 52 = .ok (.ireturn, 1) := by decide +kernel
theorem dX11_told_0 : decode cX11_told 0 = .ok (.iload_n 1, 1) := by decide +kernel
theorem dX11_told_1 : decode cX11_told 1 = .ok (.iconst 0, 1) := by decide +kernel
theorem dX11_told_2 : decode cX11_told 2 = .ok (.bipush 23, 2) := by decide +kernel
theorem dX11_told_4 : decode cX11_told 4 = .ok (.invokestatic 94, 3) := by decide +kernel
theorem dX11_told_7 : decode cX11_told 7 = .ok (.ifCond .ne 6, 3) := by decide +kernel
theorem dX11_told_10 : decode cX11_told 10 = .ok (.ldc 98, 2) := by decide +kernel
theorem dX11_told_12 : decode cX11_told 12 = .ok (.ireturn, 1) := by decide +kernel
theorem dX11_told_13 : decode cX11_told 13 = .ok (.iload_n 1, 1) := by decide +kernel
theorem dX11_told_14 : decode cX11_told 14 = .ok (.bipush 7, 2) := by decide +kernel
theorem dX11_told_16 : decode cX11_told 16 = .ok (.if_icmp .ge 15, 3) := by decide +kernel
theorem dX11_told_19 : decode cX11_told 19 = .ok (.aload_n 0, 1) := by decide +kernel
theorem dX11_told_20 : decode cX11_told 20 = .ok (.getfield 18, 3) := by decide +kernel
theorem dX11_told_23 : decode cX11_told 23 = .ok (.getfield 145, 3) := by decide +kernel
theorem dX11_told_26 : decode cX11_told 26 = .ok (.iload_n 1, 1) := by decide +kernel
theorem dX11_told_27 : decode cX11_told 27 = .ok (.iaload, 1) := by decide +kernel
theorem dX11_told_28 : decode cX11_told 28 = .ok (.goto 15, 3) := by decide +kernel
theorem dX11_told_31 : decode cX11_told 31 = .ok (.aload_n 0, 1) := by decide +kernel
theorem dX11_told_32 : decode cX11_told 32 = .ok (.getfield 18, 3) := by decide +kernel
theorem dX11_told_35 : decode cX11_told 35 = .ok (.getfield 148, 3) := by decide +kernel
theorem dX11_told_38 : decode cX11_told 38 = .ok (.iload_n 1, 1) := by decide +kernel
theorem dX11_told_39 : decode cX11_told 39 = .ok (.bipush 7, 2) := by decide +kernel
theorem dX11_told_41 : decode cX11_told 41 = .ok (.isub, 1) := by decide +kernel
theorem dX11_told_42 : decode cX11_told 42 = .ok (.iaload, 1) := by decide +kernel
theorem dX11_told_43 : decode cX11_told 43 = .ok (.ireturn, 1) := by decide +kernel
theorem dX11_thing_0 : decode cX11_thing 0 = .ok (.iload_n 1, 1) := by decide +kernel
theorem dX11_thing_1 : decode cX11_thing 1 = .ok (.iload_n 2, 1) := by decide +kernel
theorem dX11_thing_2 : decode cX11_thing 2 = .ok (.iload_n 3, 1) := by decide +kernel
theorem dX11_thing_3 : decode cX11_thing 3 = .ok (.invokestatic 151, 3) := by decide +kernel
theorem dX11_thing_6 : decode cX11_thing 6 = .ok (.ifCond .ne 6, 3) := by decide +kernel
theorem dX11_thing_9 : decode cX11_thing 9 = .ok (.ldc 98, 2) := by decide +kernel
theorem dX11_thing_11 : decode cX11_thing 11 = .ok (.ireturn, 1) := by decide +kernel
theorem dX11_thing_12 : decode cX11_thing 12 = .ok (.aload_n 0, 1) := by decide +kernel
theorem dX11_thing_13 : decode cX11_thing 13 = .ok (.getfield 28, 3) := by decide +kernel
theorem dX11_thing_16 : decode cX11_thing 16 = .ok (.bipush 24, 2) := by decide +kernel
theorem dX11_thing_18 : decode cX11_thing 18 = .ok (.if_icmp .lt 6, 3) := by decide +kernel
theorem dX11_thing_21 : decode cX11_thing 21 = .ok (.ldc 154, 2) := by decide +kernel
theorem dX11_thing_23 : decode cX11_thing 23 = .ok (.ireturn, 1) := by decide +kernel
theorem dX11_thing_24 : decode cX11_thing 24 = .ok (.aload_n 0, 1) := by decide +kernel
theorem dX11_thing_25 : decode cX11_thing 25 = .ok (.getfield 24, 3) := by decide +kernel
theorem dX11_thing_28 : decode cX11_thing 28 = .ok (.aload_n 0, 1) := by decide +kernel
theorem dX11_thing_29 : decode cX11_thing 29 = .ok (.getfield 28, 3) := by decide +kernel
theorem dX11_thing_32 : decode cX11_thing 32 = .ok (.aaload, 1) := by decide +kernel
theorem dX11_thing_33 : decode cX11_thing 33 = .ok (.iload_n 1, 1) := by decide +kernel
theorem dX11_thing_34 : decode cX11_thing 34 = .ok (.iload_n 2, 1) := by decide +kernel
theorem dX11_thing_35 : decode cX11_thing 35 = .ok (.iload_n 3, 1) := by decide +kernel
theorem dX11_thing_36 : decode cX11_thing 36 = .ok (.invokevirtual 155, 3) := by decide +kernel
theorem dX11_thing_39 : decode cX11_thing 39 = .ok (.aload_n 0, 1) := by decide +kernel
theorem dX11_thing_40 : decode cX11_thing 40 = .ok (.dup, 1) := by decide +kernel
theorem dX11_thing_41 : decode cX11_thing 41 = .ok (.getfield 28, 3) := by decide +kernel
theorem dX11_thing_44 : decode cX11_thing 44 = .ok (.iconst 1, 1) := by decide +kernel
theorem dX11_thing_45 : decode cX11_thing 45 = .ok (.iadd, 1) := by decide +kernel
theorem dX11_thing_46 : decode cX11_thing 46 = .ok (.putfield 28, 3) := by decide +kernel
theorem dX11_thing_49 : decode cX11_thing 49 = .ok (.aload_n 0, 1) := by decide +kernel
theorem dX11_thing_50 : decode cX11_thing 50 = .ok (.getfield 28, 3) := by decide +kernel
theorem dX11_thing_53 : decode cX11_thing 53 = .ok (.iconst 1, 1) := by decide +kernel
theorem dX11_thing_54 : decode cX11_thing 54 = .ok (.isub, 1) := by decide +kernel
theorem dX11_thing_55 : decode cX11_thing 55 = .ok (.ireturn, 1) := by decide +kernel
theorem dX11_move_0 : decode cX11_move 0 = .ok (.aload_n 0, 1) := by decide +kernel
theorem dX11_move_1 : decode cX11_move 1 = .ok (.iload_n 1, 1) := by decide +kernel
theorem dX11_move_2 : decode cX11_move 2 = .ok (.invokevirtual 159, 3) := by decide +kernel
theorem dX11_move_5 : decode cX11_move 5 = .ok (.ifCond .eq 13, 3) := by decide +kernel
theorem dX11_move_8 : decode cX11_move 8 = .ok (.iload_n 2, 1) := by decide +kernel
theorem dX11_move_9 : decode cX11_move 9 = .ok (.iload_n 3, 1) := by decide +kernel
theorem dX11_move_10 : decode cX11_move 10 = .ok (.iload 4, 2) := by decide +kernel
theorem dX11_move_12 : decode cX11_move 12 = .ok (.invokestatic 151, 3) := by decide +kernel
theorem dX11_move_15 : decode cX11_move 15 = .ok (.ifCond .ne 6, 3) := by decide +kernel
theorem dX11_move_18 : decode cX11_move 18 = .ok (.ldc 98, 2) := by decide +kernel
theorem dX11_move_20 : decode cX11_move 20 = .ok (.ireturn, 1) := by decide +kernel
theorem dX11_move_21 : decode cX11_move 21 = .ok (.aload_n 0, 1) := by decide +kernel
theorem dX11_move_22 : decode cX11_move 22 = .ok (.getfield 24, 3) := by decide +kernel
theorem dX11_move_25 : decode cX11_move 25 = .ok (.iload_n 1, 1) := by decide +kernel
theorem dX11_move_26 : decode cX11_move 26 = .ok (.aaload, 1) := by decide +kernel
theorem dX11_move_27 : decode cX11_move 27 = .ok (.iload_n 2, 1) := by decide +kernel
theorem dX11_move_28 : decode cX11_move 28 = .ok (.iload_n 3, 1) := by decide +kernel
theorem dX11_move_29 : decode cX11_move 29 = .ok (.iload 4, 2) := by decide +kernel
theorem dX11_move_31 : decode cX11_move 31 = .ok (.invokevirtual 155, 3) := by decide +kernel
theorem dX11_move_34 : decode cX11_move 34 = .ok (.iconst 1, 1) := by decide +kernel
theorem dX11_move_35 : decode cX11_move 35 = .ok (.ireturn, 1) := by decide +kernel
theorem dX11_picture_0 : decode cX11_picture 0 = .ok (.aload_n 0, 1) := by decide +kernel
theorem dX11_picture_1 : decode cX11_picture 1 = .ok (.iload_n 1, 1) := by decide +kernel
theorem dX11_picture_2 : decode cX11_picture 2 = .ok (.invokevirtual 159, 3) := by decide +kernel
theorem dX11_picture_5 : decode cX11_picture 5 = .ok (.ifCond .eq 13, 3) := by decide +kernel
theorem dX11_picture_8 : decode cX11_picture 8 = .ok (.iload_n 2, 1) := by decide +kernel
theorem dX11_picture_9 : decode cX11_picture 9 = .ok (.iconst 0, 1) := by decide +kernel
theorem dX11_picture_10 : decode cX11_picture 10 = .ok (.bipush 8, 2) := by decide +kernel
theorem dX11_picture_12 : decode cX11_picture 12 = .ok (.invokestatic 94, 3) := by decide +kernel
theorem dX11_picture_15 : decode cX11_picture 15 = .ok (.ifCond .ne 6, 3) := by decide +kernel
theorem dX11_picture_18 : decode cX11_picture 18 = .ok (.ldc 98, 2) := by decide +kernel
theorem dX11_picture_20 : decode cX11_picture 20 = .ok (.ireturn, 1) := by decide +kernel
theorem dX11_picture_21 : decode cX11_picture 21 = .ok (.aload_n 0, 1) := by decide +kernel
theorem dX11_picture_22 : decode cX11_picture 22 = .ok (.getfield 24, 3) := by decide +kernel
theorem dX11_picture_25 : decode cX11_picture 25 = .ok (.iload_n 1, 1) := by decide +kernel
theorem dX11_picture_26 : decode cX11_picture 26 = .ok (.aaload, 1) := by decide +kernel
theorem dX11_picture_27 : decode cX11_picture 27 = .ok (.astore_n 3, 1) := by decide +kernel
theorem dX11_picture_28 : decode cX11_picture 28 = .ok (.aload_n 0, 1) := by decide +kernel
theorem dX11_picture_29 : decode cX11_picture 29 = .ok (.getfield 35, 3) := by decide +kernel
theorem dX11_picture_32 : decode cX11_picture 32 = .ok (.aload_n 0, 1) := by decide +kernel
theorem dX11_picture_33 : decode cX11_picture 33 = .ok (.getfield 18, 3) := by decide +kernel
theorem dX11_picture_36 : decode cX11_picture 36 = .ok (.aload_n 3, 1) := by decide +kernel
theorem dX11_picture_37 : decode cX11_picture 37 = .ok (.invokevirtual 162, 3) := by decide +kernel
theorem dX11_picture_40 : decode cX11_picture 40 = .ok (.iload_n 2, 1) := by decide +kernel
theorem dX11_picture_41 : decode cX11_picture 41 = .ok (.tableswitch 102 0 7 #[47, 52, 57, 62, 70, 78, 86, 94], 47) := by decide +kernel
theorem dX11_picture_88 : decode cX11_picture 88 = .ok (.aload_n 3, 1) := by decide +kernel
theorem dX11_picture_89 : decode cX11_picture 89 = .ok (.getfield 166, 3) := by decide +kernel
theorem dX11_picture_92 : decode cX11_picture 92 = .ok (.ireturn, 1) := by decide +kernel
theorem dX11_picture_93 : decode cX11_picture 93 = .ok (.aload_n 3, 1) := by decide +kernel
theorem dX11_picture_94 : decode cX11_picture 94 = .ok (.getfield 169, 3) := by decide +kernel
theorem dX11_picture_97 : decode cX11_picture 97 = .ok (.ireturn, 1) := by decide +kernel
theorem dX11_picture_98 : decode cX11_picture 98 = .ok (.aload_n 3, 1) := by decide +kernel
theorem dX11_picture_99 : decode cX11_picture 99 = .ok (.getfield 172, 3) := by decide +kernel
theorem dX11_picture_102 : decode cX11_picture 102 = .ok (.ireturn, 1) := by decide +kernel
theorem dX11_picture_103 : decode cX11_picture 103 = .ok (.aload_n 0, 1) := by decide +kernel
theorem dX11_picture_104 : decode cX11_picture 104 = .ok (.getfield 35, 3) := by decide +kernel
theorem dX11_picture_107 : decode cX11_picture 107 = .ok (.getfield 175, 3) := by decide +kernel
theorem dX11_picture_110 : decode cX11_picture 110 = .ok (.ireturn, 1) := by decide +kernel
theorem dX11_picture_111 : decode cX11_picture 111 = .ok (.aload_n 0, 1) := by decide +kernel
theorem dX11_picture_112 : decode cX11_picture 112 = .ok (.getfield 35, 3) := by decide +kernel
theorem dX11_picture_115 : decode cX11_picture 115 = .ok (.getfield 178, 3) := by decide +kernel
theorem dX11_picture_118 : decode cX11_picture 118 = .ok (.ireturn, 1) := by decide +kernel
theorem dX11_picture_119 : decode cX11_picture 119 = .ok (.aload_n 0, 1) := by decide +kernel
theorem dX11_picture_120 : decode cX11_picture 120 = .ok (.getfield 35, 3) := by decide +kernel
theorem dX11_picture_123 : decode cX11_picture 123 = .ok (.getfield 181, 3) := by decide +kernel
theorem dX11_picture_126 : decode cX11_picture 126 = .ok (.ireturn, 1) := by decide +kernel
theorem dX11_picture_127 : decode cX11_picture 127 = .ok (.aload_n 0, 1) := by decide +kernel
theorem dX11_picture_128 : decode cX11_picture 128 = .ok (.getfield 35, 3) := by decide +kernel
theorem dX11_picture_131 : decode cX11_picture 131 = .ok (.getfield 184, 3) := by decide +kernel
theorem dX11_picture_134 : decode cX11_picture 134 = .ok (.ireturn, 1) := by decide +kernel
theorem dX11_picture_135 : decode cX11_picture 135 = .ok (.aload_n 0, 1) := by decide +kernel
theorem dX11_picture_136 : decode cX11_picture 136 = .ok (.getfield 35, 3) := by decide +kernel
theorem dX11_picture_139 : decode cX11_picture 139 = .ok (.getfield 185, 3) := by decide +kernel
theorem dX11_picture_142 : decode cX11_picture 142 = .ok (.ireturn, 1) := by decide +kernel
theorem dX11_picture_143 : decode cX11_picture 143 = .ok (.aload_n 0, 1) := by decide +kernel
theorem dX11_picture_144 : decode cX11_picture 144 = .ok (.getfield 35, 3) := by decide +kernel
theorem dX11_picture_147 : decode cX11_picture 147 = .ok (.getfield 186, 3) := by decide +kernel
theorem dX11_picture_150 : decode cX11_picture 150 = .ok (.ireturn, 1) := by decide +kernel
theorem dX11_focused_0 : decode cX11_focused 0 = .ok (.aload_n 0, 1) := by decide +kernel
theorem dX11_focused_1 : decode cX11_focused 1 = .ok (.iload_n 1, 1) := by decide +kernel
theorem dX11_focused_2 : decode cX11_focused 2 = .ok (.invokevirtual 159, 3) := by decide +kernel
theorem dX11_focused_5 : decode cX11_focused 5 = .ok (.ifCond .eq 12, 3) := by decide +kernel
theorem dX11_focused_8 : decode cX11_focused 8 = .ok (.iload_n 2, 1) := by decide +kernel
theorem dX11_focused_9 : decode cX11_focused 9 = .ok (.iconst 0, 1) := by decide +kernel
theorem dX11_focused_10 : decode cX11_focused 10 = .ok (.iconst 1, 1) := by decide +kernel
theorem dX11_focused_11 : decode cX11_focused 11 = .ok (.invokestatic 94, 3) := by decide +kernel
theorem dX11_focused_14 : decode cX11_focused 14 = .ok (.ifCond .ne 6, 3) := by decide +kernel
theorem dX11_focused_17 : decode cX11_focused 17 = .ok (.ldc 98, 2) := by decide +kernel
theorem dX11_focused_19 : decode cX11_focused 19 = .ok (.ireturn, 1) := by decide +kernel
theorem dX11_focused_20 : decode cX11_focused 20 = .ok (.aload_n 0, 1) := by decide +kernel
theorem dX11_focused_21 : decode cX11_focused 21 = .ok (.getfield 18, 3) := by decide +kernel
theorem dX11_focused_24 : decode cX11_focused 24 = .ok (.aload_n 0, 1) := by decide +kernel
theorem dX11_focused_25 : decode cX11_focused 25 = .ok (.getfield 24, 3) := by decide +kernel
theorem dX11_focused_28 : decode cX11_focused 28 = .ok (.iload_n 1, 1) := by decide +kernel
theorem dX11_focused_29 : decode cX11_focused 29 = .ok (.aaload, 1) := by decide +kernel
theorem dX11_focused_30 : decode cX11_focused 30 = .ok (.invokevirtual 189, 3) := by decide +kernel
theorem dX11_focused_33 : decode cX11_focused 33 = .ok (.istore_n 3, 1) := by decide +kernel
theorem dX11_focused_34 : decode cX11_focused 34 = .ok (.iload_n 2, 1) := by decide +kernel
theorem dX11_focused_35 : decode cX11_focused 35 = .ok (.ifCond .ne 7, 3) := by decide +kernel
theorem dX11_focused_38 : decode cX11_focused 38 = .ok (.iload_n 3, 1) := by decide +kernel
theorem dX11_focused_39 : decode cX11_focused 39 = .ok (.goto 17, 3) := by decide +kernel
theorem dX11_focused_42 : decode cX11_focused 42 = .ok (.aload_n 0, 1) := by decide +kernel
theorem dX11_focused_43 : decode cX11_focused 43 = .ok (.getfield 18, 3) := by decide +kernel
theorem dX11_focused_46 : decode cX11_focused 46 = .ok (.iload_n 3, 1) := by decide +kernel
theorem dX11_focused_47 : decode cX11_focused 47 = .ok (.aload_n 0, 1) := by decide +kernel
theorem dX11_focused_48 : decode cX11_focused 48 = .ok (.getfield 24, 3) := by decide +kernel
theorem dX11_focused_51 : decode cX11_focused 51 = .ok (.iload_n 1, 1) := by decide +kernel
theorem dX11_focused_52 : decode cX11_focused 52 = .ok (.aaload, 1) := by decide +kernel
theorem dX11_focused_53 : decode cX11_focused 53 = .ok (.invokevirtual 193, 3) := by decide +kernel
theorem dX11_focused_56 : decode cX11_focused 56 = .ok (.ireturn, 1) := by decide +kernel
theorem dX11_bent_0 : decode cX11_bent 0 = .ok (.bipush (-8), 2) := by decide +kernel
theorem dX11_bent_2 : decode cX11_bent 2 = .ok (.istore_n 1, 1) := by decide +kernel
theorem dX11_bent_3 : decode cX11_bent 3 = .ok (.iload_n 1, 1) := by decide +kernel
theorem dX11_bent_4 : decode cX11_bent 4 = .ok (.bipush 8, 2) := by decide +kernel
theorem dX11_bent_6 : decode cX11_bent 6 = .ok (.if_icmp .gt 89, 3) := by decide +kernel
theorem dX11_bent_9 : decode cX11_bent 9 = .ok (.aload_n 0, 1) := by decide +kernel
theorem dX11_bent_10 : decode cX11_bent 10 = .ok (.getfield 18, 3) := by decide +kernel
theorem dX11_bent_13 : decode cX11_bent 13 = .ok (.invokevirtual 197, 3) := by decide +kernel
theorem dX11_bent_16 : decode cX11_bent 16 = .ok (.iconst 0, 1) := by decide +kernel
theorem dX11_bent_17 : decode cX11_bent 17 = .ok (.istore_n 2, 1) := by decide +kernel
theorem dX11_bent_18 : decode cX11_bent 18 = .ok (.iload_n 2, 1) := by decide +kernel
theorem dX11_bent_19 : decode cX11_bent 19 = .ok (.aload_n 0, 1) := by decide +kernel
theorem dX11_bent_20 : decode cX11_bent 20 = .ok (.getfield 28, 3) := by decide +kernel
theorem dX11_bent_23 : decode cX11_bent 23 = .ok (.if_icmp .ge 47, 3) := by decide +kernel
theorem dX11_bent_26 : decode cX11_bent 26 = .ok (.aload_n 0, 1) := by decide +kernel
theorem dX11_bent_27 : decode cX11_bent 27 = .ok (.getfield 18, 3) := by decide +kernel
theorem dX11_bent_30 : decode cX11_bent 30 = .ok (.getfield 145, 3) := by decide +kernel
theorem dX11_bent_33 : decode cX11_bent 33 = .ok (.iconst 2, 1) := by decide +kernel
theorem dX11_bent_34 : decode cX11_bent 34 = .ok (.iaload, 1) := by decide +kernel
theorem dX11_bent_35 : decode cX11_bent 35 = .ok (.aload_n 0, 1) := by decide +kernel
theorem dX11_bent_36 : decode cX11_bent 36 = .ok (.getfield 24, 3) := by decide +kernel
theorem dX11_bent_39 : decode cX11_bent 39 = .ok (.iload_n 2, 1) := by decide +kernel
theorem dX11_bent_40 : decode cX11_bent 40 = .ok (.aaload, 1) := by decide +kernel
theorem dX11_bent_41 : decode cX11_bent 41 = .ok (.invokestatic 200, 3) := by decide +kernel
theorem dX11_bent_44 : decode cX11_bent 44 = .ok (.iload_n 1, 1) := by decide +kernel
theorem dX11_bent_45 : decode cX11_bent 45 = .ok (.if_icmp .ne 19, 3) := by decide +kernel
theorem dX11_bent_48 : decode cX11_bent 48 = .ok (.aload_n 0, 1) := by decide +kernel
theorem dX11_bent_49 : decode cX11_bent 49 = .ok (.getfield 18, 3) := by decide +kernel
theorem dX11_bent_52 : decode cX11_bent 52 = .ok (.aload_n 0, 1) := by decide +kernel
theorem dX11_bent_53 : decode cX11_bent 53 = .ok (.getfield 24, 3) := by decide +kernel
theorem dX11_bent_56 : decode cX11_bent 56 = .ok (.iload_n 2, 1) := by decide +kernel
theorem dX11_bent_57 : decode cX11_bent 57 = .ok (.aaload, 1) := by decide +kernel
theorem dX11_bent_58 : decode cX11_bent 58 = .ok (.getfield 172, 3) := by decide +kernel
theorem dX11_bent_61 : decode cX11_bent 61 = .ok (.invokevirtual 203, 3) := by decide +kernel
theorem dX11_bent_64 : decode cX11_bent 64 = .ok (.iinc 2 1, 3) := by decide +kernel
theorem dX11_bent_67 : decode cX11_bent 67 = .ok (.goto (-49), 3) := by decide +kernel
theorem dX11_bent_70 : decode cX11_bent 70 = .ok (.aload_n 0, 1) := by decide +kernel
theorem dX11_bent_71 : decode cX11_bent 71 = .ok (.getfield 18, 3) := by decide +kernel
theorem dX11_bent_74 : decode cX11_bent 74 = .ok (.getfield 148, 3) := by decide +kernel
theorem dX11_bent_77 : decode cX11_bent 77 = .ok (.iload_n 1, 1) := by decide +kernel
theorem dX11_bent_78 : decode cX11_bent 78 = .ok (.bipush 8, 2) := by decide +kernel
theorem dX11_bent_80 : decode cX11_bent 80 = .ok (.iadd, 1) := by decide +kernel
theorem dX11_bent_81 : decode cX11_bent 81 = .ok (.aload_n 0, 1) := by decide +kernel
theorem dX11_bent_82 : decode cX11_bent 82 = .ok (.getfield 18, 3) := by decide +kernel
theorem dX11_bent_85 : decode cX11_bent 85 = .ok (.invokevirtual 207, 3) := by decide +kernel
theorem dX11_bent_88 : decode cX11_bent 88 = .ok (.iastore, 1) := by decide +kernel
theorem dX11_bent_89 : decode cX11_bent 89 = .ok (.iinc 1 1, 3) := by decide +kernel
theorem dX11_bent_92 : decode cX11_bent 92 = .ok (.goto (-89), 3) := by decide +kernel
theorem dX11_bent_95 : decode cX11_bent 95 = .ok (.aload_n 0, 1) := by decide +kernel
theorem dX11_bent_96 : decode cX11_bent 96 = .ok (.getfield 18, 3) := by decide +kernel
theorem dX11_bent_99 : decode cX11_bent 99 = .ok (.invokevirtual 210, 3) := by decide +kernel
theorem dX11_bent_102 : decode cX11_bent 102 = .ok (.ireturn, 1) := by decide +kernel
theorem dX11_mark_0 : decode cX11_mark 0 = .ok (.iload_n 1, 1) := by decide +kernel
theorem dX11_mark_1 : decode cX11_mark 1 = .ok (.invokestatic 213, 3) := by decide +kernel
theorem dX11_mark_4 : decode cX11_mark 4 = .ok (.ifCond .eq 25, 3) := by decide +kernel
theorem dX11_mark_7 : decode cX11_mark 7 = .ok (.iload_n 2, 1) := by decide +kernel
theorem dX11_mark_8 : decode cX11_mark 8 = .ok (.invokestatic 216, 3) := by decide +kernel
theorem dX11_mark_11 : decode cX11_mark 11 = .ok (.ifCond .eq 18, 3) := by decide +kernel
theorem dX11_mark_14 : decode cX11_mark 14 = .ok (.iload_n 3, 1) := by decide +kernel
theorem dX11_mark_15 : decode cX11_mark 15 = .ok (.invokestatic 219, 3) := by decide +kernel
theorem dX11_mark_18 : decode cX11_mark 18 = .ok (.ifCond .eq 11, 3) := by decide +kernel
theorem dX11_mark_21 : decode cX11_mark 21 = .ok (.iload 4, 2) := by decide +kernel
theorem dX11_mark_23 : decode cX11_mark 23 = .ok (.invokestatic 219, 3) := by decide +kernel
theorem dX11_mark_26 : decode cX11_mark 26 = .ok (.ifCond .ne 6, 3) := by decide +kernel
theorem dX11_mark_29 : decode cX11_mark 29 = .ok (.ldc 98, 2) := by decide +kernel
theorem dX11_mark_31 : decode cX11_mark 31 = .ok (.ireturn, 1) := by decide +kernel
theorem dX11_mark_32 : decode cX11_mark 32 = .ok (.aload_n 0, 1) := by decide +kernel
theorem dX11_mark_33 : decode cX11_mark 33 = .ok (.getfield 41, 3) := by decide +kernel
theorem dX11_mark_36 : decode cX11_mark 36 = .ok (.iload_n 1, 1) := by decide +kernel
theorem dX11_mark_37 : decode cX11_mark 37 = .ok (.aaload, 1) := by decide +kernel
theorem dX11_mark_38 : decode cX11_mark 38 = .ok (.getfield 222, 3) := by decide +kernel
theorem dX11_mark_41 : decode cX11_mark 41 = .ok (.iload_n 2, 1) := by decide +kernel
theorem dX11_mark_42 : decode cX11_mark 42 = .ok (.baload, 1) := by decide +kernel
theorem dX11_mark_43 : decode cX11_mark 43 = .ok (.istore 5, 2) := by decide +kernel
theorem dX11_mark_45 : decode cX11_mark 45 = .ok (.aload_n 0, 1) := by decide +kernel
theorem dX11_mark_46 : decode cX11_mark 46 = .ok (.getfield 41, 3) := by decide +kernel
theorem dX11_mark_49 : decode cX11_mark 49 = .ok (.iload_n 1, 1) := by decide +kernel
theorem dX11_mark_50 : decode cX11_mark 50 = .ok (.aaload, 1) := by decide +kernel
theorem dX11_mark_51 : decode cX11_mark 51 = .ok (.iload_n 2, 1) := by decide +kernel
theorem dX11_mark_52 : decode cX11_mark 52 = .ok (.iload_n 3, 1) := by decide +kernel
theorem dX11_mark_53 : decode cX11_mark 53 = .ok (.iload 4, 2) := by decide +kernel
theorem dX11_mark_55 : decode cX11_mark 55 = .ok (.invokevirtual 226, 3) := by decide +kernel
theorem dX11_mark_58 : decode cX11_mark 58 = .ok (.iload 5, 2) := by decide +kernel
theorem dX11_mark_60 : decode cX11_mark 60 = .ok (.ifCond .eq 7, 3) := by decide +kernel
theorem dX11_mark_63 : decode cX11_mark 63 = .ok (.iconst 0, 1) := by decide +kernel
theorem dX11_mark_64 : decode cX11_mark 64 = .ok (.goto 4, 3) := by decide +kernel
theorem dX11_mark_67 : decode cX11_mark 67 = .ok (.iconst 1, 1) := by decide +kernel
theorem dX11_mark_68 : decode cX11_mark 68 = .ok (.ireturn, 1) := by decide +kernel
theorem dX11_rub_0 : decode cX11_rub 0 = .ok (.iload_n 1, 1) := by decide +kernel
theorem dX11_rub_1 : decode cX11_rub 1 = .ok (.invokestatic 213, 3) := by decide +kernel
theorem dX11_rub_4 : decode cX11_rub 4 = .ok (.ifCond .eq 10, 3) := by decide +kernel
theorem dX11_rub_7 : decode cX11_rub 7 = .ok (.iload_n 2, 1) := by decide +kernel
theorem dX11_rub_8 : decode cX11_rub 8 = .ok (.invokestatic 216, 3) := by decide +kernel
theorem dX11_rub_11 : decode cX11_rub 11 = .ok (.ifCond .ne 6, 3) := by decide +kernel
theorem dX11_rub_14 : decode cX11_rub 14 = .ok (.ldc 98, 2) := by decide +kernel
theorem dX11_rub_16 : decode cX11_rub 16 = .ok (.ireturn, 1) := by decide +kernel
theorem dX11_rub_17 : decode cX11_rub 17 = .ok (.aload_n 0, 1) := by decide +kernel
theorem dX11_rub_18 : decode cX11_rub 18 = .ok (.getfield 41, 3) := by decide +kernel
theorem dX11_rub_21 : decode cX11_rub 21 = .ok (.iload_n 1, 1) := by decide +kernel
theorem dX11_rub_22 : decode cX11_rub 22 = .ok (.aaload, 1) := by decide +kernel
theorem dX11_rub_23 : decode cX11_rub 23 = .ok (.getfield 222, 3) := by decide +kernel
theorem dX11_rub_26 : decode cX11_rub 26 = .ok (.iload_n 2, 1) := by decide +kernel
theorem dX11_rub_27 : decode cX11_rub 27 = .ok (.baload, 1) := by decide +kernel
theorem dX11_rub_28 : decode cX11_rub 28 = .ok (.istore_n 3, 1) := by decide +kernel
theorem dX11_rub_29 : decode cX11_rub 29 = .ok (.aload_n 0, 1) := by decide +kernel
theorem dX11_rub_30 : decode cX11_rub 30 = .ok (.getfield 41, 3) := by decide +kernel
theorem dX11_rub_33 : decode cX11_rub 33 = .ok (.iload_n 1, 1) := by decide +kernel
theorem dX11_rub_34 : decode cX11_rub 34 = .ok (.aaload, 1) := by decide +kernel
theorem dX11_rub_35 : decode cX11_rub 35 = .ok (.getfield 222, 3) := by decide +kernel
theorem dX11_rub_38 : decode cX11_rub 38 = .ok (.iload_n 2, 1) := by decide +kernel
theorem dX11_rub_39 : decode cX11_rub 39 = .ok (.iconst 0, 1) := by decide +kernel
theorem dX11_rub_40 : decode cX11_rub 40 = .ok (.bastore, 1) := by decide +kernel
theorem dX11_rub_41 : decode cX11_rub 41 = .ok (.iload_n 3, 1) := by decide +kernel
theorem dX11_rub_42 : decode cX11_rub 42 = .ok (.ifCond .eq 7, 3) := by decide +kernel
theorem dX11_rub_45 : decode cX11_rub 45 = .ok (.iconst 1, 1) := by decide +kernel
theorem dX11_rub_46 : decode cX11_rub 46 = .ok (.goto 4, 3) := by decide +kernel
theorem dX11_rub_49 : decode cX11_rub 49 = .ok (.iconst 0, 1) := by decide +kernel
theorem dX11_rub_50 : decode cX11_rub 50 = .ok (.ireturn, 1) := by decide +kernel
theorem dX11_draw_0 : decode cX11_draw 0 = .ok (.iload_n 1, 1) := by decide +kernel
theorem dX11_draw_1 : decode cX11_draw 1 = .ok (.invokestatic 213, 3) := by decide +kernel
theorem dX11_draw_4 : decode cX11_draw 4 = .ok (.ifCond .ne 6, 3) := by decide +kernel
theorem dX11_draw_7 : decode cX11_draw 7 = .ok (.ldc 98, 2) := by decide +kernel
theorem dX11_draw_9 : decode cX11_draw 9 = .ok (.ireturn, 1) := by decide +kernel
theorem dX11_draw_10 : decode cX11_draw 10 = .ok (.aload_n 0, 1) := by decide +kernel
theorem dX11_draw_11 : decode cX11_draw 11 = .ok (.getfield 41, 3) := by decide +kernel
theorem dX11_draw_14 : decode cX11_draw 14 = .ok (.iload_n 1, 1) := by decide +kernel
theorem dX11_draw_15 : decode cX11_draw 15 = .ok (.aaload, 1) := by decide +kernel
theorem dX11_draw_16 : decode cX11_draw 16 = .ok (.astore_n 2, 1) := by decide +kernel
theorem dX11_draw_17 : decode cX11_draw 17 = .ok (.aload_n 2, 1) := by decide +kernel
theorem dX11_draw_18 : decode cX11_draw 18 = .ok (.invokevirtual 227, 3) := by decide +kernel
theorem dX11_draw_21 : decode cX11_draw 21 = .ok (.iconst 0, 1) := by decide +kernel
theorem dX11_draw_22 : decode cX11_draw 22 = .ok (.istore_n 3, 1) := by decide +kernel
theorem dX11_draw_23 : decode cX11_draw 23 = .ok (.iload_n 3, 1) := by decide +kernel
theorem dX11_draw_24 : decode cX11_draw 24 = .ok (.aload_n 0, 1) := by decide +kernel
theorem dX11_draw_25 : decode cX11_draw 25 = .ok (.getfield 28, 3) := by decide +kernel
theorem dX11_draw_28 : decode cX11_draw 28 = .ok (.if_icmp .ge 59, 3) := by decide +kernel
theorem dX11_draw_31 : decode cX11_draw 31 = .ok (.aload_n 0, 1) := by decide +kernel
theorem dX11_draw_32 : decode cX11_draw 32 = .ok (.getfield 35, 3) := by decide +kernel
theorem dX11_draw_35 : decode cX11_draw 35 = .ok (.aload_n 0, 1) := by decide +kernel
theorem dX11_draw_36 : decode cX11_draw 36 = .ok (.getfield 18, 3) := by decide +kernel
theorem dX11_draw_39 : decode cX11_draw 39 = .ok (.aload_n 0, 1) := by decide +kernel
theorem dX11_draw_40 : decode cX11_draw 40 = .ok (.getfield 24, 3) := by decide +kernel
theorem dX11_draw_43 : decode cX11_draw 43 = .ok (.iload_n 3, 1) := by decide +kernel
theorem dX11_draw_44 : decode cX11_draw 44 = .ok (.aaload, 1) := by decide +kernel
theorem dX11_draw_45 : decode cX11_draw 45 = .ok (.invokevirtual 162, 3) := by decide +kernel
theorem dX11_draw_48 : decode cX11_draw 48 = .ok (.aload_n 0, 1) := by decide +kernel
theorem dX11_draw_49 : decode cX11_draw 49 = .ok (.getfield 18, 3) := by decide +kernel
theorem dX11_draw_52 : decode cX11_draw 52 = .ok (.aload_n 0, 1) := by decide +kernel
theorem dX11_draw_53 : decode cX11_draw 53 = .ok (.getfield 35, 3) := by decide +kernel
theorem dX11_draw_56 : decode cX11_draw 56 = .ok (.invokevirtual 230, 3) := by decide +kernel
theorem dX11_draw_59 : decode cX11_draw 59 = .ok (.ifCond .eq 22, 3) := by decide +kernel
theorem dX11_draw_62 : decode cX11_draw 62 = .ok (.aload_n 2, 1) := by decide +kernel
theorem dX11_draw_63 : decode cX11_draw 63 = .ok (.iload_n 3, 1) := by decide +kernel
theorem dX11_draw_64 : decode cX11_draw 64 = .ok (.aload_n 0, 1) := by decide +kernel
theorem dX11_draw_65 : decode cX11_draw 65 = .ok (.getfield 35, 3) := by decide +kernel
theorem dX11_draw_68 : decode cX11_draw 68 = .ok (.getfield 184, 3) := by decide +kernel
theorem dX11_draw_71 : decode cX11_draw 71 = .ok (.aload_n 0, 1) := by decide +kernel
theorem dX11_draw_72 : decode cX11_draw 72 = .ok (.getfield 35, 3) := by decide +kernel
theorem dX11_draw_75 : decode cX11_draw 75 = .ok (.getfield 185, 3) := by decide +kernel
theorem dX11_draw_78 : decode cX11_draw 78 = .ok (.invokevirtual 226, 3) := by decide +kernel
theorem dX11_draw_81 : decode cX11_draw 81 = .ok (.iinc 3 1, 3) := by decide +kernel
theorem dX11_draw_84 : decode cX11_draw 84 = .ok (.goto (-61), 3) := by decide +kernel
theorem dX11_draw_87 : decode cX11_draw 87 = .ok (.aload_n 2, 1) := by decide +kernel
theorem dX11_draw_88 : decode cX11_draw 88 = .ok (.invokevirtual 234, 3) := by decide +kernel
theorem dX11_draw_91 : decode cX11_draw 91 = .ok (.ireturn, 1) := by decide +kernel
theorem dX11_marked_0 : decode cX11_marked 0 = .ok (.iload_n 1, 1) := by decide +kernel
theorem dX11_marked_1 : decode cX11_marked 1 = .ok (.invokestatic 213, 3) := by decide +kernel
theorem dX11_marked_4 : decode cX11_marked 4 = .ok (.ifCond .eq 19, 3) := by decide +kernel
theorem dX11_marked_7 : decode cX11_marked 7 = .ok (.iload_n 2, 1) := by decide +kernel
theorem dX11_marked_8 : decode cX11_marked 8 = .ok (.invokestatic 216, 3) := by decide +kernel
theorem dX11_marked_11 : decode cX11_marked 11 = .ok (.ifCond .eq 12, 3) := by decide +kernel
theorem dX11_marked_14 : decode cX11_marked 14 = .ok (.iload_n 3, 1) := by decide +kernel
theorem dX11_marked_15 : decode cX11_marked 15 = .ok (.iconst 0, 1) := by decide +kernel
theorem dX11_marked_16 : decode cX11_marked 16 = .ok (.iconst 1, 1) := by decide +kernel
theorem dX11_marked_17 : decode cX11_marked 17 = .ok (.invokestatic 94, 3) := by decide +kernel
theorem dX11_marked_20 : decode cX11_marked 20 = .ok (.ifCond .ne 6, 3) := by decide +kernel
theorem dX11_marked_23 : decode cX11_marked 23 = .ok (.ldc 98, 2) := by decide +kernel
theorem dX11_marked_25 : decode cX11_marked 25 = .ok (.ireturn, 1) := by decide +kernel
theorem dX11_marked_26 : decode cX11_marked 26 = .ok (.aload_n 0, 1) := by decide +kernel
theorem dX11_marked_27 : decode cX11_marked 27 = .ok (.getfield 41, 3) := by decide +kernel
theorem dX11_marked_30 : decode cX11_marked 30 = .ok (.iload_n 1, 1) := by decide +kernel
theorem dX11_marked_31 : decode cX11_marked 31 = .ok (.aaload, 1) := by decide +kernel
theorem dX11_marked_32 : decode cX11_marked 32 = .ok (.astore 4, 2) := by decide +kernel
theorem dX11_marked_34 : decode cX11_marked 34 = .ok (.aload 4, 2) := by decide +kernel
theorem dX11_marked_36 : decode cX11_marked 36 = .ok (.getfield 222, 3) := by decide +kernel
theorem dX11_marked_39 : decode cX11_marked 39 = .ok (.iload_n 2, 1) := by decide +kernel
theorem dX11_marked_40 : decode cX11_marked 40 = .ok (.baload, 1) := by decide +kernel
theorem dX11_marked_41 : decode cX11_marked 41 = .ok (.ifCond .ne 6, 3) := by decide +kernel
theorem dX11_marked_44 : decode cX11_marked 44 = .ok (.ldc 237, 2) := by decide +kernel
theorem dX11_marked_46 : decode cX11_marked 46 = .ok (.ireturn, 1) := by decide +kernel
theorem dX11_marked_47 : decode cX11_marked 47 = .ok (.iload_n 3, 1) := by decide +kernel
theorem dX11_marked_48 : decode cX11_marked 48 = .ok (.ifCond .ne 13, 3) := by decide +kernel
theorem dX11_marked_51 : decode cX11_marked 51 = .ok (.aload 4, 2) := by decide +kernel
theorem dX11_marked_53 : decode cX11_marked 53 = .ok (.getfield 238, 3) := by decide +kernel
theorem dX11_marked_56 : decode cX11_marked 56 = .ok (.iload_n 2, 1) := by decide +kernel
theorem dX11_marked_57 : decode cX11_marked 57 = .ok (.iaload, 1) := by decide +kernel
theorem dX11_marked_58 : decode cX11_marked 58 = .ok (.goto 10, 3) := by decide +kernel
theorem dX11_marked_61 : decode cX11_marked 61 = .ok (.aload 4, 2) := by decide +kernel
theorem dX11_marked_63 : decode cX11_marked 63 = .ok (.getfield 240, 3) := by decide +kernel
theorem dX11_marked_66 : decode cX11_marked 66 = .ok (.iload_n 2, 1) := by decide +kernel
theorem dX11_marked_67 : decode cX11_marked 67 = .ok (.iaload, 1) := by decide +kernel
theorem dX11_marked_68 : decode cX11_marked 68 = .ok (.ireturn, 1) := by decide +kernel
theorem dX11_joined_0 : decode cX11_joined 0 = .ok (.iload_n 1, 1) := by decide +kernel
theorem dX11_joined_1 : decode cX11_joined 1 = .ok (.invokestatic 213, 3) := by decide +kernel
theorem dX11_joined_4 : decode cX11_joined 4 = .ok (.ifCond .eq 19, 3) := by decide +kernel
theorem dX11_joined_7 : decode cX11_joined 7 = .ok (.iload_n 2, 1) := by decide +kernel
theorem dX11_joined_8 : decode cX11_joined 8 = .ok (.invokestatic 213, 3) := by decide +kernel
theorem dX11_joined_11 : decode cX11_joined 11 = .ok (.ifCond .eq 12, 3) := by decide +kernel
end
section
theorem dX11_joined_14 : decode cX11_joined 14 = .ok (.iload_n 3, 1) := by decide +kernel
theorem dX11_joined_15 : decode cX11_joined 15 = .ok (.iconst 0, 1) := by decide +kernel
theorem dX11_joined_16 : decode cX11_joined 16 = .ok (.iconst 3, 1) := by decide +kernel
theorem dX11_joined_17 : decode cX11_joined 17 = .ok (.invokestatic 94, 3) := by decide +kernel
theorem dX11_joined_20 : decode cX11_joined 20 = .ok (.ifCond .ne 6, 3) := by decide +kernel
theorem dX11_joined_23 : decode cX11_joined 23 = .ok (.ldc 98, 2) := by decide +kernel
theorem dX11_joined_25 : decode cX11_joined 25 = .ok (.ireturn, 1) := by decide +kernel
theorem dX11_joined_26 : decode cX11_joined 26 = .ok (.aload_n 0, 1) := by decide +kernel
theorem dX11_joined_27 : decode cX11_joined 27 = .ok (.getfield 48, 3) := by decide +kernel
theorem dX11_joined_30 : decode cX11_joined 30 = .ok (.aload_n 0, 1) := by decide +kernel
theorem dX11_joined_31 : decode cX11_joined 31 = .ok (.getfield 41, 3) := by decide +kernel
theorem dX11_joined_34 : decode cX11_joined 34 = .ok (.iload_n 1, 1) := by decide +kernel
theorem dX11_joined_35 : decode cX11_joined 35 = .ok (.aaload, 1) := by decide +kernel
theorem dX11_joined_36 : decode cX11_joined 36 = .ok (.aload_n 0, 1) := by decide +kernel
theorem dX11_joined_37 : decode cX11_joined 37 = .ok (.getfield 41, 3) := by decide +kernel
theorem dX11_joined_40 : decode cX11_joined 40 = .ok (.iload_n 2, 1) := by decide +kernel
theorem dX11_joined_41 : decode cX11_joined 41 = .ok (.aaload, 1) := by decide +kernel
theorem dX11_joined_42 : decode cX11_joined 42 = .ok (.invokevirtual 242, 3) := by decide +kernel
theorem dX11_joined_45 : decode cX11_joined 45 = .ok (.iload_n 3, 1) := by decide +kernel
theorem dX11_joined_46 : decode cX11_joined 46 = .ok (.ifCond .ne 11, 3) := by decide +kernel
theorem dX11_joined_49 : decode cX11_joined 49 = .ok (.aload_n 0, 1) := by decide +kernel
theorem dX11_joined_50 : decode cX11_joined 50 = .ok (.getfield 48, 3) := by decide +kernel
theorem dX11_joined_53 : decode cX11_joined 53 = .ok (.invokevirtual 245, 3) := by decide +kernel
theorem dX11_joined_56 : decode cX11_joined 56 = .ok (.ireturn, 1) := by decide +kernel
theorem dX11_joined_57 : decode cX11_joined 57 = .ok (.aload_n 0, 1) := by decide +kernel
theorem dX11_joined_58 : decode cX11_joined 58 = .ok (.getfield 48, 3) := by decide +kernel
theorem dX11_joined_61 : decode cX11_joined 61 = .ok (.invokevirtual 245, 3) := by decide +kernel
theorem dX11_joined_64 : decode cX11_joined 64 = .ok (.ifCond .ne 6, 3) := by decide +kernel
theorem dX11_joined_67 : decode cX11_joined 67 = .ok (.ldc 237, 2) := by decide +kernel
theorem dX11_joined_69 : decode cX11_joined 69 = .ok (.ireturn, 1) := by decide +kernel
theorem dX11_joined_70 : decode cX11_joined 70 = .ok (.iload_n 3, 1) := by decide +kernel
theorem dX11_joined_71 : decode cX11_joined 71 = .ok (.iconst 3, 1) := by decide +kernel
theorem dX11_joined_72 : decode cX11_joined 72 = .ok (.if_icmp .ne 11, 3) := by decide +kernel
theorem dX11_joined_75 : decode cX11_joined 75 = .ok (.aload_n 0, 1) := by decide +kernel
theorem dX11_joined_76 : decode cX11_joined 76 = .ok (.getfield 48, 3) := by decide +kernel
theorem dX11_joined_79 : decode cX11_joined 79 = .ok (.invokevirtual 248, 3) := by decide +kernel
theorem dX11_joined_82 : decode cX11_joined 82 = .ok (.ireturn, 1) := by decide +kernel
theorem dX11_joined_83 : decode cX11_joined 83 = .ok (.iload_n 3, 1) := by decide +kernel
theorem dX11_joined_84 : decode cX11_joined 84 = .ok (.iconst 1, 1) := by decide +kernel
theorem dX11_joined_85 : decode cX11_joined 85 = .ok (.if_icmp .ne 13, 3) := by decide +kernel
theorem dX11_joined_88 : decode cX11_joined 88 = .ok (.aload_n 0, 1) := by decide +kernel
theorem dX11_joined_89 : decode cX11_joined 89 = .ok (.getfield 48, 3) := by decide +kernel
theorem dX11_joined_92 : decode cX11_joined 92 = .ok (.invokevirtual 251, 3) := by decide +kernel
theorem dX11_joined_95 : decode cX11_joined 95 = .ok (.goto 10, 3) := by decide +kernel
theorem dX11_joined_98 : decode cX11_joined 98 = .ok (.aload_n 0, 1) := by decide +kernel
theorem dX11_joined_99 : decode cX11_joined 99 = .ok (.getfield 48, 3) := by decide +kernel
theorem dX11_joined_102 : decode cX11_joined 102 = .ok (.invokevirtual 254, 3) := by decide +kernel
theorem dX11_joined_105 : decode cX11_joined 105 = .ok (.ireturn, 1) := by decide +kernel
theorem dX11_round_0 : decode cX11_round 0 = .ok (.iload_n 1, 1) := by decide +kernel
theorem dX11_round_1 : decode cX11_round 1 = .ok (.iconst 2, 1) := by decide +kernel
theorem dX11_round_2 : decode cX11_round 2 = .ok (.bipush 8, 2) := by decide +kernel
theorem dX11_round_4 : decode cX11_round 4 = .ok (.invokestatic 94, 3) := by decide +kernel
theorem dX11_round_7 : decode cX11_round 7 = .ok (.ifCond .eq 12, 3) := by decide +kernel
theorem dX11_round_10 : decode cX11_round 10 = .ok (.iload_n 2, 1) := by decide +kernel
theorem dX11_round_11 : decode cX11_round 11 = .ok (.iconst 0, 1) := by decide +kernel
theorem dX11_round_12 : decode cX11_round 12 = .ok (.iconst 2, 1) := by decide +kernel
theorem dX11_round_13 : decode cX11_round 13 = .ok (.invokestatic 94, 3) := by decide +kernel
theorem dX11_round_16 : decode cX11_round 16 = .ok (.ifCond .ne 6, 3) := by decide +kernel
theorem dX11_round_19 : decode cX11_round 19 = .ok (.ldc 98, 2) := by decide +kernel
theorem dX11_round_21 : decode cX11_round 21 = .ok (.ireturn, 1) := by decide +kernel
theorem dX11_round_22 : decode cX11_round 22 = .ok (.aload_n 0, 1) := by decide +kernel
theorem dX11_round_23 : decode cX11_round 23 = .ok (.getfield 55, 3) := by decide +kernel
theorem dX11_round_26 : decode cX11_round 26 = .ok (.aload_n 0, 1) := by decide +kernel
theorem dX11_round_27 : decode cX11_round 27 = .ok (.getfield 41, 3) := by decide +kernel
theorem dX11_round_30 : decode cX11_round 30 = .ok (.iload_n 1, 1) := by decide +kernel
theorem dX11_round_31 : decode cX11_round 31 = .ok (.aload_n 0, 1) := by decide +kernel
theorem dX11_round_32 : decode cX11_round 32 = .ok (.getfield 48, 3) := by decide +kernel
theorem dX11_round_35 : decode cX11_round 35 = .ok (.invokevirtual 257, 3) := by decide +kernel
theorem dX11_round_38 : decode cX11_round 38 = .ok (.ifCond .ne 6, 3) := by decide +kernel
theorem dX11_round_41 : decode cX11_round 41 = .ok (.ldc 237, 2) := by decide +kernel
theorem dX11_round_43 : decode cX11_round 43 = .ok (.ireturn, 1) := by decide +kernel
theorem dX11_round_44 : decode cX11_round 44 = .ok (.iload_n 2, 1) := by decide +kernel
theorem dX11_round_45 : decode cX11_round 45 = .ok (.iconst 2, 1) := by decide +kernel
theorem dX11_round_46 : decode cX11_round 46 = .ok (.if_icmp .ne 11, 3) := by decide +kernel
theorem dX11_round_49 : decode cX11_round 49 = .ok (.aload_n 0, 1) := by decide +kernel
theorem dX11_round_50 : decode cX11_round 50 = .ok (.getfield 55, 3) := by decide +kernel
theorem dX11_round_53 : decode cX11_round 53 = .ok (.getfield 260, 3) := by decide +kernel
theorem dX11_round_56 : decode cX11_round 56 = .ok (.ireturn, 1) := by decide +kernel
theorem dX11_round_57 : decode cX11_round 57 = .ok (.iload_n 2, 1) := by decide +kernel
theorem dX11_round_58 : decode cX11_round 58 = .ok (.ifCond .ne 15, 3) := by decide +kernel
theorem dX11_round_61 : decode cX11_round 61 = .ok (.aload_n 0, 1) := by decide +kernel
theorem dX11_round_62 : decode cX11_round 62 = .ok (.getfield 55, 3) := by decide +kernel
theorem dX11_round_65 : decode cX11_round 65 = .ok (.getfield 262, 3) := by decide +kernel
theorem dX11_round_68 : decode cX11_round 68 = .ok (.iload_n 1, 1) := by decide +kernel
theorem dX11_round_69 : decode cX11_round 69 = .ok (.iaload, 1) := by decide +kernel
theorem dX11_round_70 : decode cX11_round 70 = .ok (.goto 12, 3) := by decide +kernel
theorem dX11_round_73 : decode cX11_round 73 = .ok (.aload_n 0, 1) := by decide +kernel
theorem dX11_round_74 : decode cX11_round 74 = .ok (.getfield 55, 3) := by decide +kernel
theorem dX11_round_77 : decode cX11_round 77 = .ok (.getfield 265, 3) := by decide +kernel
theorem dX11_round_80 : decode cX11_round 80 = .ok (.iload_n 1, 1) := by decide +kernel
theorem dX11_round_81 : decode cX11_round 81 = .ok (.iaload, 1) := by decide +kernel
theorem dX11_round_82 : decode cX11_round 82 = .ok (.ireturn, 1) := by decide +kernel
theorem dX11_around_0 : decode cX11_around 0 = .ok (.iload_n 1, 1) := by decide +kernel
theorem dX11_around_1 : decode cX11_around 1 = .ok (.iconst 2, 1) := by decide +kernel
theorem dX11_around_2 : decode cX11_around 2 = .ok (.bipush 8, 2) := by decide +kernel
theorem dX11_around_4 : decode cX11_around 4 = .ok (.invokestatic 94, 3) := by decide +kernel
theorem dX11_around_7 : decode cX11_around 7 = .ok (.ifCond .eq 19, 3) := by decide +kernel
theorem dX11_around_10 : decode cX11_around 10 = .ok (.iload_n 2, 1) := by decide +kernel
theorem dX11_around_11 : decode cX11_around 11 = .ok (.invokestatic 216, 3) := by decide +kernel
theorem dX11_around_14 : decode cX11_around 14 = .ok (.ifCond .eq 12, 3) := by decide +kernel
theorem dX11_around_17 : decode cX11_around 17 = .ok (.iload_n 3, 1) := by decide +kernel
theorem dX11_around_18 : decode cX11_around 18 = .ok (.iconst 0, 1) := by decide +kernel
theorem dX11_around_19 : decode cX11_around 19 = .ok (.iconst 1, 1) := by decide +kernel
theorem dX11_around_20 : decode cX11_around 20 = .ok (.invokestatic 94, 3) := by decide +kernel
theorem dX11_around_23 : decode cX11_around 23 = .ok (.ifCond .ne 6, 3) := by decide +kernel
theorem dX11_around_26 : decode cX11_around 26 = .ok (.ldc 98, 2) := by decide +kernel
theorem dX11_around_28 : decode cX11_around 28 = .ok (.ireturn, 1) := by decide +kernel
theorem dX11_around_29 : decode cX11_around 29 = .ok (.aload_n 0, 1) := by decide +kernel
theorem dX11_around_30 : decode cX11_around 30 = .ok (.getfield 55, 3) := by decide +kernel
theorem dX11_around_33 : decode cX11_around 33 = .ok (.aload_n 0, 1) := by decide +kernel
theorem dX11_around_34 : decode cX11_around 34 = .ok (.getfield 41, 3) := by decide +kernel
theorem dX11_around_37 : decode cX11_around 37 = .ok (.iload_n 1, 1) := by decide +kernel
theorem dX11_around_38 : decode cX11_around 38 = .ok (.aload_n 0, 1) := by decide +kernel
theorem dX11_around_39 : decode cX11_around 39 = .ok (.getfield 48, 3) := by decide +kernel
theorem dX11_around_42 : decode cX11_around 42 = .ok (.invokevirtual 257, 3) := by decide +kernel
theorem dX11_around_45 : decode cX11_around 45 = .ok (.ifCond .ne 6, 3) := by decide +kernel
theorem dX11_around_48 : decode cX11_around 48 = .ok (.ldc 237, 2) := by decide +kernel
theorem dX11_around_50 : decode cX11_around 50 = .ok (.ireturn, 1) := by decide +kernel
theorem dX11_around_51 : decode cX11_around 51 = .ok (.iconst 0, 1) := by decide +kernel
theorem dX11_around_52 : decode cX11_around 52 = .ok (.istore 4, 2) := by decide +kernel
theorem dX11_around_54 : decode cX11_around 54 = .ok (.iconst 0, 1) := by decide +kernel
theorem dX11_around_55 : decode cX11_around 55 = .ok (.istore 5, 2) := by decide +kernel
theorem dX11_around_57 : decode cX11_around 57 = .ok (.iconst 0, 1) := by decide +kernel
theorem dX11_around_58 : decode cX11_around 58 = .ok (.istore 6, 2) := by decide +kernel
theorem dX11_around_60 : decode cX11_around 60 = .ok (.iload 6, 2) := by decide +kernel
theorem dX11_around_62 : decode cX11_around 62 = .ok (.iload_n 1, 1) := by decide +kernel
theorem dX11_around_63 : decode cX11_around 63 = .ok (.if_icmp .ge 85, 3) := by decide +kernel
theorem dX11_around_66 : decode cX11_around 66 = .ok (.aload_n 0, 1) := by decide +kernel
theorem dX11_around_67 : decode cX11_around 67 = .ok (.getfield 41, 3) := by decide +kernel
theorem dX11_around_70 : decode cX11_around 70 = .ok (.iload 6, 2) := by decide +kernel
theorem dX11_around_72 : decode cX11_around 72 = .ok (.aaload, 1) := by decide +kernel
theorem dX11_around_73 : decode cX11_around 73 = .ok (.astore 7, 2) := by decide +kernel
theorem dX11_around_75 : decode cX11_around 75 = .ok (.aload 7, 2) := by decide +kernel
theorem dX11_around_77 : decode cX11_around 77 = .ok (.getfield 222, 3) := by decide +kernel
theorem dX11_around_80 : decode cX11_around 80 = .ok (.iload_n 2, 1) := by decide +kernel
theorem dX11_around_81 : decode cX11_around 81 = .ok (.baload, 1) := by decide +kernel
theorem dX11_around_82 : decode cX11_around 82 = .ok (.ifCond .eq 60, 3) := by decide +kernel
theorem dX11_around_85 : decode cX11_around 85 = .ok (.iinc 4 1, 3) := by decide +kernel
theorem dX11_around_88 : decode cX11_around 88 = .ok (.iload 5, 2) := by decide +kernel
theorem dX11_around_90 : decode cX11_around 90 = .ok (.iload_n 3, 1) := by decide +kernel
theorem dX11_around_91 : decode cX11_around 91 = .ok (.ifCond .ne 27, 3) := by decide +kernel
theorem dX11_around_94 : decode cX11_around 94 = .ok (.aload 7, 2) := by decide +kernel
theorem dX11_around_96 : decode cX11_around 96 = .ok (.getfield 238, 3) := by decide +kernel
theorem dX11_around_99 : decode cX11_around 99 = .ok (.iload_n 2, 1) := by decide +kernel
theorem dX11_around_100 : decode cX11_around 100 = .ok (.iaload, 1) := by decide +kernel
theorem dX11_around_101 : decode cX11_around 101 = .ok (.aload_n 0, 1) := by decide +kernel
theorem dX11_around_102 : decode cX11_around 102 = .ok (.getfield 55, 3) := by decide +kernel
theorem dX11_around_105 : decode cX11_around 105 = .ok (.getfield 262, 3) := by decide +kernel
theorem dX11_around_108 : decode cX11_around 108 = .ok (.iload 6, 2) := by decide +kernel
theorem dX11_around_110 : decode cX11_around 110 = .ok (.iload_n 1, 1) := by decide +kernel
theorem dX11_around_111 : decode cX11_around 111 = .ok (.invokestatic 268, 3) := by decide +kernel
theorem dX11_around_114 : decode cX11_around 114 = .ok (.iadd, 1) := by decide +kernel
theorem dX11_around_115 : decode cX11_around 115 = .ok (.goto 24, 3) := by decide +kernel
theorem dX11_around_118 : decode cX11_around 118 = .ok (.aload 7, 2) := by decide +kernel
theorem dX11_around_120 : decode cX11_around 120 = .ok (.getfield 240, 3) := by decide +kernel
theorem dX11_around_123 : decode cX11_around 123 = .ok (.iload_n 2, 1) := by decide +kernel
theorem dX11_around_124 : decode cX11_around 124 = .ok (.iaload, 1) := by decide +kernel
theorem dX11_around_125 : decode cX11_around 125 = .ok (.aload_n 0, 1) := by decide +kernel
theorem dX11_around_126 : decode cX11_around 126 = .ok (.getfield 55, 3) := by decide +kernel
theorem dX11_around_129 : decode cX11_around 129 = .ok (.getfield 265, 3) := by decide +kernel
theorem dX11_around_132 : decode cX11_around 132 = .ok (.iload 6, 2) := by decide +kernel
theorem dX11_around_134 : decode cX11_around 134 = .ok (.iload_n 1, 1) := by decide +kernel
theorem dX11_around_135 : decode cX11_around 135 = .ok (.invokestatic 268, 3) := by decide +kernel
theorem dX11_around_138 : decode cX11_around 138 = .ok (.iadd, 1) := by decide +kernel
theorem dX11_around_139 : decode cX11_around 139 = .ok (.iadd, 1) := by decide +kernel
theorem dX11_around_140 : decode cX11_around 140 = .ok (.istore 5, 2) := by decide +kernel
theorem dX11_around_142 : decode cX11_around 142 = .ok (.iinc 6 1, 3) := by decide +kernel
theorem dX11_around_145 : decode cX11_around 145 = .ok (.goto (-85), 3) := by decide +kernel
theorem dX11_around_148 : decode cX11_around 148 = .ok (.iload 4, 2) := by decide +kernel
theorem dX11_around_150 : decode cX11_around 150 = .ok (.ifCond .ne 8, 3) := by decide +kernel
theorem dX11_around_153 : decode cX11_around 153 = .ok (.ldc 237, 2) := by decide +kernel
theorem dX11_around_155 : decode cX11_around 155 = .ok (.goto 10, 3) := by decide +kernel
theorem dX11_around_158 : decode cX11_around 158 = .ok (.iload 5, 2) := by decide +kernel
theorem dX11_around_160 : decode cX11_around 160 = .ok (.iload 4, 2) := by decide +kernel
theorem dX11_around_162 : decode cX11_around 162 = .ok (.invokestatic 272, 3) := by decide +kernel
theorem dX11_around_165 : decode cX11_around 165 = .ok (.ireturn, 1) := by decide +kernel
theorem dX11_stand_0 : decode cX11_stand 0 = .ok (.iload_n 1, 1) := by decide +kernel
theorem dX11_stand_1 : decode cX11_stand 1 = .ok (.iconst 0, 1) := by decide +kernel
theorem dX11_stand_2 : decode cX11_stand 2 = .ok (.iconst 1, 1) := by decide +kernel
theorem dX11_stand_3 : decode cX11_stand 3 = .ok (.invokestatic 94, 3) := by decide +kernel
theorem dX11_stand_6 : decode cX11_stand 6 = .ok (.ifCond .eq 20, 3) := by decide +kernel
theorem dX11_stand_9 : decode cX11_stand 9 = .ok (.iload 4, 2) := by decide +kernel
theorem dX11_stand_11 : decode cX11_stand 11 = .ok (.ifCond .lt 15, 3) := by decide +kernel
theorem dX11_stand_14 : decode cX11_stand 14 = .ok (.iload_n 2, 1) := by decide +kernel
theorem dX11_stand_15 : decode cX11_stand 15 = .ok (.iload_n 3, 1) := by decide +kernel
theorem dX11_stand_16 : decode cX11_stand 16 = .ok (.iload 4, 2) := by decide +kernel
theorem dX11_stand_18 : decode cX11_stand 18 = .ok (.iload 5, 2) := by decide +kernel
theorem dX11_stand_20 : decode cX11_stand 20 = .ok (.invokestatic 275, 3) := by decide +kernel
theorem dX11_stand_23 : decode cX11_stand 23 = .ok (.ifCond .ne 6, 3) := by decide +kernel
theorem dX11_stand_26 : decode cX11_stand 26 = .ok (.ldc 98, 2) := by decide +kernel
theorem dX11_stand_28 : decode cX11_stand 28 = .ok (.ireturn, 1) := by decide +kernel
theorem dX11_stand_29 : decode cX11_stand 29 = .ok (.aload_n 0, 1) := by decide +kernel
theorem dX11_stand_30 : decode cX11_stand 30 = .ok (.getfield 61, 3) := by decide +kernel
theorem dX11_stand_33 : decode cX11_stand 33 = .ok (.iload_n 1, 1) := by decide +kernel
theorem dX11_stand_34 : decode cX11_stand 34 = .ok (.aaload, 1) := by decide +kernel
theorem dX11_stand_35 : decode cX11_stand 35 = .ok (.iload_n 2, 1) := by decide +kernel
theorem dX11_stand_36 : decode cX11_stand 36 = .ok (.iload_n 3, 1) := by decide +kernel
theorem dX11_stand_37 : decode cX11_stand 37 = .ok (.iload 4, 2) := by decide +kernel
theorem dX11_stand_39 : decode cX11_stand 39 = .ok (.iload 5, 2) := by decide +kernel
theorem dX11_stand_41 : decode cX11_stand 41 = .ok (.invokevirtual 279, 3) := by decide +kernel
theorem dX11_stand_44 : decode cX11_stand 44 = .ok (.iconst 1, 1) := by decide +kernel
theorem dX11_stand_45 : decode cX11_stand 45 = .ok (.ireturn, 1) := by decide +kernel
theorem dX11_far_0 : decode cX11_far 0 = .ok (.iload_n 1, 1) := by decide +kernel
theorem dX11_far_1 : decode cX11_far 1 = .ok (.invokestatic 219, 3) := by decide +kernel
theorem dX11_far_4 : decode cX11_far 4 = .ok (.ifCond .eq 19, 3) := by decide +kernel
theorem dX11_far_7 : decode cX11_far 7 = .ok (.iload_n 2, 1) := by decide +kernel
theorem dX11_far_8 : decode cX11_far 8 = .ok (.invokestatic 219, 3) := by decide +kernel
theorem dX11_far_11 : decode cX11_far 11 = .ok (.ifCond .eq 12, 3) := by decide +kernel
theorem dX11_far_14 : decode cX11_far 14 = .ok (.iload_n 3, 1) := by decide +kernel
theorem dX11_far_15 : decode cX11_far 15 = .ok (.iconst 0, 1) := by decide +kernel
theorem dX11_far_16 : decode cX11_far 16 = .ok (.iconst 1, 1) := by decide +kernel
theorem dX11_far_17 : decode cX11_far 17 = .ok (.invokestatic 94, 3) := by decide +kernel
theorem dX11_far_20 : decode cX11_far 20 = .ok (.ifCond .ne 7, 3) := by decide +kernel
theorem dX11_far_23 : decode cX11_far 23 = .ok (.ldc2_w 282, 3) := by decide +kernel
theorem dX11_far_26 : decode cX11_far 26 = .ok (.lreturn, 1) := by decide +kernel
theorem dX11_far_27 : decode cX11_far 27 = .ok (.aload_n 0, 1) := by decide +kernel
theorem dX11_far_28 : decode cX11_far 28 = .ok (.getfield 68, 3) := by decide +kernel
theorem dX11_far_31 : decode cX11_far 31 = .ok (.aload_n 0, 1) := by decide +kernel
theorem dX11_far_32 : decode cX11_far 32 = .ok (.getfield 61, 3) := by decide +kernel
theorem dX11_far_35 : decode cX11_far 35 = .ok (.iconst 0, 1) := by decide +kernel
theorem dX11_far_36 : decode cX11_far 36 = .ok (.aaload, 1) := by decide +kernel
theorem dX11_far_37 : decode cX11_far 37 = .ok (.aload_n 0, 1) := by decide +kernel
theorem dX11_far_38 : decode cX11_far 38 = .ok (.getfield 61, 3) := by decide +kernel
theorem dX11_far_41 : decode cX11_far 41 = .ok (.iconst 1, 1) := by decide +kernel
theorem dX11_far_42 : decode cX11_far 42 = .ok (.aaload, 1) := by decide +kernel
theorem dX11_far_43 : decode cX11_far 43 = .ok (.iload_n 1, 1) := by decide +kernel
theorem dX11_far_44 : decode cX11_far 44 = .ok (.i2l, 1) := by decide +kernel
theorem dX11_far_45 : decode cX11_far 45 = .ok (.iload_n 2, 1) := by decide +kernel
theorem dX11_far_46 : decode cX11_far 46 = .ok (.i2l, 1) := by decide +kernel
theorem dX11_far_47 : decode cX11_far 47 = .ok (.invokevirtual 284, 3) := by decide +kernel
theorem dX11_far_50 : decode cX11_far 50 = .ok (.ifCond .ne 7, 3) := by decide +kernel
theorem dX11_far_53 : decode cX11_far 53 = .ok (.ldc2_w 287, 3) := by decide +kernel
theorem dX11_far_56 : decode cX11_far 56 = .ok (.lreturn, 1) := by decide +kernel
theorem dX11_far_57 : decode cX11_far 57 = .ok (.iload_n 3, 1) := by decide +kernel
theorem dX11_far_58 : decode cX11_far 58 = .ok (.ifCond .ne 13, 3) := by decide +kernel
theorem dX11_far_61 : decode cX11_far 61 = .ok (.aload_n 0, 1) := by decide +kernel
theorem dX11_far_62 : decode cX11_far 62 = .ok (.getfield 68, 3) := by decide +kernel
theorem dX11_far_65 : decode cX11_far 65 = .ok (.getfield 289, 3) := by decide +kernel
theorem dX11_far_68 : decode cX11_far 68 = .ok (.goto 10, 3) := by decide +kernel
theorem dX11_far_71 : decode cX11_far 71 = .ok (.aload_n 0, 1) := by decide +kernel
theorem dX11_far_72 : decode cX11_far 72 = .ok (.getfield 68, 3) := by decide +kernel
theorem dX11_far_75 : decode cX11_far 75 = .ok (.getfield 293, 3) := by decide +kernel
theorem dX11_far_78 : decode cX11_far 78 = .ok (.lreturn, 1) := by decide +kernel
theorem dX11_high_0 : decode cX11_high 0 = .ok (.iload_n 1, 1) := by decide +kernel
theorem dX11_high_1 : decode cX11_high 1 = .ok (.invokestatic 219, 3) := by decide +kernel
theorem dX11_high_4 : decode cX11_high 4 = .ok (.ifCond .eq 17, 3) := by decide +kernel
theorem dX11_high_7 : decode cX11_high 7 = .ok (.iload_n 2, 1) := by decide +kernel
theorem dX11_high_8 : decode cX11_high 8 = .ok (.invokestatic 219, 3) := by decide +kernel
theorem dX11_high_11 : decode cX11_high 11 = .ok (.ifCond .eq 10, 3) := by decide +kernel
theorem dX11_high_14 : decode cX11_high 14 = .ok (.iload_n 3, 1) := by decide +kernel
theorem dX11_high_15 : decode cX11_high 15 = .ok (.invokestatic 219, 3) := by decide +kernel
theorem dX11_high_18 : decode cX11_high 18 = .ok (.ifCond .ne 7, 3) := by decide +kernel
theorem dX11_high_21 : decode cX11_high 21 = .ok (.ldc2_w 282, 3) := by decide +kernel
theorem dX11_high_24 : decode cX11_high 24 = .ok (.lreturn, 1) := by decide +kernel
theorem dX11_high_25 : decode cX11_high 25 = .ok (.aload_n 0, 1) := by decide +kernel
theorem dX11_high_26 : decode cX11_high 26 = .ok (.getfield 68, 3) := by decide +kernel
theorem dX11_high_29 : decode cX11_high 29 = .ok (.aload_n 0, 1) := by decide +kernel
theorem dX11_high_30 : decode cX11_high 30 = .ok (.getfield 61, 3) := by decide +kernel
theorem dX11_high_33 : decode cX11_high 33 = .ok (.iconst 0, 1) := by decide +kernel
theorem dX11_high_34 : decode cX11_high 34 = .ok (.aaload, 1) := by decide +kernel
theorem dX11_high_35 : decode cX11_high 35 = .ok (.aload_n 0, 1) := by decide +kernel
theorem dX11_high_36 : decode cX11_high 36 = .ok (.getfield 61, 3) := by decide +kernel
theorem dX11_high_39 : decode cX11_high 39 = .ok (.iconst 1, 1) := by decide +kernel
theorem dX11_high_40 : decode cX11_high 40 = .ok (.aaload, 1) := by decide +kernel
theorem dX11_high_41 : decode cX11_high 41 = .ok (.iload_n 1, 1) := by decide +kernel
theorem dX11_high_42 : decode cX11_high 42 = .ok (.i2l, 1) := by decide +kernel
theorem dX11_high_43 : decode cX11_high 43 = .ok (.iload_n 2, 1) := by decide +kernel
theorem dX11_high_44 : decode cX11_high 44 = .ok (.i2l, 1) := by decide +kernel
theorem dX11_high_45 : decode cX11_high 45 = .ok (.invokevirtual 284, 3) := by decide +kernel
theorem dX11_high_48 : decode cX11_high 48 = .ok (.ifCond .ne 7, 3) := by decide +kernel
theorem dX11_high_51 : decode cX11_high 51 = .ok (.ldc2_w 287, 3) := by decide +kernel
theorem dX11_high_54 : decode cX11_high 54 = .ok (.lreturn, 1) := by decide +kernel
theorem dX11_high_55 : decode cX11_high 55 = .ok (.aload_n 0, 1) := by decide +kernel
theorem dX11_high_56 : decode cX11_high 56 = .ok (.getfield 68, 3) := by decide +kernel
theorem dX11_high_59 : decode cX11_high 59 = .ok (.aload_n 0, 1) := by decide +kernel
theorem dX11_high_60 : decode cX11_high 60 = .ok (.getfield 61, 3) := by decide +kernel
theorem dX11_high_63 : decode cX11_high 63 = .ok (.iconst 0, 1) := by decide +kernel
theorem dX11_high_64 : decode cX11_high 64 = .ok (.aaload, 1) := by decide +kernel
theorem dX11_high_65 : decode cX11_high 65 = .ok (.iload_n 3, 1) := by decide +kernel
theorem dX11_high_66 : decode cX11_high 66 = .ok (.i2l, 1) := by decide +kernel
theorem dX11_high_67 : decode cX11_high 67 = .ok (.invokevirtual 296, 3) := by decide +kernel
theorem dX11_high_70 : decode cX11_high 70 = .ok (.lreturn, 1) := by decide +kernel
theorem dX11_span_0 : decode cX11_span 0 = .ok (.iload_n 1, 1) := by decide +kernel
theorem dX11_span_1 : decode cX11_span 1 = .ok (.invokestatic 219, 3) := by decide +kernel
theorem dX11_span_4 : decode cX11_span 4 = .ok (.ifCond .eq 30, 3) := by decide +kernel
theorem dX11_span_7 : decode cX11_span 7 = .ok (.iload_n 2, 1) := by decide +kernel
theorem dX11_span_8 : decode cX11_span 8 = .ok (.invokestatic 219, 3) := by decide +kernel
theorem dX11_span_11 : decode cX11_span 11 = .ok (.ifCond .eq 23, 3) := by decide +kernel
theorem dX11_span_14 : decode cX11_span 14 = .ok (.iload_n 3, 1) := by decide +kernel
theorem dX11_span_15 : decode cX11_span 15 = .ok (.iconst 0, 1) := by decide +kernel
theorem dX11_span_16 : decode cX11_span 16 = .ok (.bipush 20, 2) := by decide +kernel
theorem dX11_span_18 : decode cX11_span 18 = .ok (.invokestatic 94, 3) := by decide +kernel
theorem dX11_span_21 : decode cX11_span 21 = .ok (.ifCond .eq 13, 3) := by decide +kernel
theorem dX11_span_24 : decode cX11_span 24 = .ok (.iload 4, 2) := by decide +kernel
theorem dX11_span_26 : decode cX11_span 26 = .ok (.iconst 0, 1) := by decide +kernel
theorem dX11_span_27 : decode cX11_span 27 = .ok (.iconst 1, 1) := by decide +kernel
theorem dX11_span_28 : decode cX11_span 28 = .ok (.invokestatic 94, 3) := by decide +kernel
theorem dX11_span_31 : decode cX11_span 31 = .ok (.ifCond .ne 7, 3) := by decide +kernel
theorem dX11_span_34 : decode cX11_span 34 = .ok (.ldc2_w 282, 3) := by decide +kernel
theorem dX11_span_37 : decode cX11_span 37 = .ok (.lreturn, 1) := by decide +kernel
theorem dX11_span_38 : decode cX11_span 38 = .ok (.aload_n 0, 1) := by decide +kernel
theorem dX11_span_39 : decode cX11_span 39 = .ok (.getfield 68, 3) := by decide +kernel
theorem dX11_span_42 : decode cX11_span 42 = .ok (.aload_n 0, 1) := by decide +kernel
theorem dX11_span_43 : decode cX11_span 43 = .ok (.getfield 61, 3) := by decide +kernel
theorem dX11_span_46 : decode cX11_span 46 = .ok (.iconst 0, 1) := by decide +kernel
theorem dX11_span_47 : decode cX11_span 47 = .ok (.aaload, 1) := by decide +kernel
theorem dX11_span_48 : decode cX11_span 48 = .ok (.aload_n 0, 1) := by decide +kernel
theorem dX11_span_49 : decode cX11_span 49 = .ok (.getfield 61, 3) := by decide +kernel
theorem dX11_span_52 : decode cX11_span 52 = .ok (.iconst 1, 1) := by decide +kernel
theorem dX11_span_53 : decode cX11_span 53 = .ok (.aaload, 1) := by decide +kernel
theorem dX11_span_54 : decode cX11_span 54 = .ok (.iload_n 1, 1) := by decide +kernel
theorem dX11_span_55 : decode cX11_span 55 = .ok (.i2l, 1) := by decide +kernel
theorem dX11_span_56 : decode cX11_span 56 = .ok (.iload_n 2, 1) := by decide +kernel
theorem dX11_span_57 : decode cX11_span 57 = .ok (.i2l, 1) := by decide +kernel
theorem dX11_span_58 : decode cX11_span 58 = .ok (.invokevirtual 284, 3) := by decide +kernel
theorem dX11_span_61 : decode cX11_span 61 = .ok (.ifCond .ne 7, 3) := by decide +kernel
theorem dX11_span_64 : decode cX11_span 64 = .ok (.ldc2_w 287, 3) := by decide +kernel
theorem dX11_span_67 : decode cX11_span 67 = .ok (.lreturn, 1) := by decide +kernel
theorem dX11_span_68 : decode cX11_span 68 = .ok (.aload_n 0, 1) := by decide +kernel
theorem dX11_span_69 : decode cX11_span 69 = .ok (.getfield 68, 3) := by decide +kernel
theorem dX11_span_72 : decode cX11_span 72 = .ok (.getfield 289, 3) := by decide +kernel
theorem dX11_span_75 : decode cX11_span 75 = .ok (.aload_n 0, 1) := by decide +kernel
theorem dX11_span_76 : decode cX11_span 76 = .ok (.getfield 68, 3) := by decide +kernel
theorem dX11_span_79 : decode cX11_span 79 = .ok (.getfield 293, 3) := by decide +kernel
theorem dX11_span_82 : decode cX11_span 82 = .ok (.invokestatic 300, 3) := by decide +kernel
theorem dX11_span_85 : decode cX11_span 85 = .ok (.lstore 5, 2) := by decide +kernel
theorem dX11_span_87 : decode cX11_span 87 = .ok (.lload 5, 2) := by decide +kernel
theorem dX11_span_89 : decode cX11_span 89 = .ok (.lstore 7, 2) := by decide +kernel
theorem dX11_span_91 : decode cX11_span 91 = .ok (.iconst (-1), 1) := by decide +kernel
theorem dX11_span_92 : decode cX11_span 92 = .ok (.istore 9, 2) := by decide +kernel
theorem dX11_span_94 : decode cX11_span 94 = .ok (.iload 9, 2) := by decide +kernel
theorem dX11_span_96 : decode cX11_span 96 = .ok (.iconst 1, 1) := by decide +kernel
theorem dX11_span_97 : decode cX11_span 97 = .ok (.if_icmp .gt 101, 3) := by decide +kernel
theorem dX11_span_100 : decode cX11_span 100 = .ok (.iconst (-1), 1) := by decide +kernel
theorem dX11_span_101 : decode cX11_span 101 = .ok (.istore 10, 2) := by decide +kernel
theorem dX11_span_103 : decode cX11_span 103 = .ok (.iload 10, 2) := by decide +kernel
theorem dX11_span_105 : decode cX11_span 105 = .ok (.iconst 1, 1) := by decide +kernel
theorem dX11_span_106 : decode cX11_span 106 = .ok (.if_icmp .gt 86, 3) := by decide +kernel
theorem dX11_span_109 : decode cX11_span 109 = .ok (.aload_n 0, 1) := by decide +kernel
theorem dX11_span_110 : decode cX11_span 110 = .ok (.getfield 68, 3) := by decide +kernel
theorem dX11_span_113 : decode cX11_span 113 = .ok (.aload_n 0, 1) := by decide +kernel
theorem dX11_span_114 : decode cX11_span 114 = .ok (.getfield 61, 3) := by decide +kernel
theorem dX11_span_117 : decode cX11_span 117 = .ok (.iconst 0, 1) := by decide +kernel
theorem dX11_span_118 : decode cX11_span 118 = .ok (.aaload, 1) := by decide +kernel
theorem dX11_span_119 : decode cX11_span 119 = .ok (.aload_n 0, 1) := by decide +kernel
theorem dX11_span_120 : decode cX11_span 120 = .ok (.getfield 61, 3) := by decide +kernel
theorem dX11_span_123 : decode cX11_span 123 = .ok (.iconst 1, 1) := by decide +kernel
theorem dX11_span_124 : decode cX11_span 124 = .ok (.aaload, 1) := by decide +kernel
theorem dX11_span_125 : decode cX11_span 125 = .ok (.iload_n 1, 1) := by decide +kernel
theorem dX11_span_126 : decode cX11_span 126 = .ok (.iload 9, 2) := by decide +kernel
theorem dX11_span_128 : decode cX11_span 128 = .ok (.iload_n 3, 1) := by decide +kernel
theorem dX11_span_129 : decode cX11_span 129 = .ok (.imul, 1) := by decide +kernel
theorem dX11_span_130 : decode cX11_span 130 = .ok (.iadd, 1) := by decide +kernel
theorem dX11_span_131 : decode cX11_span 131 = .ok (.i2l, 1) := by decide +kernel
theorem dX11_span_132 : decode cX11_span 132 = .ok (.iload_n 2, 1) := by decide +kernel
theorem dX11_span_133 : decode cX11_span 133 = .ok (.iload 10, 2) := by decide +kernel
theorem dX11_span_135 : decode cX11_span 135 = .ok (.iload_n 3, 1) := by decide +kernel
theorem dX11_span_136 : decode cX11_span 136 = .ok (.imul, 1) := by decide +kernel
theorem dX11_span_137 : decode cX11_span 137 = .ok (.iadd, 1) := by decide +kernel
theorem dX11_span_138 : decode cX11_span 138 = .ok (.i2l, 1) := by decide +kernel
theorem dX11_span_139 : decode cX11_span 139 = .ok (.invokevirtual 284, 3) := by decide +kernel
theorem dX11_span_142 : decode cX11_span 142 = .ok (.ifCond .ne 7, 3) := by decide +kernel
theorem dX11_span_145 : decode cX11_span 145 = .ok (.ldc2_w 287, 3) := by decide +kernel
theorem dX11_span_148 : decode cX11_span 148 = .ok (.lreturn, 1) := by decide +kernel
theorem dX11_span_149 : decode cX11_span 149 = .ok (.aload_n 0, 1) := by decide +kernel
theorem dX11_span_150 : decode cX11_span 150 = .ok (.getfield 68, 3) := by decide +kernel
theorem dX11_span_153 : decode cX11_span 153 = .ok (.getfield 289, 3) := by decide +kernel
theorem dX11_span_156 : decode cX11_span 156 = .ok (.aload_n 0, 1) := by decide +kernel
theorem dX11_span_157 : decode cX11_span 157 = .ok (.getfield 68, 3) := by decide +kernel
theorem dX11_span_160 : decode cX11_span 160 = .ok (.getfield 293, 3) := by decide +kernel
theorem dX11_span_163 : decode cX11_span 163 = .ok (.invokestatic 300, 3) := by decide +kernel
theorem dX11_span_166 : decode cX11_span 166 = .ok (.lstore 11, 2) := by decide +kernel
theorem dX11_span_168 : decode cX11_span 168 = .ok (.lload 5, 2) := by decide +kernel
theorem dX11_span_170 : decode cX11_span 170 = .ok (.lload 11, 2) := by decide +kernel
theorem dX11_span_172 : decode cX11_span 172 = .ok (.invokestatic 303, 3) := by decide +kernel
theorem dX11_span_175 : decode cX11_span 175 = .ok (.lstore 5, 2) := by decide +kernel
theorem dX11_span_177 : decode cX11_span 177 = .ok (.lload 7, 2) := by decide +kernel
theorem dX11_span_179 : decode cX11_span 179 = .ok (.lload 11, 2) := by decide +kernel
theorem dX11_span_181 : decode cX11_span 181 = .ok (.invokestatic 308, 3) := by decide +kernel
theorem dX11_span_184 : decode cX11_span 184 = .ok (.lstore 7, 2) := by decide +kernel
theorem dX11_span_186 : decode cX11_span 186 = .ok (.iinc 10 1, 3) := by decide +kernel
theorem dX11_span_189 : decode cX11_span 189 = .ok (.goto (-86), 3) := by decide +kernel
theorem dX11_span_192 : decode cX11_span 192 = .ok (.iinc 9 1, 3) := by decide +kernel
theorem dX11_span_195 : decode cX11_span 195 = .ok (.goto (-101), 3) := by decide +kernel
theorem dX11_span_198 : decode cX11_span 198 = .ok (.iload 4, 2) := by decide +kernel
theorem dX11_span_200 : decode cX11_span 200 = .ok (.ifCond .ne 8, 3) := by decide +kernel
theorem dX11_span_203 : decode cX11_span 203 = .ok (.lload 5, 2) := by decide +kernel
theorem dX11_span_205 : decode cX11_span 205 = .ok (.goto 5, 3) := by decide +kernel
theorem dX11_span_208 : decode cX11_span 208 = .ok (.lload 7, 2) := by decide +kernel
theorem dX11_span_210 : decode cX11_span 210 = .ok (.lreturn, 1) := by decide +kernel
theorem dX11_studio_0 : decode cX11_studio 0 = .ok (.iload_n 1, 1) := by decide +kernel
theorem dX11_studio_1 : decode cX11_studio 1 = .ok (.iload_n 2, 1) := by decide +kernel
theorem dX11_studio_2 : decode cX11_studio 2 = .ok (.iload 4, 2) := by decide +kernel
theorem dX11_studio_4 : decode cX11_studio 4 = .ok (.iload 6, 2) := by decide +kernel
theorem dX11_studio_6 : decode cX11_studio 6 = .ok (.invokestatic 311, 3) := by decide +kernel
theorem dX11_studio_9 : decode cX11_studio 9 = .ok (.ifCond .eq 26, 3) := by decide +kernel
theorem dX11_studio_12 : decode cX11_studio 12 = .ok (.iload 5, 2) := by decide +kernel
theorem dX11_studio_14 : decode cX11_studio 14 = .ok (.iconst 0, 1) := by decide +kernel
theorem dX11_studio_15 : decode cX11_studio 15 = .ok (.iload 4, 2) := by decide +kernel
theorem dX11_studio_17 : decode cX11_studio 17 = .ok (.iconst 1, 1) := by decide +kernel
theorem dX11_studio_18 : decode cX11_studio 18 = .ok (.isub, 1) := by decide +kernel
theorem dX11_studio_19 : decode cX11_studio 19 = .ok (.invokestatic 94, 3) := by decide +kernel
theorem dX11_studio_22 : decode cX11_studio 22 = .ok (.ifCond .eq 13, 3) := by decide +kernel
theorem dX11_studio_25 : decode cX11_studio 25 = .ok (.iload 7, 2) := by decide +kernel
theorem dX11_studio_27 : decode cX11_studio 27 = .ok (.iconst 0, 1) := by decide +kernel
theorem dX11_studio_28 : decode cX11_studio 28 = .ok (.iconst 1, 1) := by decide +kernel
theorem dX11_studio_29 : decode cX11_studio 29 = .ok (.invokestatic 94, 3) := by decide +kernel
theorem dX11_studio_32 : decode cX11_studio 32 = .ok (.ifCond .ne 6, 3) := by decide +kernel
theorem dX11_studio_35 : decode cX11_studio 35 = .ok (.ldc 98, 2) := by decide +kernel
theorem dX11_studio_37 : decode cX11_studio 37 = .ok (.ireturn, 1) := by decide +kernel
theorem dX11_studio_38 : decode cX11_studio 38 = .ok (.aload_n 0, 1) := by decide +kernel
theorem dX11_studio_39 : decode cX11_studio 39 = .ok (.iload_n 2, 1) := by decide +kernel
theorem dX11_studio_40 : decode cX11_studio 40 = .ok (.iload_n 3, 1) := by decide +kernel
theorem dX11_studio_41 : decode cX11_studio 41 = .ok (.iload 4, 2) := by decide +kernel
theorem dX11_studio_43 : decode cX11_studio 43 = .ok (.invokevirtual 314, 3) := by decide +kernel
theorem dX11_studio_46 : decode cX11_studio 46 = .ok (.istore 8, 2) := by decide +kernel
theorem dX11_studio_48 : decode cX11_studio 48 = .ok (.iload 8, 2) := by decide +kernel
theorem dX11_studio_50 : decode cX11_studio 50 = .ok (.ifCond .eq 6, 3) := by decide +kernel
theorem dX11_studio_53 : decode cX11_studio 53 = .ok (.iload 8, 2) := by decide +kernel
theorem dX11_studio_55 : decode cX11_studio 55 = .ok (.ireturn, 1) := by decide +kernel
theorem dX11_studio_56 : decode cX11_studio 56 = .ok (.aload_n 0, 1) := by decide +kernel
theorem dX11_studio_57 : decode cX11_studio 57 = .ok (.iload_n 2, 1) := by decide +kernel
theorem dX11_studio_58 : decode cX11_studio 58 = .ok (.iload_n 3, 1) := by decide +kernel
theorem dX11_studio_59 : decode cX11_studio 59 = .ok (.iload 5, 2) := by decide +kernel
theorem dX11_studio_61 : decode cX11_studio 61 = .ok (.invokevirtual 318, 3) := by decide +kernel
theorem dX11_studio_64 : decode cX11_studio 64 = .ok (.iload 7, 2) := by decide +kernel
theorem dX11_studio_66 : decode cX11_studio 66 = .ok (.ifCond .ne 18, 3) := by decide +kernel
theorem dX11_studio_69 : decode cX11_studio 69 = .ok (.aload_n 0, 1) := by decide +kernel
theorem dX11_studio_70 : decode cX11_studio 70 = .ok (.aload_n 0, 1) := by decide +kernel
theorem dX11_studio_71 : decode cX11_studio 71 = .ok (.aload_n 0, 1) := by decide +kernel
theorem dX11_studio_72 : decode cX11_studio 72 = .ok (.getfield 41, 3) := by decide +kernel
theorem dX11_studio_75 : decode cX11_studio 75 = .ok (.iload_n 1, 1) := by decide +kernel
theorem dX11_studio_76 : decode cX11_studio 76 = .ok (.aaload, 1) := by decide +kernel
theorem dX11_studio_77 : decode cX11_studio 77 = .ok (.invokevirtual 321, 3) := by decide +kernel
theorem dX11_studio_80 : decode cX11_studio 80 = .ok (.invokevirtual 107, 3) := by decide +kernel
theorem dX11_studio_83 : decode cX11_studio 83 = .ok (.ireturn, 1) := by decide +kernel
theorem dX11_studio_84 : decode cX11_studio 84 = .ok (.aload_n 0, 1) := by decide +kernel
theorem dX11_studio_85 : decode cX11_studio 85 = .ok (.aload_n 0, 1) := by decide +kernel
theorem dX11_studio_86 : decode cX11_studio 86 = .ok (.aload_n 0, 1) := by decide +kernel
theorem dX11_studio_87 : decode cX11_studio 87 = .ok (.getfield 41, 3) := by decide +kernel
theorem dX11_studio_90 : decode cX11_studio 90 = .ok (.iload_n 1, 1) := by decide +kernel
theorem dX11_studio_91 : decode cX11_studio 91 = .ok (.aaload, 1) := by decide +kernel
theorem dX11_studio_92 : decode cX11_studio 92 = .ok (.iload 6, 2) := by decide +kernel
theorem dX11_studio_94 : decode cX11_studio 94 = .ok (.invokevirtual 325, 3) := by decide +kernel
theorem dX11_studio_97 : decode cX11_studio 97 = .ok (.ifCond .eq 7, 3) := by decide +kernel
theorem dX11_studio_100 : decode cX11_studio 100 = .ok (.iconst 1, 1) := by decide +kernel
theorem dX11_studio_101 : decode cX11_studio 101 = .ok (.goto 4, 3) := by decide +kernel
theorem dX11_studio_104 : decode cX11_studio 104 = .ok (.iconst 0, 1) := by decide +kernel
theorem dX11_studio_105 : decode cX11_studio 105 = .ok (.invokevirtual 107, 3) := by decide +kernel
theorem dX11_studio_108 : decode cX11_studio 108 = .ok (.ireturn, 1) := by decide +kernel
theorem dX11_studios_0 : decode cX11_studios 0 = .ok (.iload_n 1, 1) := by decide +kernel
theorem dX11_studios_1 : decode cX11_studios 1 = .ok (.iload_n 2, 1) := by decide +kernel
theorem dX11_studios_2 : decode cX11_studios 2 = .ok (.iload 4, 2) := by decide +kernel
theorem dX11_studios_4 : decode cX11_studios 4 = .ok (.iload 5, 2) := by decide +kernel
theorem dX11_studios_6 : decode cX11_studios 6 = .ok (.invokestatic 311, 3) := by decide +kernel
theorem dX11_studios_9 : decode cX11_studios 9 = .ok (.ifCond .eq 13, 3) := by decide +kernel
theorem dX11_studios_12 : decode cX11_studios 12 = .ok (.iload 6, 2) := by decide +kernel
theorem dX11_studios_14 : decode cX11_studios 14 = .ok (.iconst 0, 1) := by decide +kernel
theorem dX11_studios_15 : decode cX11_studios 15 = .ok (.iconst 2, 1) := by decide +kernel
theorem dX11_studios_16 : decode cX11_studios 16 = .ok (.invokestatic 94, 3) := by decide +kernel
theorem dX11_studios_19 : decode cX11_studios 19 = .ok (.ifCond .ne 6, 3) := by decide +kernel
theorem dX11_studios_22 : decode cX11_studios 22 = .ok (.ldc 98, 2) := by decide +kernel
theorem dX11_studios_24 : decode cX11_studios 24 = .ok (.ireturn, 1) := by decide +kernel
theorem dX11_studios_25 : decode cX11_studios 25 = .ok (.aload_n 0, 1) := by decide +kernel
theorem dX11_studios_26 : decode cX11_studios 26 = .ok (.iload_n 2, 1) := by decide +kernel
theorem dX11_studios_27 : decode cX11_studios 27 = .ok (.iload_n 3, 1) := by decide +kernel
theorem dX11_studios_28 : decode cX11_studios 28 = .ok (.iload 4, 2) := by decide +kernel
theorem dX11_studios_30 : decode cX11_studios 30 = .ok (.invokevirtual 314, 3) := by decide +kernel
theorem dX11_studios_33 : decode cX11_studios 33 = .ok (.istore 7, 2) := by decide +kernel
theorem dX11_studios_35 : decode cX11_studios 35 = .ok (.iload 7, 2) := by decide +kernel
theorem dX11_studios_37 : decode cX11_studios 37 = .ok (.ifCond .eq 6, 3) := by decide +kernel
theorem dX11_studios_40 : decode cX11_studios 40 = .ok (.iload 7, 2) := by decide +kernel
theorem dX11_studios_42 : decode cX11_studios 42 = .ok (.ireturn, 1) := by decide +kernel
theorem dX11_studios_43 : decode cX11_studios 43 = .ok (.iload 6, 2) := by decide +kernel
theorem dX11_studios_45 : decode cX11_studios 45 = .ok (.lookupswitch 67 #[(0, 27), (1, 46)], 27) := by decide +kernel
theorem dX11_studios_72 : decode cX11_studios 72 = .ok (.aload_n 0, 1) := by decide +kernel
theorem dX11_studios_73 : decode cX11_studios 73 = .ok (.aload_n 0, 1) := by decide +kernel
theorem dX11_studios_74 : decode cX11_studios 74 = .ok (.aload_n 0, 1) := by decide +kernel
theorem dX11_studios_75 : decode cX11_studios 75 = .ok (.getfield 41, 3) := by decide +kernel
theorem dX11_studios_78 : decode cX11_studios 78 = .ok (.iload_n 1, 1) := by decide +kernel
theorem dX11_studios_79 : decode cX11_studios 79 = .ok (.aaload, 1) := by decide +kernel
theorem dX11_studios_80 : decode cX11_studios 80 = .ok (.iload_n 2, 1) := by decide +kernel
theorem dX11_studios_81 : decode cX11_studios 81 = .ok (.iload_n 3, 1) := by decide +kernel
theorem dX11_studios_82 : decode cX11_studios 82 = .ok (.iload 4, 2) := by decide +kernel
theorem dX11_studios_84 : decode cX11_studios 84 = .ok (.invokevirtual 329, 3) := by decide +kernel
theorem dX11_studios_87 : decode cX11_studios 87 = .ok (.invokevirtual 107, 3) := by decide +kernel
theorem dX11_studios_90 : decode cX11_studios 90 = .ok (.ireturn, 1) := by decide +kernel
theorem dX11_studios_91 : decode cX11_studios 91 = .ok (.aload_n 0, 1) := by decide +kernel
theorem dX11_studios_92 : decode cX11_studios 92 = .ok (.aload_n 0, 1) := by decide +kernel
theorem dX11_studios_93 : decode cX11_studios 93 = .ok (.aload_n 0, 1) := by decide +kernel
theorem dX11_studios_94 : decode cX11_studios 94 = .ok (.getfield 41, 3) := by decide +kernel
theorem dX11_studios_97 : decode cX11_studios 97 = .ok (.iload_n 1, 1) := by decide +kernel
theorem dX11_studios_98 : decode cX11_studios 98 = .ok (.aaload, 1) := by decide +kernel
theorem dX11_studios_99 : decode cX11_studios 99 = .ok (.iload_n 2, 1) := by decide +kernel
theorem dX11_studios_100 : decode cX11_studios 100 = .ok (.iload_n 3, 1) := by decide +kernel
theorem dX11_studios_101 : decode cX11_studios 101 = .ok (.iload 4, 2) := by decide +kernel
theorem dX11_studios_103 : decode cX11_studios 103 = .ok (.iload 5, 2) := by decide +kernel
theorem dX11_studios_105 : decode cX11_studios 105 = .ok (.invokevirtual 333, 3) := by decide +kernel
theorem dX11_studios_108 : decode cX11_studios 108 = .ok (.invokevirtual 107, 3) := by decide +kernel
theorem dX11_studios_111 : decode cX11_studios 111 = .ok (.ireturn, 1) := by decide +kernel
theorem dX11_studios_112 : decode cX11_studios 112 = .ok (.aload_n 0, 1) := by decide +kernel
theorem dX11_studios_113 : decode cX11_studios 113 = .ok (.aload_n 0, 1) := by decide +kernel
theorem dX11_studios_114 : decode cX11_studios 114 = .ok (.aload_n 0, 1) := by decide +kernel
theorem dX11_studios_115 : decode cX11_studios 115 = .ok (.getfield 41, 3) := by decide +kernel
theorem dX11_studios_118 : decode cX11_studios 118 = .ok (.iload_n 1, 1) := by decide +kernel
theorem dX11_studios_119 : decode cX11_studios 119 = .ok (.aaload, 1) := by decide +kernel
theorem dX11_studios_120 : decode cX11_studios 120 = .ok (.iload_n 2, 1) := by decide +kernel
theorem dX11_studios_121 : decode cX11_studios 121 = .ok (.iload_n 3, 1) := by decide +kernel
theorem dX11_studios_122 : decode cX11_studios 122 = .ok (.iload 4, 2) := by decide +kernel
theorem dX11_studios_124 : decode cX11_studios 124 = .ok (.iload 5, 2) := by decide +kernel
theorem dX11_studios_126 : decode cX11_studios 126 = .ok (.invokevirtual 337, 3) := by decide +kernel
theorem dX11_studios_129 : decode cX11_studios 129 = .ok (.invokevirtual 107, 3) := by decide +kernel
theorem dX11_studios_132 : decode cX11_studios 132 = .ok (.ireturn, 1) := by decide +kernel
theorem dX11_spot_0 : decode cX11_spot 0 = .ok (.iload_n 1, 1) := by decide +kernel
theorem dX11_spot_1 : decode cX11_spot 1 = .ok (.iconst 0, 1) := by decide +kernel
theorem dX11_spot_2 : decode cX11_spot 2 = .ok (.sipush 364, 3) := by decide +kernel
theorem dX11_spot_5 : decode cX11_spot 5 = .ok (.invokestatic 94, 3) := by decide +kernel
theorem dX11_spot_8 : decode cX11_spot 8 = .ok (.ifCond .eq 14, 3) := by decide +kernel
theorem dX11_spot_11 : decode cX11_spot 11 = .ok (.iload_n 2, 1) := by decide +kernel
theorem dX11_spot_12 : decode cX11_spot 12 = .ok (.bipush (-6), 2) := by decide +kernel
theorem dX11_spot_14 : decode cX11_spot 14 = .ok (.bipush 6, 2) := by decide +kernel
theorem dX11_spot_16 : decode cX11_spot 16 = .ok (.invokestatic 94, 3) := by decide +kernel
theorem dX11_spot_19 : decode cX11_spot 19 = .ok (.ifCond .ne 6, 3) := by decide +kernel
theorem dX11_spot_22 : decode cX11_spot 22 = .ok (.ldc 98, 2) := by decide +kernel
theorem dX11_spot_24 : decode cX11_spot 24 = .ok (.ireturn, 1) := by decide +kernel
theorem dX11_spot_25 : decode cX11_spot 25 = .ok (.iload_n 3, 1) := by decide +kernel
theorem dX11_spot_26 : decode cX11_spot 26 = .ok (.iconst 1, 1) := by decide +kernel
theorem dX11_spot_27 : decode cX11_spot 27 = .ok (.sipush 1000, 3) := by decide +kernel
theorem dX11_spot_30 : decode cX11_spot 30 = .ok (.invokestatic 94, 3) := by decide +kernel
theorem dX11_spot_33 : decode cX11_spot 33 = .ok (.ifCond .eq 13, 3) := by decide +kernel
theorem dX11_spot_36 : decode cX11_spot 36 = .ok (.iload 4, 2) := by decide +kernel
theorem dX11_spot_38 : decode cX11_spot 38 = .ok (.iconst 0, 1) := by decide +kernel
theorem dX11_spot_39 : decode cX11_spot 39 = .ok (.iconst 1, 1) := by decide +kernel
theorem dX11_spot_40 : decode cX11_spot 40 = .ok (.invokestatic 94, 3) := by decide +kernel
theorem dX11_spot_43 : decode cX11_spot 43 = .ok (.ifCond .ne 6, 3) := by decide +kernel
theorem dX11_spot_46 : decode cX11_spot 46 = .ok (.ldc 98, 2) := by decide +kernel
theorem dX11_spot_48 : decode cX11_spot 48 = .ok (.ireturn, 1) := by decide +kernel
theorem dX11_spot_49 : decode cX11_spot 49 = .ok (.iload 4, 2) := by decide +kernel
theorem dX11_spot_51 : decode cX11_spot 51 = .ok (.ifCond .ne 11, 3) := by decide +kernel
theorem dX11_spot_54 : decode cX11_spot 54 = .ok (.iload_n 2, 1) := by decide +kernel
theorem dX11_spot_55 : decode cX11_spot 55 = .ok (.iload_n 3, 1) := by decide +kernel
theorem dX11_spot_56 : decode cX11_spot 56 = .ok (.invokestatic 340, 3) := by decide +kernel
theorem dX11_spot_59 : decode cX11_spot 59 = .ok (.goto 12, 3) := by decide +kernel
theorem dX11_spot_62 : decode cX11_spot 62 = .ok (.iload_n 1, 1) := by decide +kernel
theorem dX11_spot_63 : decode cX11_spot 63 = .ok (.invokestatic 343, 3) := by decide +kernel
theorem dX11_spot_66 : decode cX11_spot 66 = .ok (.iload_n 2, 1) := by decide +kernel
theorem dX11_spot_67 : decode cX11_spot 67 = .ok (.iload_n 3, 1) := by decide +kernel
theorem dX11_spot_68 : decode cX11_spot 68 = .ok (.invokestatic 346, 3) := by decide +kernel
theorem dX11_spot_71 : decode cX11_spot 71 = .ok (.ireturn, 1) := by decide +kernel
theorem dX11_days_0 : decode cX11_days 0 = .ok (.iload_n 3, 1) := by decide +kernel
theorem dX11_days_1 : decode cX11_days 1 = .ok (.iconst 1, 1) := by decide +kernel
theorem dX11_days_2 : decode cX11_days 2 = .ok (.sipush 1000, 3) := by decide +kernel
theorem dX11_days_5 : decode cX11_days 5 = .ok (.invokestatic 94, 3) := by decide +kernel
theorem dX11_days_8 : decode cX11_days 8 = .ok (.ifCond .ne 6, 3) := by decide +kernel
theorem dX11_days_11 : decode cX11_days 11 = .ok (.ldc 98, 2) := by decide +kernel
theorem dX11_days_13 : decode cX11_days 13 = .ok (.ireturn, 1) := by decide +kernel
theorem dX11_days_14 : decode cX11_days 14 = .ok (.iconst 0, 1) := by decide +kernel
theorem dX11_days_15 : decode cX11_days 15 = .ok (.istore 5, 2) := by decide +kernel
theorem dX11_days_17 : decode cX11_days 17 = .ok (.iconst 0, 1) := by decide +kernel
theorem dX11_days_18 : decode cX11_days 18 = .ok (.istore 6, 2) := by decide +kernel
theorem dX11_days_20 : decode cX11_days 20 = .ok (.iload 6, 2) := by decide +kernel
theorem dX11_days_22 : decode cX11_days 22 = .ok (.sipush 365, 3) := by decide +kernel
theorem dX11_days_25 : decode cX11_days 25 = .ok (.if_icmp .ge 77, 3) := by decide +kernel
theorem dX11_days_28 : decode cX11_days 28 = .ok (.iload 6, 2) := by decide +kernel
theorem dX11_days_30 : decode cX11_days 30 = .ok (.invokestatic 343, 3) := by decide +kernel
theorem dX11_days_33 : decode cX11_days 33 = .ok (.istore 7, 2) := by decide +kernel
theorem dX11_days_35 : decode cX11_days 35 = .ok (.bipush (-6), 2) := by decide +kernel
theorem dX11_days_37 : decode cX11_days 37 = .ok (.istore 8, 2) := by decide +kernel
theorem dX11_days_39 : decode cX11_days 39 = .ok (.iload 8, 2) := by decide +kernel
theorem dX11_days_41 : decode cX11_days 41 = .ok (.bipush 6, 2) := by decide +kernel
theorem dX11_days_43 : decode cX11_days 43 = .ok (.if_icmp .gt 53, 3) := by decide +kernel
theorem dX11_days_46 : decode cX11_days 46 = .ok (.iload 8, 2) := by decide +kernel
theorem dX11_days_48 : decode cX11_days 48 = .ok (.iload_n 3, 1) := by decide +kernel
theorem dX11_days_49 : decode cX11_days 49 = .ok (.invokestatic 340, 3) := by decide +kernel
theorem dX11_days_52 : decode cX11_days 52 = .ok (.iload_n 1, 1) := by decide +kernel
theorem dX11_days_53 : decode cX11_days 53 = .ok (.if_icmp .ne 37, 3) := by decide +kernel
theorem dX11_days_56 : decode cX11_days 56 = .ok (.iload 7, 2) := by decide +kernel
theorem dX11_days_58 : decode cX11_days 58 = .ok (.iload 8, 2) := by decide +kernel
theorem dX11_days_60 : decode cX11_days 60 = .ok (.iload_n 3, 1) := by decide +kernel
theorem dX11_days_61 : decode cX11_days 61 = .ok (.invokestatic 346, 3) := by decide +kernel
theorem dX11_days_64 : decode cX11_days 64 = .ok (.iload_n 2, 1) := by decide +kernel
theorem dX11_days_65 : decode cX11_days 65 = .ok (.if_icmp .ne 25, 3) := by decide +kernel
theorem dX11_days_68 : decode cX11_days 68 = .ok (.iload 5, 2) := by decide +kernel
theorem dX11_days_70 : decode cX11_days 70 = .ok (.iload 4, 2) := by decide +kernel
theorem dX11_days_72 : decode cX11_days 72 = .ok (.if_icmp .ne 15, 3) := by decide +kernel
theorem dX11_days_75 : decode cX11_days 75 = .ok (.bipush 100, 2) := by decide +kernel
theorem dX11_days_77 : decode cX11_days 77 = .ok (.iload 6, 2) := by decide +kernel
theorem dX11_days_79 : decode cX11_days 79 = .ok (.imul, 1) := by decide +kernel
theorem dX11_days_80 : decode cX11_days 80 = .ok (.iload 8, 2) := by decide +kernel
theorem dX11_days_82 : decode cX11_days 82 = .ok (.iadd, 1) := by decide +kernel
theorem dX11_days_83 : decode cX11_days 83 = .ok (.bipush 50, 2) := by decide +kernel
theorem dX11_days_85 : decode cX11_days 85 = .ok (.iadd, 1) := by decide +kernel
theorem dX11_days_86 : decode cX11_days 86 = .ok (.ireturn, 1) := by decide +kernel
theorem dX11_days_87 : decode cX11_days 87 = .ok (.iinc 5 1, 3) := by decide +kernel
theorem dX11_days_90 : decode cX11_days 90 = .ok (.iinc 8 1, 3) := by decide +kernel
theorem dX11_days_93 : decode cX11_days 93 = .ok (.goto (-54), 3) := by decide +kernel
theorem dX11_days_96 : decode cX11_days 96 = .ok (.iinc 6 1, 3) := by decide +kernel
theorem dX11_days_99 : decode cX11_days 99 = .ok (.goto (-79), 3) := by decide +kernel
theorem dX11_days_102 : decode cX11_days 102 = .ok (.iload 4, 2) := by decide +kernel
theorem dX11_days_104 : decode cX11_days 104 = .ok (.ldc 237, 2) := by decide +kernel
theorem dX11_days_106 : decode cX11_days 106 = .ok (.if_icmp .ne 8, 3) := by decide +kernel
theorem dX11_days_109 : decode cX11_days 109 = .ok (.iload 5, 2) := by decide +kernel
theorem dX11_days_111 : decode cX11_days 111 = .ok (.goto 5, 3) := by decide +kernel
theorem dX11_days_114 : decode cX11_days 114 = .ok (.ldc 237, 2) := by decide +kernel
theorem dX11_days_116 : decode cX11_days 116 = .ok (.ireturn, 1) := by decide +kernel
theorem dX11_kind_0 : decode cX11_kind 0 = .ok (.aload_n 0, 1) := by decide +kernel
theorem dX11_kind_1 : decode cX11_kind 1 = .ok (.iload_n 1, 1) := by decide +kernel
theorem dX11_kind_2 : decode cX11_kind 2 = .ok (.invokevirtual 159, 3) := by decide +kernel
theorem dX11_kind_5 : decode cX11_kind 5 = .ok (.ifCond .eq 11, 3) := by decide +kernel
theorem dX11_kind_8 : decode cX11_kind 8 = .ok (.aload_n 0, 1) := by decide +kernel
theorem dX11_kind_9 : decode cX11_kind 9 = .ok (.iload_n 1, 1) := by decide +kernel
theorem dX11_kind_10 : decode cX11_kind 10 = .ok (.invokevirtual 349, 3) := by decide +kernel
theorem dX11_kind_13 : decode cX11_kind 13 = .ok (.goto 5, 3) := by decide +kernel
theorem dX11_kind_16 : decode cX11_kind 16 = .ok (.ldc 98, 2) := by decide +kernel
theorem dX11_kind_18 : decode cX11_kind 18 = .ok (.ireturn, 1) := by decide +kernel
theorem dX11_as_0 : decode cX11_as 0 = .ok (.aload_n 0, 1) := by decide +kernel
theorem dX11_as_1 : decode cX11_as 1 = .ok (.iload_n 1, 1) := by decide +kernel
theorem dX11_as_2 : decode cX11_as 2 = .ok (.invokevirtual 159, 3) := by decide +kernel
theorem dX11_as_5 : decode cX11_as 5 = .ok (.ifCond .eq 12, 3) := by decide +kernel
theorem dX11_as_8 : decode cX11_as 8 = .ok (.iload_n 2, 1) := by decide +kernel
theorem dX11_as_9 : decode cX11_as 9 = .ok (.iconst 0, 1) := by decide +kernel
theorem dX11_as_10 : decode cX11_as 10 = .ok (.iconst 3, 1) := by decide +kernel
theorem dX11_as_11 : decode cX11_as 11 = .ok (.invokestatic 94, 3) := by decide +kernel
theorem dX11_as_14 : decode cX11_as 14 = .ok (.ifCond .ne 6, 3) := by decide +kernel
theorem dX11_as_17 : decode cX11_as 17 = .ok (.ldc 98, 2) := by decide +kernel
theorem dX11_as_19 : decode cX11_as 19 = .ok (.ireturn, 1) := by decide +kernel
theorem dX11_as_20 : decode cX11_as 20 = .ok (.aload_n 0, 1) := by decide +kernel
theorem dX11_as_21 : decode cX11_as 21 = .ok (.iload_n 1, 1) := by decide +kernel
theorem dX11_as_22 : decode cX11_as 22 = .ok (.invokevirtual 349, 3) := by decide +kernel
theorem dX11_as_25 : decode cX11_as 25 = .ok (.istore_n 3, 1) := by decide +kernel
theorem dX11_as_26 : decode cX11_as 26 = .ok (.iload_n 2, 1) := by decide +kernel
theorem dX11_as_27 : decode cX11_as 27 = .ok (.ifCond .eq 18, 3) := by decide +kernel
theorem dX11_as_30 : decode cX11_as 30 = .ok (.iload_n 2, 1) := by decide +kernel
theorem dX11_as_31 : decode cX11_as 31 = .ok (.iload_n 3, 1) := by decide +kernel
theorem dX11_as_32 : decode cX11_as 32 = .ok (.if_icmp .eq 13, 3) := by decide +kernel
theorem dX11_as_35 : decode cX11_as 35 = .ok (.iload_n 2, 1) := by decide +kernel
theorem dX11_as_36 : decode cX11_as 36 = .ok (.iconst 1, 1) := by decide +kernel
theorem dX11_as_37 : decode cX11_as 37 = .ok (.if_icmp .ne 12, 3) := by decide +kernel
theorem dX11_as_40 : decode cX11_as 40 = .ok (.iload_n 3, 1) := by decide +kernel
theorem dX11_as_41 : decode cX11_as 41 = .ok (.iconst 2, 1) := by decide +kernel
theorem dX11_as_42 : decode cX11_as 42 = .ok (.if_icmp .ne 7, 3) := by decide +kernel
theorem dX11_as_45 : decode cX11_as 45 = .ok (.iconst 1, 1) := by decide +kernel
theorem dX11_as_46 : decode cX11_as 46 = .ok (.goto 4, 3) := by decide +kernel
theorem dX11_as_49 : decode cX11_as 49 = .ok (.iconst 0, 1) := by decide +kernel
theorem dX11_as_50 : decode cX11_as 50 = .ok (.istore 4, 2) := by decide +kernel
theorem dX11_as_52 : decode cX11_as 52 = .ok (.iload 4, 2) := by decide +kernel
theorem dX11_as_54 : decode cX11_as 54 = .ok (.ifCond .eq 19, 3) := by decide +kernel
theorem dX11_as_57 : decode cX11_as 57 = .ok (.aload_n 0, 1) := by decide +kernel
theorem dX11_as_58 : decode cX11_as 58 = .ok (.aload_n 0, 1) := by decide +kernel
theorem dX11_as_59 : decode cX11_as 59 = .ok (.getfield 24, 3) := by decide +kernel
theorem dX11_as_62 : decode cX11_as 62 = .ok (.iload_n 1, 1) := by decide +kernel
theorem dX11_as_63 : decode cX11_as 63 = .ok (.aaload, 1) := by decide +kernel
theorem dX11_as_64 : decode cX11_as 64 = .ok (.getfield 172, 3) := by decide +kernel
theorem dX11_as_67 : decode cX11_as 67 = .ok (.invokevirtual 107, 3) := by decide +kernel
theorem dX11_as_70 : decode cX11_as 70 = .ok (.goto 8, 3) := by decide +kernel
theorem dX11_as_73 : decode cX11_as 73 = .ok (.aload_n 0, 1) := by decide +kernel
theorem dX11_as_74 : decode cX11_as 74 = .ok (.iconst 3, 1) := by decide +kernel
theorem dX11_as_75 : decode cX11_as 75 = .ok (.invokevirtual 99, 3) := by decide +kernel
theorem dX11_as_78 : decode cX11_as 78 = .ok (.ireturn, 1) := by decide +kernel
theorem dX11_ask_0 : decode cX11_ask 0 = .ok (.aload_n 0, 1) := by decide +kernel
theorem dX11_ask_1 : decode cX11_ask 1 = .ok (.iload_n 1, 1) := by decide +kernel
theorem dX11_ask_2 : decode cX11_ask 2 = .ok (.invokevirtual 159, 3) := by decide +kernel
theorem dX11_ask_5 : decode cX11_ask 5 = .ok (.ifCond .eq 12, 3) := by decide +kernel
theorem dX11_ask_8 : decode cX11_ask 8 = .ok (.iload_n 2, 1) := by decide +kernel
theorem dX11_ask_9 : decode cX11_ask 9 = .ok (.iconst 0, 1) := by decide +kernel
theorem dX11_ask_10 : decode cX11_ask 10 = .ok (.iconst 1, 1) := by decide +kernel
theorem dX11_ask_11 : decode cX11_ask 11 = .ok (.invokestatic 94, 3) := by decide +kernel
theorem dX11_ask_14 : decode cX11_ask 14 = .ok (.ifCond .ne 6, 3) := by decide +kernel
theorem dX11_ask_17 : decode cX11_ask 17 = .ok (.ldc 98, 2) := by decide +kernel
theorem dX11_ask_19 : decode cX11_ask 19 = .ok (.ireturn, 1) := by decide +kernel
theorem dX11_ask_20 : decode cX11_ask 20 = .ok (.aload_n 0, 1) := by decide +kernel
theorem dX11_ask_21 : decode cX11_ask 21 = .ok (.iload_n 1, 1) := by decide +kernel
theorem dX11_ask_22 : decode cX11_ask 22 = .ok (.invokevirtual 349, 3) := by decide +kernel
theorem dX11_ask_25 : decode cX11_ask 25 = .ok (.istore_n 3, 1) := by decide +kernel
theorem dX11_ask_26 : decode cX11_ask 26 = .ok (.aload_n 0, 1) := by decide +kernel
theorem dX11_ask_27 : decode cX11_ask 27 = .ok (.getfield 80, 3) := by decide +kernel
theorem dX11_ask_30 : decode cX11_ask 30 = .ok (.aload_n 0, 1) := by decide +kernel
theorem dX11_ask_31 : decode cX11_ask 31 = .ok (.getfield 24, 3) := by decide +kernel
theorem dX11_ask_34 : decode cX11_ask 34 = .ok (.iload_n 1, 1) := by decide +kernel
theorem dX11_ask_35 : decode cX11_ask 35 = .ok (.aaload, 1) := by decide +kernel
theorem dX11_ask_36 : decode cX11_ask 36 = .ok (.getfield 172, 3) := by decide +kernel
theorem dX11_ask_39 : decode cX11_ask 39 = .ok (.aload_n 0, 1) := by decide +kernel
theorem dX11_ask_40 : decode cX11_ask 40 = .ok (.getfield 35, 3) := by decide +kernel
theorem dX11_ask_43 : decode cX11_ask 43 = .ok (.getfield 178, 3) := by decide +kernel
theorem dX11_ask_46 : decode cX11_ask 46 = .ok (.aload_n 0, 1) := by decide +kernel
theorem dX11_ask_47 : decode cX11_ask 47 = .ok (.getfield 35, 3) := by decide +kernel
theorem dX11_ask_50 : decode cX11_ask 50 = .ok (.getfield 186, 3) := by decide +kernel
theorem dX11_ask_53 : decode cX11_ask 53 = .ok (.invokevirtual 352, 3) := by decide +kernel
theorem dX11_ask_56 : decode cX11_ask 56 = .ok (.iload_n 2, 1) := by decide +kernel
theorem dX11_ask_57 : decode cX11_ask 57 = .ok (.ifCond .ne 14, 3) := by decide +kernel
theorem dX11_ask_60 : decode cX11_ask 60 = .ok (.aload_n 0, 1) := by decide +kernel
theorem dX11_ask_61 : decode cX11_ask 61 = .ok (.getfield 80, 3) := by decide +kernel
theorem dX11_ask_64 : decode cX11_ask 64 = .ok (.iload_n 3, 1) := by decide +kernel
theorem dX11_ask_65 : decode cX11_ask 65 = .ok (.invokevirtual 355, 3) := by decide +kernel
theorem dX11_ask_68 : decode cX11_ask 68 = .ok (.goto 11, 3) := by decide +kernel
theorem dX11_ask_71 : decode cX11_ask 71 = .ok (.aload_n 0, 1) := by decide +kernel
theorem dX11_ask_72 : decode cX11_ask 72 = .ok (.getfield 80, 3) := by decide +kernel
theorem dX11_ask_75 : decode cX11_ask 75 = .ok (.iload_n 3, 1) := by decide +kernel
theorem dX11_ask_76 : decode cX11_ask 76 = .ok (.invokevirtual 358, 3) := by decide +kernel
theorem dX11_ask_79 : decode cX11_ask 79 = .ok (.ireturn, 1) := by decide +kernel
end
section
theorem dX11_trace_0 : decode cX11_trace 0 = .ok (.iload_n 1, 1) := by decide +kernel
theorem dX11_trace_1 : decode cX11_trace 1 = .ok (.iconst 0, 1) := by decide +kernel
theorem dX11_trace_2 : decode cX11_trace 2 = .ok (.aload_n 0, 1) := by decide +kernel
theorem dX11_trace_3 : decode cX11_trace 3 = .ok (.getfield 80, 3) := by decide +kernel
theorem dX11_trace_6 : decode cX11_trace 6 = .ok (.getfield 361, 3) := by decide +kernel
theorem dX11_trace_9 : decode cX11_trace 9 = .ok (.iconst 1, 1) := by decide +kernel
theorem dX11_trace_10 : decode cX11_trace 10 = .ok (.isub, 1) := by decide +kernel
theorem dX11_trace_11 : decode cX11_trace 11 = .ok (.invokestatic 94, 3) := by decide +kernel
theorem dX11_trace_14 : decode cX11_trace 14 = .ok (.ifCond .eq 15, 3) := by decide +kernel
theorem dX11_trace_17 : decode cX11_trace 17 = .ok (.aload_n 0, 1) := by decide +kernel
theorem dX11_trace_18 : decode cX11_trace 18 = .ok (.getfield 80, 3) := by decide +kernel
theorem dX11_trace_21 : decode cX11_trace 21 = .ok (.getfield 364, 3) := by decide +kernel
theorem dX11_trace_24 : decode cX11_trace 24 = .ok (.iload_n 1, 1) := by decide +kernel
theorem dX11_trace_25 : decode cX11_trace 25 = .ok (.iaload, 1) := by decide +kernel
theorem dX11_trace_26 : decode cX11_trace 26 = .ok (.goto 5, 3) := by decide +kernel
theorem dX11_trace_29 : decode cX11_trace 29 = .ok (.ldc 237, 2) := by decide +kernel
theorem dX11_trace_31 : decode cX11_trace 31 = .ok (.ireturn, 1) := by decide +kernel
theorem dX11_count_0 : decode cX11_count 0 = .ok (.iload_n 1, 1) := by decide +kernel
theorem dX11_count_1 : decode cX11_count 1 = .ok (.tableswitch 99 0 7 #[47, 52, 57, 69, 75, 81, 86, 91], 47) := by decide +kernel
theorem dX11_count_48 : decode cX11_count 48 = .ok (.aload_n 0, 1) := by decide +kernel
theorem dX11_count_49 : decode cX11_count 49 = .ok (.invokevirtual 367, 3) := by decide +kernel
theorem dX11_count_52 : decode cX11_count 52 = .ok (.ireturn, 1) := by decide +kernel
theorem dX11_count_53 : decode cX11_count 53 = .ok (.aload_n 0, 1) := by decide +kernel
theorem dX11_count_54 : decode cX11_count 54 = .ok (.getfield 28, 3) := by decide +kernel
theorem dX11_count_57 : decode cX11_count 57 = .ok (.ireturn, 1) := by decide +kernel
theorem dX11_count_58 : decode cX11_count 58 = .ok (.aload_n 0, 1) := by decide +kernel
theorem dX11_count_59 : decode cX11_count 59 = .ok (.iconst 1, 1) := by decide +kernel
theorem dX11_count_60 : decode cX11_count 60 = .ok (.invokevirtual 370, 3) := by decide +kernel
theorem dX11_count_63 : decode cX11_count 63 = .ok (.aload_n 0, 1) := by decide +kernel
theorem dX11_count_64 : decode cX11_count 64 = .ok (.iconst 2, 1) := by decide +kernel
theorem dX11_count_65 : decode cX11_count 65 = .ok (.invokevirtual 370, 3) := by decide +kernel
theorem dX11_count_68 : decode cX11_count 68 = .ok (.iadd, 1) := by decide +kernel
theorem dX11_count_69 : decode cX11_count 69 = .ok (.ireturn, 1) := by decide +kernel
theorem dX11_count_70 : decode cX11_count 70 = .ok (.aload_n 0, 1) := by decide +kernel
theorem dX11_count_71 : decode cX11_count 71 = .ok (.iconst 2, 1) := by decide +kernel
theorem dX11_count_72 : decode cX11_count 72 = .ok (.invokevirtual 370, 3) := by decide +kernel
theorem dX11_count_75 : decode cX11_count 75 = .ok (.ireturn, 1) := by decide +kernel
theorem dX11_count_76 : decode cX11_count 76 = .ok (.aload_n 0, 1) := by decide +kernel
theorem dX11_count_77 : decode cX11_count 77 = .ok (.iconst 3, 1) := by decide +kernel
theorem dX11_count_78 : decode cX11_count 78 = .ok (.invokevirtual 370, 3) := by decide +kernel
theorem dX11_count_81 : decode cX11_count 81 = .ok (.ireturn, 1) := by decide +kernel
theorem dX11_count_82 : decode cX11_count 82 = .ok (.aload_n 0, 1) := by decide +kernel
theorem dX11_count_83 : decode cX11_count 83 = .ok (.invokevirtual 373, 3) := by decide +kernel
theorem dX11_count_86 : decode cX11_count 86 = .ok (.ireturn, 1) := by decide +kernel
theorem dX11_count_87 : decode cX11_count 87 = .ok (.aload_n 0, 1) := by decide +kernel
theorem dX11_count_88 : decode cX11_count 88 = .ok (.invokevirtual 376, 3) := by decide +kernel
theorem dX11_count_91 : decode cX11_count 91 = .ok (.ireturn, 1) := by decide +kernel
theorem dX11_count_92 : decode cX11_count 92 = .ok (.aload_n 0, 1) := by decide +kernel
theorem dX11_count_93 : decode cX11_count 93 = .ok (.getfield 18, 3) := by decide +kernel
theorem dX11_count_96 : decode cX11_count 96 = .ok (.invokevirtual 210, 3) := by decide +kernel
theorem dX11_count_99 : decode cX11_count 99 = .ok (.ireturn, 1) := by decide +kernel
theorem dX11_count_100 : decode cX11_count 100 = .ok (.ldc 98, 2) := by decide +kernel
theorem dX11_count_102 : decode cX11_count 102 = .ok (.ireturn, 1) := by decide +kernel
theorem dX11_status_0 : decode cX11_status 0 = .ok (.aload_n 0, 1) := by decide +kernel
theorem dX11_status_1 : decode cX11_status 1 = .ok (.getfield 84, 3) := by decide +kernel
theorem dX11_status_4 : decode cX11_status 4 = .ok (.ireturn, 1) := by decide +kernel
theorem dX11_found_0 : decode cX11_found 0 = .ok (.aload_n 0, 1) := by decide +kernel
theorem dX11_found_1 : decode cX11_found 1 = .ok (.iload_n 1, 1) := by decide +kernel
theorem dX11_found_2 : decode cX11_found 2 = .ok (.putfield 84, 3) := by decide +kernel
theorem dX11_found_5 : decode cX11_found 5 = .ok (.ldc_w 379, 3) := by decide +kernel
theorem dX11_found_8 : decode cX11_found 8 = .ok (.iload_n 1, 1) := by decide +kernel
theorem dX11_found_9 : decode cX11_found 9 = .ok (.isub, 1) := by decide +kernel
theorem dX11_found_10 : decode cX11_found 10 = .ok (.ireturn, 1) := by decide +kernel
theorem dX11_clean_0 : decode cX11_clean 0 = .ok (.aload_n 0, 1) := by decide +kernel
theorem dX11_clean_1 : decode cX11_clean 1 = .ok (.iconst 0, 1) := by decide +kernel
theorem dX11_clean_2 : decode cX11_clean 2 = .ok (.putfield 84, 3) := by decide +kernel
theorem dX11_clean_5 : decode cX11_clean 5 = .ok (.iload_n 1, 1) := by decide +kernel
theorem dX11_clean_6 : decode cX11_clean 6 = .ok (.ireturn, 1) := by decide +kernel
theorem dX11_within_0 : decode cX11_within 0 = .ok (.iload_n 0, 1) := by decide +kernel
theorem dX11_within_1 : decode cX11_within 1 = .ok (.iload_n 1, 1) := by decide +kernel
theorem dX11_within_2 : decode cX11_within 2 = .ok (.if_icmp .lt 12, 3) := by decide +kernel
theorem dX11_within_5 : decode cX11_within 5 = .ok (.iload_n 0, 1) := by decide +kernel
theorem dX11_within_6 : decode cX11_within 6 = .ok (.iload_n 2, 1) := by decide +kernel
theorem dX11_within_7 : decode cX11_within 7 = .ok (.if_icmp .gt 7, 3) := by decide +kernel
theorem dX11_within_10 : decode cX11_within 10 = .ok (.iconst 1, 1) := by decide +kernel
theorem dX11_within_11 : decode cX11_within 11 = .ok (.goto 4, 3) := by decide +kernel
theorem dX11_within_14 : decode cX11_within 14 = .ok (.iconst 0, 1) := by decide +kernel
theorem dX11_within_15 : decode cX11_within 15 = .ok (.ireturn, 1) := by decide +kernel
theorem dX11_isSheet_0 : decode cX11_isSheet 0 = .ok (.iload_n 0, 1) := by decide +kernel
theorem dX11_isSheet_1 : decode cX11_isSheet 1 = .ok (.iconst 0, 1) := by decide +kernel
theorem dX11_isSheet_2 : decode cX11_isSheet 2 = .ok (.bipush 7, 2) := by decide +kernel
theorem dX11_isSheet_4 : decode cX11_isSheet 4 = .ok (.invokestatic 94, 3) := by decide +kernel
theorem dX11_isSheet_7 : decode cX11_isSheet 7 = .ok (.ireturn, 1) := by decide +kernel
theorem dX11_isTrace_0 : decode cX11_isTrace 0 = .ok (.iload_n 0, 1) := by decide +kernel
theorem dX11_isTrace_1 : decode cX11_isTrace 1 = .ok (.iconst 0, 1) := by decide +kernel
theorem dX11_isTrace_2 : decode cX11_isTrace 2 = .ok (.bipush 7, 2) := by decide +kernel
theorem dX11_isTrace_4 : decode cX11_isTrace 4 = .ok (.invokestatic 94, 3) := by decide +kernel
theorem dX11_isTrace_7 : decode cX11_isTrace 7 = .ok (.ireturn, 1) := by decide +kernel
theorem dX11_isNumber_0 : decode cX11_isNumber 0 = .ok (.iload_n 0, 1) := by decide +kernel
theorem dX11_isNumber_1 : decode cX11_isNumber 1 = .ok (.iconst 0, 1) := by decide +kernel
theorem dX11_isNumber_2 : decode cX11_isNumber 2 = .ok (.bipush 23, 2) := by decide +kernel
theorem dX11_isNumber_4 : decode cX11_isNumber 4 = .ok (.invokestatic 94, 3) := by decide +kernel
theorem dX11_isNumber_7 : decode cX11_isNumber 7 = .ok (.ireturn, 1) := by decide +kernel
theorem dX11_isThing_0 : decode cX11_isThing 0 = .ok (.iload_n 1, 1) := by decide +kernel
theorem dX11_isThing_1 : decode cX11_isThing 1 = .ok (.iconst 0, 1) := by decide +kernel
theorem dX11_isThing_2 : decode cX11_isThing 2 = .ok (.aload_n 0, 1) := by decide +kernel
theorem dX11_isThing_3 : decode cX11_isThing 3 = .ok (.getfield 28, 3) := by decide +kernel
theorem dX11_isThing_6 : decode cX11_isThing 6 = .ok (.iconst 1, 1) := by decide +kernel
theorem dX11_isThing_7 : decode cX11_isThing 7 = .ok (.isub, 1) := by decide +kernel
theorem dX11_isThing_8 : decode cX11_isThing 8 = .ok (.invokestatic 94, 3) := by decide +kernel
theorem dX11_isThing_11 : decode cX11_isThing 11 = .ok (.ireturn, 1) := by decide +kernel
theorem dX11_isFlatPlace_0 : decode cX11_isFlatPlace 0 = .ok (.iload_n 0, 1) := by decide +kernel
theorem dX11_isFlatPlace_1 : decode cX11_isFlatPlace 1 = .ok (.sipush (-1000), 3) := by decide +kernel
theorem dX11_isFlatPlace_4 : decode cX11_isFlatPlace 4 = .ok (.sipush 1000, 3) := by decide +kernel
theorem dX11_isFlatPlace_7 : decode cX11_isFlatPlace 7 = .ok (.invokestatic 94, 3) := by decide +kernel
theorem dX11_isFlatPlace_10 : decode cX11_isFlatPlace 10 = .ok (.ireturn, 1) := by decide +kernel
theorem dX11_isPlace_0 : decode cX11_isPlace 0 = .ok (.iload_n 0, 1) := by decide +kernel
theorem dX11_isPlace_1 : decode cX11_isPlace 1 = .ok (.invokestatic 219, 3) := by decide +kernel
theorem dX11_isPlace_4 : decode cX11_isPlace 4 = .ok (.ifCond .eq 25, 3) := by decide +kernel
theorem dX11_isPlace_7 : decode cX11_isPlace 7 = .ok (.iload_n 1, 1) := by decide +kernel
theorem dX11_isPlace_8 : decode cX11_isPlace 8 = .ok (.invokestatic 219, 3) := by decide +kernel
theorem dX11_isPlace_11 : decode cX11_isPlace 11 = .ok (.ifCond .eq 18, 3) := by decide +kernel
theorem dX11_isPlace_14 : decode cX11_isPlace 14 = .ok (.iload_n 2, 1) := by decide +kernel
theorem dX11_isPlace_15 : decode cX11_isPlace 15 = .ok (.iconst 1, 1) := by decide +kernel
theorem dX11_isPlace_16 : decode cX11_isPlace 16 = .ok (.sipush 5000, 3) := by decide +kernel
theorem dX11_isPlace_19 : decode cX11_isPlace 19 = .ok (.invokestatic 94, 3) := by decide +kernel
theorem dX11_isPlace_22 : decode cX11_isPlace 22 = .ok (.ifCond .eq 7, 3) := by decide +kernel
theorem dX11_isPlace_25 : decode cX11_isPlace 25 = .ok (.iconst 1, 1) := by decide +kernel
theorem dX11_isPlace_26 : decode cX11_isPlace 26 = .ok (.goto 4, 3) := by decide +kernel
theorem dX11_isPlace_29 : decode cX11_isPlace 29 = .ok (.iconst 0, 1) := by decide +kernel
theorem dX11_isPlace_30 : decode cX11_isPlace 30 = .ok (.ireturn, 1) := by decide +kernel
theorem dX11_isStand_0 : decode cX11_isStand 0 = .ok (.iload_n 0, 1) := by decide +kernel
theorem dX11_isStand_1 : decode cX11_isStand 1 = .ok (.invokestatic 219, 3) := by decide +kernel
theorem dX11_isStand_4 : decode cX11_isStand 4 = .ok (.ifCond .eq 32, 3) := by decide +kernel
theorem dX11_isStand_7 : decode cX11_isStand 7 = .ok (.iload_n 1, 1) := by decide +kernel
theorem dX11_isStand_8 : decode cX11_isStand 8 = .ok (.invokestatic 219, 3) := by decide +kernel
theorem dX11_isStand_11 : decode cX11_isStand 11 = .ok (.ifCond .eq 25, 3) := by decide +kernel
theorem dX11_isStand_14 : decode cX11_isStand 14 = .ok (.iload_n 2, 1) := by decide +kernel
theorem dX11_isStand_15 : decode cX11_isStand 15 = .ok (.invokestatic 219, 3) := by decide +kernel
theorem dX11_isStand_18 : decode cX11_isStand 18 = .ok (.ifCond .eq 18, 3) := by decide +kernel
theorem dX11_isStand_21 : decode cX11_isStand 21 = .ok (.iload_n 3, 1) := by decide +kernel
theorem dX11_isStand_22 : decode cX11_isStand 22 = .ok (.iconst 1, 1) := by decide +kernel
theorem dX11_isStand_23 : decode cX11_isStand 23 = .ok (.sipush 1000, 3) := by decide +kernel
theorem dX11_isStand_26 : decode cX11_isStand 26 = .ok (.invokestatic 94, 3) := by decide +kernel
theorem dX11_isStand_29 : decode cX11_isStand 29 = .ok (.ifCond .eq 7, 3) := by decide +kernel
theorem dX11_isStand_32 : decode cX11_isStand 32 = .ok (.iconst 1, 1) := by decide +kernel
theorem dX11_isStand_33 : decode cX11_isStand 33 = .ok (.goto 4, 3) := by decide +kernel
theorem dX11_isStand_36 : decode cX11_isStand 36 = .ok (.iconst 0, 1) := by decide +kernel
theorem dX11_isStand_37 : decode cX11_isStand 37 = .ok (.ireturn, 1) := by decide +kernel
theorem dX11_by_0 : decode cX11_by 0 = .ok (.iload_n 1, 1) := by decide +kernel
theorem dX11_by_1 : decode cX11_by 1 = .ok (.ifCond .ne 7, 3) := by decide +kernel
theorem dX11_by_4 : decode cX11_by 4 = .ok (.iconst 0, 1) := by decide +kernel
theorem dX11_by_5 : decode cX11_by 5 = .ok (.goto 6, 3) := by decide +kernel
theorem dX11_by_8 : decode cX11_by 8 = .ok (.iload_n 0, 1) := by decide +kernel
theorem dX11_by_9 : decode cX11_by 9 = .ok (.iload_n 1, 1) := by decide +kernel
theorem dX11_by_10 : decode cX11_by 10 = .ok (.idiv, 1) := by decide +kernel
theorem dX11_by_11 : decode cX11_by 11 = .ok (.ireturn, 1) := by decide +kernel
theorem dX11_by__0 : decode cX11_by_ 0 = .ok (.lload_n 2, 1) := by decide +kernel
theorem dX11_by__1 : decode cX11_by_ 1 = .ok (.lconst 0, 1) := by decide +kernel
theorem dX11_by__2 : decode cX11_by_ 2 = .ok (.lcmp, 1) := by decide +kernel
theorem dX11_by__3 : decode cX11_by_ 3 = .ok (.ifCond .ne 7, 3) := by decide +kernel
theorem dX11_by__6 : decode cX11_by_ 6 = .ok (.lconst 0, 1) := by decide +kernel
theorem dX11_by__7 : decode cX11_by_ 7 = .ok (.goto 6, 3) := by decide +kernel
theorem dX11_by__10 : decode cX11_by_ 10 = .ok (.lload_n 0, 1) := by decide +kernel
theorem dX11_by__11 : decode cX11_by_ 11 = .ok (.lload_n 2, 1) := by decide +kernel
theorem dX11_by__12 : decode cX11_by_ 12 = .ok (.ldiv, 1) := by decide +kernel
theorem dX11_by__13 : decode cX11_by_ 13 = .ok (.lreturn, 1) := by decide +kernel
theorem dX11_kindOf_0 : decode cX11_kindOf 0 = .ok (.aload_n 0, 1) := by decide +kernel
theorem dX11_kindOf_1 : decode cX11_kindOf 1 = .ok (.getfield 35, 3) := by decide +kernel
theorem dX11_kindOf_4 : decode cX11_kindOf 4 = .ok (.aload_n 0, 1) := by decide +kernel
theorem dX11_kindOf_5 : decode cX11_kindOf 5 = .ok (.getfield 18, 3) := by decide +kernel
theorem dX11_kindOf_8 : decode cX11_kindOf 8 = .ok (.aload_n 0, 1) := by decide +kernel
theorem dX11_kindOf_9 : decode cX11_kindOf 9 = .ok (.getfield 24, 3) := by decide +kernel
theorem dX11_kindOf_12 : decode cX11_kindOf 12 = .ok (.iload_n 1, 1) := by decide +kernel
theorem dX11_kindOf_13 : decode cX11_kindOf 13 = .ok (.aaload, 1) := by decide +kernel
theorem dX11_kindOf_14 : decode cX11_kindOf 14 = .ok (.invokevirtual 162, 3) := by decide +kernel
theorem dX11_kindOf_17 : decode cX11_kindOf 17 = .ok (.aload_n 0, 1) := by decide +kernel
theorem dX11_kindOf_18 : decode cX11_kindOf 18 = .ok (.getfield 18, 3) := by decide +kernel
theorem dX11_kindOf_21 : decode cX11_kindOf 21 = .ok (.aload_n 0, 1) := by decide +kernel
theorem dX11_kindOf_22 : decode cX11_kindOf 22 = .ok (.getfield 35, 3) := by decide +kernel
theorem dX11_kindOf_25 : decode cX11_kindOf 25 = .ok (.invokevirtual 230, 3) := by decide +kernel
theorem dX11_kindOf_28 : decode cX11_kindOf 28 = .ok (.ifCond .ne 5, 3) := by decide +kernel
theorem dX11_kindOf_31 : decode cX11_kindOf 31 = .ok (.iconst 3, 1) := by decide +kernel
theorem dX11_kindOf_32 : decode cX11_kindOf 32 = .ok (.ireturn, 1) := by decide +kernel
theorem dX11_kindOf_33 : decode cX11_kindOf 33 = .ok (.aload_n 0, 1) := by decide +kernel
theorem dX11_kindOf_34 : decode cX11_kindOf 34 = .ok (.getfield 35, 3) := by decide +kernel
theorem dX11_kindOf_37 : decode cX11_kindOf 37 = .ok (.getfield 186, 3) := by decide +kernel
theorem dX11_kindOf_40 : decode cX11_kindOf 40 = .ok (.aload_n 0, 1) := by decide +kernel
theorem dX11_kindOf_41 : decode cX11_kindOf 41 = .ok (.getfield 18, 3) := by decide +kernel
theorem dX11_kindOf_44 : decode cX11_kindOf 44 = .ok (.getfield 145, 3) := by decide +kernel
theorem dX11_kindOf_47 : decode cX11_kindOf 47 = .ok (.iconst 4, 1) := by decide +kernel
theorem dX11_kindOf_48 : decode cX11_kindOf 48 = .ok (.iaload, 1) := by decide +kernel
theorem dX11_kindOf_49 : decode cX11_kindOf 49 = .ok (.if_icmp .gt 7, 3) := by decide +kernel
theorem dX11_kindOf_52 : decode cX11_kindOf 52 = .ok (.iconst 2, 1) := by decide +kernel
theorem dX11_kindOf_53 : decode cX11_kindOf 53 = .ok (.goto 4, 3) := by decide +kernel
theorem dX11_kindOf_56 : decode cX11_kindOf 56 = .ok (.iconst 1, 1) := by decide +kernel
theorem dX11_kindOf_57 : decode cX11_kindOf 57 = .ok (.ireturn, 1) := by decide +kernel
theorem dX11_thingsToldAs_0 : decode cX11_thingsToldAs 0 = .ok (.iconst 0, 1) := by decide +kernel
theorem dX11_thingsToldAs_1 : decode cX11_thingsToldAs 1 = .ok (.istore_n 2, 1) := by decide +kernel
theorem dX11_thingsToldAs_2 : decode cX11_thingsToldAs 2 = .ok (.iconst 0, 1) := by decide +kernel
theorem dX11_thingsToldAs_3 : decode cX11_thingsToldAs 3 = .ok (.istore_n 3, 1) := by decide +kernel
theorem dX11_thingsToldAs_4 : decode cX11_thingsToldAs 4 = .ok (.iload_n 3, 1) := by decide +kernel
theorem dX11_thingsToldAs_5 : decode cX11_thingsToldAs 5 = .ok (.aload_n 0, 1) := by decide +kernel
theorem dX11_thingsToldAs_6 : decode cX11_thingsToldAs 6 = .ok (.getfield 28, 3) := by decide +kernel
theorem dX11_thingsToldAs_9 : decode cX11_thingsToldAs 9 = .ok (.if_icmp .ge 21, 3) := by decide +kernel
theorem dX11_thingsToldAs_12 : decode cX11_thingsToldAs 12 = .ok (.aload_n 0, 1) := by decide +kernel
theorem dX11_thingsToldAs_13 : decode cX11_thingsToldAs 13 = .ok (.iload_n 3, 1) := by decide +kernel
theorem dX11_thingsToldAs_14 : decode cX11_thingsToldAs 14 = .ok (.invokevirtual 349, 3) := by decide +kernel
theorem dX11_thingsToldAs_17 : decode cX11_thingsToldAs 17 = .ok (.iload_n 1, 1) := by decide +kernel
theorem dX11_thingsToldAs_18 : decode cX11_thingsToldAs 18 = .ok (.if_icmp .ne 6, 3) := by decide +kernel
theorem dX11_thingsToldAs_21 : decode cX11_thingsToldAs 21 = .ok (.iinc 2 1, 3) := by decide +kernel
theorem dX11_thingsToldAs_24 : decode cX11_thingsToldAs 24 = .ok (.iinc 3 1, 3) := by decide +kernel
theorem dX11_thingsToldAs_27 : decode cX11_thingsToldAs 27 = .ok (.goto (-23), 3) := by decide +kernel
theorem dX11_thingsToldAs_30 : decode cX11_thingsToldAs 30 = .ok (.iload_n 2, 1) := by decide +kernel
theorem dX11_thingsToldAs_31 : decode cX11_thingsToldAs 31 = .ok (.ireturn, 1) := by decide +kernel
theorem dX11_sheetsLaid_0 : decode cX11_sheetsLaid 0 = .ok (.iconst 0, 1) := by decide +kernel
theorem dX11_sheetsLaid_1 : decode cX11_sheetsLaid 1 = .ok (.istore_n 1, 1) := by decide +kernel
theorem dX11_sheetsLaid_2 : decode cX11_sheetsLaid 2 = .ok (.iconst 0, 1) := by decide +kernel
theorem dX11_sheetsLaid_3 : decode cX11_sheetsLaid 3 = .ok (.istore_n 2, 1) := by decide +kernel
theorem dX11_sheetsLaid_4 : decode cX11_sheetsLaid 4 = .ok (.iload_n 2, 1) := by decide +kernel
theorem dX11_sheetsLaid_5 : decode cX11_sheetsLaid 5 = .ok (.bipush 8, 2) := by decide +kernel
theorem dX11_sheetsLaid_7 : decode cX11_sheetsLaid 7 = .ok (.if_icmp .ge 24, 3) := by decide +kernel
theorem dX11_sheetsLaid_10 : decode cX11_sheetsLaid 10 = .ok (.aload_n 0, 1) := by decide +kernel
theorem dX11_sheetsLaid_11 : decode cX11_sheetsLaid 11 = .ok (.getfield 11, 3) := by decide +kernel
theorem dX11_sheetsLaid_14 : decode cX11_sheetsLaid 14 = .ok (.iload_n 2, 1) := by decide +kernel
theorem dX11_sheetsLaid_15 : decode cX11_sheetsLaid 15 = .ok (.aaload, 1) := by decide +kernel
theorem dX11_sheetsLaid_16 : decode cX11_sheetsLaid 16 = .ok (.invokevirtual 110, 3) := by decide +kernel
theorem dX11_sheetsLaid_19 : decode cX11_sheetsLaid 19 = .ok (.ifCond .ne 6, 3) := by decide +kernel
theorem dX11_sheetsLaid_22 : decode cX11_sheetsLaid 22 = .ok (.iinc 1 1, 3) := by decide +kernel
theorem dX11_sheetsLaid_25 : decode cX11_sheetsLaid 25 = .ok (.iinc 2 1, 3) := by decide +kernel
theorem dX11_sheetsLaid_28 : decode cX11_sheetsLaid 28 = .ok (.goto (-24), 3) := by decide +kernel
theorem dX11_sheetsLaid_31 : decode cX11_sheetsLaid 31 = .ok (.iload_n 1, 1) := by decide +kernel
theorem dX11_sheetsLaid_32 : decode cX11_sheetsLaid 32 = .ok (.ireturn, 1) := by decide +kernel
theorem dX11_marksOnPaper_0 : decode cX11_marksOnPaper 0 = .ok (.iconst 0, 1) := by decide +kernel
theorem dX11_marksOnPaper_1 : decode cX11_marksOnPaper 1 = .ok (.istore_n 1, 1) := by decide +kernel
theorem dX11_marksOnPaper_2 : decode cX11_marksOnPaper 2 = .ok (.iconst 0, 1) := by decide +kernel
theorem dX11_marksOnPaper_3 : decode cX11_marksOnPaper 3 = .ok (.istore_n 2, 1) := by decide +kernel
theorem dX11_marksOnPaper_4 : decode cX11_marksOnPaper 4 = .ok (.iload_n 2, 1) := by decide +kernel
theorem dX11_marksOnPaper_5 : decode cX11_marksOnPaper 5 = .ok (.bipush 8, 2) := by decide +kernel
theorem dX11_marksOnPaper_7 : decode cX11_marksOnPaper 7 = .ok (.if_icmp .ge 21, 3) := by decide +kernel
theorem dX11_marksOnPaper_10 : decode cX11_marksOnPaper 10 = .ok (.iload_n 1, 1) := by decide +kernel
theorem dX11_marksOnPaper_11 : decode cX11_marksOnPaper 11 = .ok (.aload_n 0, 1) := by decide +kernel
theorem dX11_marksOnPaper_12 : decode cX11_marksOnPaper 12 = .ok (.getfield 41, 3) := by decide +kernel
theorem dX11_marksOnPaper_15 : decode cX11_marksOnPaper 15 = .ok (.iload_n 2, 1) := by decide +kernel
theorem dX11_marksOnPaper_16 : decode cX11_marksOnPaper 16 = .ok (.aaload, 1) := by decide +kernel
theorem dX11_marksOnPaper_17 : decode cX11_marksOnPaper 17 = .ok (.invokevirtual 234, 3) := by decide +kernel
theorem dX11_marksOnPaper_20 : decode cX11_marksOnPaper 20 = .ok (.iadd, 1) := by decide +kernel
theorem dX11_marksOnPaper_21 : decode cX11_marksOnPaper 21 = .ok (.istore_n 1, 1) := by decide +kernel
theorem dX11_marksOnPaper_22 : decode cX11_marksOnPaper 22 = .ok (.iinc 2 1, 3) := by decide +kernel
theorem dX11_marksOnPaper_25 : decode cX11_marksOnPaper 25 = .ok (.goto (-21), 3) := by decide +kernel
theorem dX11_marksOnPaper_28 : decode cX11_marksOnPaper 28 = .ok (.iload_n 1, 1) := by decide +kernel
theorem dX11_marksOnPaper_29 : decode cX11_marksOnPaper 29 = .ok (.ireturn, 1) := by decide +kernel
theorem dX11_tracesMarked_0 : decode cX11_tracesMarked 0 = .ok (.iconst 0, 1) := by decide +kernel
theorem dX11_tracesMarked_1 : decode cX11_tracesMarked 1 = .ok (.istore_n 1, 1) := by decide +kernel
theorem dX11_tracesMarked_2 : decode cX11_tracesMarked 2 = .ok (.iconst 0, 1) := by decide +kernel
theorem dX11_tracesMarked_3 : decode cX11_tracesMarked 3 = .ok (.istore_n 2, 1) := by decide +kernel
theorem dX11_tracesMarked_4 : decode cX11_tracesMarked 4 = .ok (.iload_n 2, 1) := by decide +kernel
theorem dX11_tracesMarked_5 : decode cX11_tracesMarked 5 = .ok (.bipush 8, 2) := by decide +kernel
theorem dX11_tracesMarked_7 : decode cX11_tracesMarked 7 = .ok (.if_icmp .ge 24, 3) := by decide +kernel
theorem dX11_tracesMarked_10 : decode cX11_tracesMarked 10 = .ok (.aload_n 0, 1) := by decide +kernel
theorem dX11_tracesMarked_11 : decode cX11_tracesMarked 11 = .ok (.getfield 41, 3) := by decide +kernel
theorem dX11_tracesMarked_14 : decode cX11_tracesMarked 14 = .ok (.iload_n 2, 1) := by decide +kernel
theorem dX11_tracesMarked_15 : decode cX11_tracesMarked 15 = .ok (.aaload, 1) := by decide +kernel
theorem dX11_tracesMarked_16 : decode cX11_tracesMarked 16 = .ok (.invokevirtual 234, 3) := by decide +kernel
theorem dX11_tracesMarked_19 : decode cX11_tracesMarked 19 = .ok (.ifCond .le 6, 3) := by decide +kernel
theorem dX11_tracesMarked_22 : decode cX11_tracesMarked 22 = .ok (.iinc 1 1, 3) := by decide +kernel
theorem dX11_tracesMarked_25 : decode cX11_tracesMarked 25 = .ok (.iinc 2 1, 3) := by decide +kernel
theorem dX11_tracesMarked_28 : decode cX11_tracesMarked 28 = .ok (.goto (-24), 3) := by decide +kernel
theorem dX11_tracesMarked_31 : decode cX11_tracesMarked 31 = .ok (.iload_n 1, 1) := by decide +kernel
theorem dX11_tracesMarked_32 : decode cX11_tracesMarked 32 = .ok (.ireturn, 1) := by decide +kernel
theorem dX11_closed_0 : decode cX11_closed 0 = .ok (.aload_n 0, 1) := by decide +kernel
theorem dX11_closed_1 : decode cX11_closed 1 = .ok (.iload_n 1, 1) := by decide +kernel
theorem dX11_closed_2 : decode cX11_closed 2 = .ok (.iaload, 1) := by decide +kernel
theorem dX11_closed_3 : decode cX11_closed 3 = .ok (.aload_n 0, 1) := by decide +kernel
theorem dX11_closed_4 : decode cX11_closed 4 = .ok (.iload_n 2, 1) := by decide +kernel
theorem dX11_closed_5 : decode cX11_closed 5 = .ok (.iaload, 1) := by decide +kernel
theorem dX11_closed_6 : decode cX11_closed 6 = .ok (.iload_n 1, 1) := by decide +kernel
theorem dX11_closed_7 : decode cX11_closed 7 = .ok (.imul, 1) := by decide +kernel
theorem dX11_closed_8 : decode cX11_closed 8 = .ok (.iload_n 2, 1) := by decide +kernel
theorem dX11_closed_9 : decode cX11_closed 9 = .ok (.invokestatic 272, 3) := by decide +kernel
theorem dX11_closed_12 : decode cX11_closed 12 = .ok (.isub, 1) := by decide +kernel
theorem dX11_closed_13 : decode cX11_closed 13 = .ok (.ireturn, 1) := by decide +kernel
theorem dX11_areStudiosTold_0 : decode cX11_areStudiosTold 0 = .ok (.iload_n 0, 1) := by decide +kernel
theorem dX11_areStudiosTold_1 : decode cX11_areStudiosTold 1 = .ok (.invokestatic 213, 3) := by decide +kernel
theorem dX11_areStudiosTold_4 : decode cX11_areStudiosTold 4 = .ok (.ifCond .eq 34, 3) := by decide +kernel
theorem dX11_areStudiosTold_7 : decode cX11_areStudiosTold 7 = .ok (.iload_n 1, 1) := by decide +kernel
theorem dX11_areStudiosTold_8 : decode cX11_areStudiosTold 8 = .ok (.invokestatic 90, 3) := by decide +kernel
theorem dX11_areStudiosTold_11 : decode cX11_areStudiosTold 11 = .ok (.ifCond .eq 27, 3) := by decide +kernel
theorem dX11_areStudiosTold_14 : decode cX11_areStudiosTold 14 = .ok (.iload_n 2, 1) := by decide +kernel
theorem dX11_areStudiosTold_15 : decode cX11_areStudiosTold 15 = .ok (.iconst 1, 1) := by decide +kernel
theorem dX11_areStudiosTold_16 : decode cX11_areStudiosTold 16 = .ok (.bipush 20, 2) := by decide +kernel
theorem dX11_areStudiosTold_18 : decode cX11_areStudiosTold 18 = .ok (.invokestatic 94, 3) := by decide +kernel
theorem dX11_areStudiosTold_21 : decode cX11_areStudiosTold 21 = .ok (.ifCond .eq 17, 3) := by decide +kernel
theorem dX11_areStudiosTold_24 : decode cX11_areStudiosTold 24 = .ok (.iload_n 3, 1) := by decide +kernel
theorem dX11_areStudiosTold_25 : decode cX11_areStudiosTold 25 = .ok (.iconst 0, 1) := by decide +kernel
theorem dX11_areStudiosTold_26 : decode cX11_areStudiosTold 26 = .ok (.bipush 20, 2) := by decide +kernel
theorem dX11_areStudiosTold_28 : decode cX11_areStudiosTold 28 = .ok (.invokestatic 94, 3) := by decide +kernel
theorem dX11_areStudiosTold_31 : decode cX11_areStudiosTold 31 = .ok (.ifCond .eq 7, 3) := by decide +kernel
theorem dX11_areStudiosTold_34 : decode cX11_areStudiosTold 34 = .ok (.iconst 1, 1) := by decide +kernel
theorem dX11_areStudiosTold_35 : decode cX11_areStudiosTold 35 = .ok (.goto 4, 3) := by decide +kernel
theorem dX11_areStudiosTold_38 : decode cX11_areStudiosTold 38 = .ok (.iconst 0, 1) := by decide +kernel
theorem dX11_areStudiosTold_39 : decode cX11_areStudiosTold 39 = .ok (.ireturn, 1) := by decide +kernel
theorem dX11_studiosRefusal_0 : decode cX11_studiosRefusal 0 = .ok (.aload_n 0, 1) := by decide +kernel
theorem dX11_studiosRefusal_1 : decode cX11_studiosRefusal 1 = .ok (.getfield 11, 3) := by decide +kernel
theorem dX11_studiosRefusal_4 : decode cX11_studiosRefusal 4 = .ok (.iload_n 1, 1) := by decide +kernel
theorem dX11_studiosRefusal_5 : decode cX11_studiosRefusal 5 = .ok (.aaload, 1) := by decide +kernel
theorem dX11_studiosRefusal_6 : decode cX11_studiosRefusal 6 = .ok (.invokevirtual 110, 3) := by decide +kernel
theorem dX11_studiosRefusal_9 : decode cX11_studiosRefusal 9 = .ok (.ifCond .eq 9, 3) := by decide +kernel
theorem dX11_studiosRefusal_12 : decode cX11_studiosRefusal 12 = .ok (.aload_n 0, 1) := by decide +kernel
theorem dX11_studiosRefusal_13 : decode cX11_studiosRefusal 13 = .ok (.iconst 1, 1) := by decide +kernel
theorem dX11_studiosRefusal_14 : decode cX11_studiosRefusal 14 = .ok (.invokevirtual 99, 3) := by decide +kernel
theorem dX11_studiosRefusal_17 : decode cX11_studiosRefusal 17 = .ok (.ireturn, 1) := by decide +kernel
theorem dX11_studiosRefusal_18 : decode cX11_studiosRefusal 18 = .ok (.aload_n 0, 1) := by decide +kernel
theorem dX11_studiosRefusal_19 : decode cX11_studiosRefusal 19 = .ok (.getfield 11, 3) := by decide +kernel
theorem dX11_studiosRefusal_22 : decode cX11_studiosRefusal 22 = .ok (.iload_n 1, 1) := by decide +kernel
theorem dX11_studiosRefusal_23 : decode cX11_studiosRefusal 23 = .ok (.aaload, 1) := by decide +kernel
theorem dX11_studiosRefusal_24 : decode cX11_studiosRefusal 24 = .ok (.iload_n 2, 1) := by decide +kernel
theorem dX11_studiosRefusal_25 : decode cX11_studiosRefusal 25 = .ok (.iload_n 3, 1) := by decide +kernel
theorem dX11_studiosRefusal_26 : decode cX11_studiosRefusal 26 = .ok (.iconst 4, 1) := by decide +kernel
theorem dX11_studiosRefusal_27 : decode cX11_studiosRefusal 27 = .ok (.imul, 1) := by decide +kernel
theorem dX11_studiosRefusal_28 : decode cX11_studiosRefusal 28 = .ok (.invokevirtual 114, 3) := by decide +kernel
theorem dX11_studiosRefusal_31 : decode cX11_studiosRefusal 31 = .ok (.ifCond .ne 9, 3) := by decide +kernel
theorem dX11_studiosRefusal_34 : decode cX11_studiosRefusal 34 = .ok (.aload_n 0, 1) := by decide +kernel
theorem dX11_studiosRefusal_35 : decode cX11_studiosRefusal 35 = .ok (.iconst 2, 1) := by decide +kernel
theorem dX11_studiosRefusal_36 : decode cX11_studiosRefusal 36 = .ok (.invokevirtual 99, 3) := by decide +kernel
theorem dX11_studiosRefusal_39 : decode cX11_studiosRefusal 39 = .ok (.ireturn, 1) := by decide +kernel
theorem dX11_studiosRefusal_40 : decode cX11_studiosRefusal 40 = .ok (.aload_n 0, 1) := by decide +kernel
theorem dX11_studiosRefusal_41 : decode cX11_studiosRefusal 41 = .ok (.iload_n 1, 1) := by decide +kernel
theorem dX11_studiosRefusal_42 : decode cX11_studiosRefusal 42 = .ok (.iload_n 2, 1) := by decide +kernel
theorem dX11_studiosRefusal_43 : decode cX11_studiosRefusal 43 = .ok (.iload_n 3, 1) := by decide +kernel
theorem dX11_studiosRefusal_44 : decode cX11_studiosRefusal 44 = .ok (.invokevirtual 380, 3) := by decide +kernel
theorem dX11_studiosRefusal_47 : decode cX11_studiosRefusal 47 = .ok (.ifCond .eq 7, 3) := by decide +kernel
theorem dX11_studiosRefusal_50 : decode cX11_studiosRefusal 50 = .ok (.iconst 0, 1) := by decide +kernel
theorem dX11_studiosRefusal_51 : decode cX11_studiosRefusal 51 = .ok (.goto 5, 3) := by decide +kernel
theorem dX11_studiosRefusal_54 : decode cX11_studiosRefusal 54 = .ok (.ldc 98, 2) := by decide +kernel
theorem dX11_studiosRefusal_56 : decode cX11_studiosRefusal 56 = .ok (.ireturn, 1) := by decide +kernel
theorem dX11_areStudios_0 : decode cX11_areStudios 0 = .ok (.iconst 0, 1) := by decide +kernel
theorem dX11_areStudios_1 : decode cX11_areStudios 1 = .ok (.istore 4, 2) := by decide +kernel
theorem dX11_areStudios_3 : decode cX11_areStudios 3 = .ok (.iload 4, 2) := by decide +kernel
theorem dX11_areStudios_5 : decode cX11_areStudios 5 = .ok (.iload_n 3, 1) := by decide +kernel
theorem dX11_areStudios_6 : decode cX11_areStudios 6 = .ok (.if_icmp .ge 53, 3) := by decide +kernel
theorem dX11_areStudios_9 : decode cX11_areStudios 9 = .ok (.aload_n 0, 1) := by decide +kernel
theorem dX11_areStudios_10 : decode cX11_areStudios 10 = .ok (.iload_n 1, 1) := by decide +kernel
theorem dX11_areStudios_11 : decode cX11_areStudios 11 = .ok (.iload_n 2, 1) := by decide +kernel
theorem dX11_areStudios_12 : decode cX11_areStudios 12 = .ok (.iload 4, 2) := by decide +kernel
theorem dX11_areStudios_14 : decode cX11_areStudios 14 = .ok (.invokevirtual 318, 3) := by decide +kernel
theorem dX11_areStudios_17 : decode cX11_areStudios 17 = .ok (.aload_n 0, 1) := by decide +kernel
theorem dX11_areStudios_18 : decode cX11_areStudios 18 = .ok (.getfield 73, 3) := by decide +kernel
theorem dX11_areStudios_21 : decode cX11_areStudios 21 = .ok (.getfield 383, 3) := by decide +kernel
theorem dX11_areStudios_24 : decode cX11_areStudios 24 = .ok (.aload_n 0, 1) := by decide +kernel
theorem dX11_areStudios_25 : decode cX11_areStudios 25 = .ok (.getfield 73, 3) := by decide +kernel
theorem dX11_areStudios_28 : decode cX11_areStudios 28 = .ok (.getfield 386, 3) := by decide +kernel
theorem dX11_areStudios_31 : decode cX11_areStudios 31 = .ok (.aload_n 0, 1) := by decide +kernel
theorem dX11_areStudios_32 : decode cX11_areStudios 32 = .ok (.getfield 73, 3) := by decide +kernel
theorem dX11_areStudios_35 : decode cX11_areStudios 35 = .ok (.getfield 389, 3) := by decide +kernel
theorem dX11_areStudios_38 : decode cX11_areStudios 38 = .ok (.aload_n 0, 1) := by decide +kernel
theorem dX11_areStudios_39 : decode cX11_areStudios 39 = .ok (.getfield 73, 3) := by decide +kernel
theorem dX11_areStudios_42 : decode cX11_areStudios 42 = .ok (.getfield 392, 3) := by decide +kernel
theorem dX11_areStudios_45 : decode cX11_areStudios 45 = .ok (.invokestatic 275, 3) := by decide +kernel
theorem dX11_areStudios_48 : decode cX11_areStudios 48 = .ok (.ifCond .ne 5, 3) := by decide +kernel
theorem dX11_areStudios_51 : decode cX11_areStudios 51 = .ok (.iconst 0, 1) := by decide +kernel
theorem dX11_areStudios_52 : decode cX11_areStudios 52 = .ok (.ireturn, 1) := by decide +kernel
theorem dX11_areStudios_53 : decode cX11_areStudios 53 = .ok (.iinc 4 1, 3) := by decide +kernel
theorem dX11_areStudios_56 : decode cX11_areStudios 56 = .ok (.goto (-53), 3) := by decide +kernel
theorem dX11_areStudios_59 : decode cX11_areStudios 59 = .ok (.iconst 1, 1) := by decide +kernel
theorem dX11_areStudios_60 : decode cX11_areStudios 60 = .ok (.ireturn, 1) := by decide +kernel
theorem dX11_readStudio_0 : decode cX11_readStudio 0 = .ok (.aload_n 0, 1) := by decide +kernel
theorem dX11_readStudio_1 : decode cX11_readStudio 1 = .ok (.getfield 11, 3) := by decide +kernel
theorem dX11_readStudio_4 : decode cX11_readStudio 4 = .ok (.iload_n 1, 1) := by decide +kernel
theorem dX11_readStudio_5 : decode cX11_readStudio 5 = .ok (.aaload, 1) := by decide +kernel
theorem dX11_readStudio_6 : decode cX11_readStudio 6 = .ok (.getfield 125, 3) := by decide +kernel
theorem dX11_readStudio_9 : decode cX11_readStudio 9 = .ok (.astore 4, 2) := by decide +kernel
theorem dX11_readStudio_11 : decode cX11_readStudio 11 = .ok (.iload_n 2, 1) := by decide +kernel
theorem dX11_readStudio_12 : decode cX11_readStudio 12 = .ok (.iload_n 3, 1) := by decide +kernel
theorem dX11_readStudio_13 : decode cX11_readStudio 13 = .ok (.iconst 4, 1) := by decide +kernel
theorem dX11_readStudio_14 : decode cX11_readStudio 14 = .ok (.imul, 1) := by decide +kernel
theorem dX11_readStudio_15 : decode cX11_readStudio 15 = .ok (.iadd, 1) := by decide +kernel
theorem dX11_readStudio_16 : decode cX11_readStudio 16 = .ok (.istore 5, 2) := by decide +kernel
theorem dX11_readStudio_18 : decode cX11_readStudio 18 = .ok (.aload_n 0, 1) := by decide +kernel
theorem dX11_readStudio_19 : decode cX11_readStudio 19 = .ok (.getfield 73, 3) := by decide +kernel
theorem dX11_readStudio_22 : decode cX11_readStudio 22 = .ok (.aload 4, 2) := by decide +kernel
theorem dX11_readStudio_24 : decode cX11_readStudio 24 = .ok (.iload 5, 2) := by decide +kernel
theorem dX11_readStudio_26 : decode cX11_readStudio 26 = .ok (.iaload, 1) := by decide +kernel
theorem dX11_readStudio_27 : decode cX11_readStudio 27 = .ok (.aload 4, 2) := by decide +kernel
theorem dX11_readStudio_29 : decode cX11_readStudio 29 = .ok (.iload 5, 2) := by decide +kernel
theorem dX11_readStudio_31 : decode cX11_readStudio 31 = .ok (.iconst 1, 1) := by decide +kernel
theorem dX11_readStudio_32 : decode cX11_readStudio 32 = .ok (.iadd, 1) := by decide +kernel
theorem dX11_readStudio_33 : decode cX11_readStudio 33 = .ok (.iaload, 1) := by decide +kernel
theorem dX11_readStudio_34 : decode cX11_readStudio 34 = .ok (.aload 4, 2) := by decide +kernel
theorem dX11_readStudio_36 : decode cX11_readStudio 36 = .ok (.iload 5, 2) := by decide +kernel
theorem dX11_readStudio_38 : decode cX11_readStudio 38 = .ok (.iconst 2, 1) := by decide +kernel
theorem dX11_readStudio_39 : decode cX11_readStudio 39 = .ok (.iadd, 1) := by decide +kernel
theorem dX11_readStudio_40 : decode cX11_readStudio 40 = .ok (.iaload, 1) := by decide +kernel
theorem dX11_readStudio_41 : decode cX11_readStudio 41 = .ok (.aload 4, 2) := by decide +kernel
theorem dX11_readStudio_43 : decode cX11_readStudio 43 = .ok (.iload 5, 2) := by decide +kernel
theorem dX11_readStudio_45 : decode cX11_readStudio 45 = .ok (.iconst 3, 1) := by decide +kernel
theorem dX11_readStudio_46 : decode cX11_readStudio 46 = .ok (.iadd, 1) := by decide +kernel
theorem dX11_readStudio_47 : decode cX11_readStudio 47 = .ok (.iaload, 1) := by decide +kernel
theorem dX11_readStudio_48 : decode cX11_readStudio 48 = .ok (.invokevirtual 279, 3) := by decide +kernel
theorem dX11_readStudio_51 : decode cX11_readStudio 51 = .ok (.return_, 1) := by decide +kernel
theorem dX11_painterMisfit_0 : decode cX11_painterMisfit 0 = .ok (.iconst 0, 1) := by decide +kernel
theorem dX11_painterMisfit_1 : decode cX11_painterMisfit 1 = .ok (.istore_n 2, 1) := by decide +kernel
theorem dX11_painterMisfit_2 : decode cX11_painterMisfit 2 = .ok (.iconst 0, 1) := by decide +kernel
theorem dX11_painterMisfit_3 : decode cX11_painterMisfit 3 = .ok (.istore_n 3, 1) := by decide +kernel
theorem dX11_painterMisfit_4 : decode cX11_painterMisfit 4 = .ok (.iload_n 3, 1) := by decide +kernel
theorem dX11_painterMisfit_5 : decode cX11_painterMisfit 5 = .ok (.aload_n 0, 1) := by decide +kernel
theorem dX11_painterMisfit_6 : decode cX11_painterMisfit 6 = .ok (.getfield 28, 3) := by decide +kernel
theorem dX11_painterMisfit_9 : decode cX11_painterMisfit 9 = .ok (.if_icmp .ge 49, 3) := by decide +kernel
theorem dX11_painterMisfit_12 : decode cX11_painterMisfit 12 = .ok (.aload_n 1, 1) := by decide +kernel
theorem dX11_painterMisfit_13 : decode cX11_painterMisfit 13 = .ok (.getfield 222, 3) := by decide +kernel
theorem dX11_painterMisfit_16 : decode cX11_painterMisfit 16 = .ok (.iload_n 3, 1) := by decide +kernel
theorem dX11_painterMisfit_17 : decode cX11_painterMisfit 17 = .ok (.baload, 1) := by decide +kernel
theorem dX11_painterMisfit_18 : decode cX11_painterMisfit 18 = .ok (.ifCond .eq 34, 3) := by decide +kernel
theorem dX11_painterMisfit_21 : decode cX11_painterMisfit 21 = .ok (.iload_n 2, 1) := by decide +kernel
theorem dX11_painterMisfit_22 : decode cX11_painterMisfit 22 = .ok (.aload_n 0, 1) := by decide +kernel
theorem dX11_painterMisfit_23 : decode cX11_painterMisfit 23 = .ok (.getfield 73, 3) := by decide +kernel
theorem dX11_painterMisfit_26 : decode cX11_painterMisfit 26 = .ok (.aload_n 0, 1) := by decide +kernel
theorem dX11_painterMisfit_27 : decode cX11_painterMisfit 27 = .ok (.getfield 24, 3) := by decide +kernel
theorem dX11_painterMisfit_30 : decode cX11_painterMisfit 30 = .ok (.iload_n 3, 1) := by decide +kernel
theorem dX11_painterMisfit_31 : decode cX11_painterMisfit 31 = .ok (.aaload, 1) := by decide +kernel
theorem dX11_painterMisfit_32 : decode cX11_painterMisfit 32 = .ok (.invokevirtual 395, 3) := by decide +kernel
theorem dX11_painterMisfit_35 : decode cX11_painterMisfit 35 = .ok (.ifCond .eq 12, 3) := by decide +kernel
theorem dX11_painterMisfit_38 : decode cX11_painterMisfit 38 = .ok (.aload_n 0, 1) := by decide +kernel
theorem dX11_painterMisfit_39 : decode cX11_painterMisfit 39 = .ok (.aload_n 1, 1) := by decide +kernel
theorem dX11_painterMisfit_40 : decode cX11_painterMisfit 40 = .ok (.iload_n 3, 1) := by decide +kernel
theorem dX11_painterMisfit_41 : decode cX11_painterMisfit 41 = .ok (.invokevirtual 399, 3) := by decide +kernel
theorem dX11_painterMisfit_44 : decode cX11_painterMisfit 44 = .ok (.goto 6, 3) := by decide +kernel
theorem dX11_painterMisfit_47 : decode cX11_painterMisfit 47 = .ok (.sipush 1000, 3) := by decide +kernel
theorem dX11_painterMisfit_50 : decode cX11_painterMisfit 50 = .ok (.iadd, 1) := by decide +kernel
theorem dX11_painterMisfit_51 : decode cX11_painterMisfit 51 = .ok (.istore_n 2, 1) := by decide +kernel
theorem dX11_painterMisfit_52 : decode cX11_painterMisfit 52 = .ok (.iinc 3 1, 3) := by decide +kernel
theorem dX11_painterMisfit_55 : decode cX11_painterMisfit 55 = .ok (.goto (-51), 3) := by decide +kernel
theorem dX11_painterMisfit_58 : decode cX11_painterMisfit 58 = .ok (.iload_n 2, 1) := by decide +kernel
theorem dX11_painterMisfit_59 : decode cX11_painterMisfit 59 = .ok (.ireturn, 1) := by decide +kernel
theorem dX11_painterApart_0 : decode cX11_painterApart 0 = .ok (.aload_n 1, 1) := by decide +kernel
theorem dX11_painterApart_1 : decode cX11_painterApart 1 = .ok (.getfield 238, 3) := by decide +kernel
theorem dX11_painterApart_4 : decode cX11_painterApart 4 = .ok (.iload_n 2, 1) := by decide +kernel
theorem dX11_painterApart_5 : decode cX11_painterApart 5 = .ok (.iaload, 1) := by decide +kernel
theorem dX11_painterApart_6 : decode cX11_painterApart 6 = .ok (.aload_n 0, 1) := by decide +kernel
theorem dX11_painterApart_7 : decode cX11_painterApart 7 = .ok (.getfield 73, 3) := by decide +kernel
theorem dX11_painterApart_10 : decode cX11_painterApart 10 = .ok (.aload_n 0, 1) := by decide +kernel
theorem dX11_painterApart_11 : decode cX11_painterApart 11 = .ok (.getfield 24, 3) := by decide +kernel
theorem dX11_painterApart_14 : decode cX11_painterApart 14 = .ok (.iload_n 2, 1) := by decide +kernel
theorem dX11_painterApart_15 : decode cX11_painterApart 15 = .ok (.aaload, 1) := by decide +kernel
theorem dX11_painterApart_16 : decode cX11_painterApart 16 = .ok (.invokevirtual 403, 3) := by decide +kernel
theorem dX11_painterApart_19 : decode cX11_painterApart 19 = .ok (.isub, 1) := by decide +kernel
theorem dX11_painterApart_20 : decode cX11_painterApart 20 = .ok (.invokestatic 405, 3) := by decide +kernel
theorem dX11_painterApart_23 : decode cX11_painterApart 23 = .ok (.istore_n 3, 1) := by decide +kernel
theorem dX11_painterApart_24 : decode cX11_painterApart 24 = .ok (.aload_n 1, 1) := by decide +kernel
theorem dX11_painterApart_25 : decode cX11_painterApart 25 = .ok (.getfield 240, 3) := by decide +kernel
theorem dX11_painterApart_28 : decode cX11_painterApart 28 = .ok (.iload_n 2, 1) := by decide +kernel
theorem dX11_painterApart_29 : decode cX11_painterApart 29 = .ok (.iaload, 1) := by decide +kernel
theorem dX11_painterApart_30 : decode cX11_painterApart 30 = .ok (.aload_n 0, 1) := by decide +kernel
theorem dX11_painterApart_31 : decode cX11_painterApart 31 = .ok (.getfield 73, 3) := by decide +kernel
theorem dX11_painterApart_34 : decode cX11_painterApart 34 = .ok (.aload_n 0, 1) := by decide +kernel
theorem dX11_painterApart_35 : decode cX11_painterApart 35 = .ok (.getfield 24, 3) := by decide +kernel
theorem dX11_painterApart_38 : decode cX11_painterApart 38 = .ok (.iload_n 2, 1) := by decide +kernel
theorem dX11_painterApart_39 : decode cX11_painterApart 39 = .ok (.aaload, 1) := by decide +kernel
theorem dX11_painterApart_40 : decode cX11_painterApart 40 = .ok (.invokevirtual 408, 3) := by decide +kernel
theorem dX11_painterApart_43 : decode cX11_painterApart 43 = .ok (.isub, 1) := by decide +kernel
theorem dX11_painterApart_44 : decode cX11_painterApart 44 = .ok (.invokestatic 405, 3) := by decide +kernel
theorem dX11_painterApart_47 : decode cX11_painterApart 47 = .ok (.istore 4, 2) := by decide +kernel
theorem dX11_painterApart_49 : decode cX11_painterApart 49 = .ok (.iload_n 3, 1) := by decide +kernel
theorem dX11_painterApart_50 : decode cX11_painterApart 50 = .ok (.sipush 500, 3) := by decide +kernel
theorem dX11_painterApart_53 : decode cX11_painterApart 53 = .ok (.invokestatic 410, 3) := by decide +kernel
theorem dX11_painterApart_56 : decode cX11_painterApart 56 = .ok (.iload 4, 2) := by decide +kernel
theorem dX11_painterApart_58 : decode cX11_painterApart 58 = .ok (.sipush 500, 3) := by decide +kernel
theorem dX11_painterApart_61 : decode cX11_painterApart 61 = .ok (.invokestatic 410, 3) := by decide +kernel
theorem dX11_painterApart_64 : decode cX11_painterApart 64 = .ok (.iadd, 1) := by decide +kernel
theorem dX11_painterApart_65 : decode cX11_painterApart 65 = .ok (.ireturn, 1) := by decide +kernel
theorem dX11_isPainterNear_0 : decode cX11_isPainterNear 0 = .ok (.aload_n 0, 1) := by decide +kernel
theorem dX11_isPainterNear_1 : decode cX11_isPainterNear 1 = .ok (.getfield 73, 3) := by decide +kernel
theorem dX11_isPainterNear_4 : decode cX11_isPainterNear 4 = .ok (.aload_n 0, 1) := by decide +kernel
theorem dX11_isPainterNear_5 : decode cX11_isPainterNear 5 = .ok (.getfield 24, 3) := by decide +kernel
theorem dX11_isPainterNear_8 : decode cX11_isPainterNear 8 = .ok (.iload_n 2, 1) := by decide +kernel
theorem dX11_isPainterNear_9 : decode cX11_isPainterNear 9 = .ok (.aaload, 1) := by decide +kernel
theorem dX11_isPainterNear_10 : decode cX11_isPainterNear 10 = .ok (.invokevirtual 395, 3) := by decide +kernel
theorem dX11_isPainterNear_13 : decode cX11_isPainterNear 13 = .ok (.ifCond .eq 61, 3) := by decide +kernel
theorem dX11_isPainterNear_16 : decode cX11_isPainterNear 16 = .ok (.aload_n 1, 1) := by decide +kernel
theorem dX11_isPainterNear_17 : decode cX11_isPainterNear 17 = .ok (.getfield 238, 3) := by decide +kernel
theorem dX11_isPainterNear_20 : decode cX11_isPainterNear 20 = .ok (.iload_n 2, 1) := by decide +kernel
theorem dX11_isPainterNear_21 : decode cX11_isPainterNear 21 = .ok (.iaload, 1) := by decide +kernel
theorem dX11_isPainterNear_22 : decode cX11_isPainterNear 22 = .ok (.aload_n 0, 1) := by decide +kernel
theorem dX11_isPainterNear_23 : decode cX11_isPainterNear 23 = .ok (.getfield 73, 3) := by decide +kernel
theorem dX11_isPainterNear_26 : decode cX11_isPainterNear 26 = .ok (.aload_n 0, 1) := by decide +kernel
theorem dX11_isPainterNear_27 : decode cX11_isPainterNear 27 = .ok (.getfield 24, 3) := by decide +kernel
theorem dX11_isPainterNear_30 : decode cX11_isPainterNear 30 = .ok (.iload_n 2, 1) := by decide +kernel
theorem dX11_isPainterNear_31 : decode cX11_isPainterNear 31 = .ok (.aaload, 1) := by decide +kernel
theorem dX11_isPainterNear_32 : decode cX11_isPainterNear 32 = .ok (.invokevirtual 403, 3) := by decide +kernel
theorem dX11_isPainterNear_35 : decode cX11_isPainterNear 35 = .ok (.isub, 1) := by decide +kernel
theorem dX11_isPainterNear_36 : decode cX11_isPainterNear 36 = .ok (.invokestatic 405, 3) := by decide +kernel
theorem dX11_isPainterNear_39 : decode cX11_isPainterNear 39 = .ok (.iload_n 3, 1) := by decide +kernel
theorem dX11_isPainterNear_40 : decode cX11_isPainterNear 40 = .ok (.if_icmp .gt 34, 3) := by decide +kernel
theorem dX11_isPainterNear_43 : decode cX11_isPainterNear 43 = .ok (.aload_n 1, 1) := by decide +kernel
theorem dX11_isPainterNear_44 : decode cX11_isPainterNear 44 = .ok (.getfield 240, 3) := by decide +kernel
theorem dX11_isPainterNear_47 : decode cX11_isPainterNear 47 = .ok (.iload_n 2, 1) := by decide +kernel
theorem dX11_isPainterNear_48 : decode cX11_isPainterNear 48 = .ok (.iaload, 1) := by decide +kernel
theorem dX11_isPainterNear_49 : decode cX11_isPainterNear 49 = .ok (.aload_n 0, 1) := by decide +kernel
theorem dX11_isPainterNear_50 : decode cX11_isPainterNear 50 = .ok (.getfield 73, 3) := by decide +kernel
theorem dX11_isPainterNear_53 : decode cX11_isPainterNear 53 = .ok (.aload_n 0, 1) := by decide +kernel
theorem dX11_isPainterNear_54 : decode cX11_isPainterNear 54 = .ok (.getfield 24, 3) := by decide +kernel
theorem dX11_isPainterNear_57 : decode cX11_isPainterNear 57 = .ok (.iload_n 2, 1) := by decide +kernel
theorem dX11_isPainterNear_58 : decode cX11_isPainterNear 58 = .ok (.aaload, 1) := by decide +kernel
theorem dX11_isPainterNear_59 : decode cX11_isPainterNear 59 = .ok (.invokevirtual 408, 3) := by decide +kernel
theorem dX11_isPainterNear_62 : decode cX11_isPainterNear 62 = .ok (.isub, 1) := by decide +kernel
theorem dX11_isPainterNear_63 : decode cX11_isPainterNear 63 = .ok (.invokestatic 405, 3) := by decide +kernel
theorem dX11_isPainterNear_66 : decode cX11_isPainterNear 66 = .ok (.iload_n 3, 1) := by decide +kernel
theorem dX11_isPainterNear_67 : decode cX11_isPainterNear 67 = .ok (.if_icmp .gt 7, 3) := by decide +kernel
theorem dX11_isPainterNear_70 : decode cX11_isPainterNear 70 = .ok (.iconst 1, 1) := by decide +kernel
theorem dX11_isPainterNear_71 : decode cX11_isPainterNear 71 = .ok (.goto 4, 3) := by decide +kernel
theorem dX11_isPainterNear_74 : decode cX11_isPainterNear 74 = .ok (.iconst 0, 1) := by decide +kernel
theorem dX11_isPainterNear_75 : decode cX11_isPainterNear 75 = .ok (.ireturn, 1) := by decide +kernel
theorem dX11_hasPainterMade_0 : decode cX11_hasPainterMade 0 = .ok (.iconst 0, 1) := by decide +kernel
theorem dX11_hasPainterMade_1 : decode cX11_hasPainterMade 1 = .ok (.istore_n 3, 1) := by decide +kernel
theorem dX11_hasPainterMade_2 : decode cX11_hasPainterMade 2 = .ok (.iload_n 3, 1) := by decide +kernel
theorem dX11_hasPainterMade_3 : decode cX11_hasPainterMade 3 = .ok (.aload_n 0, 1) := by decide +kernel
theorem dX11_hasPainterMade_4 : decode cX11_hasPainterMade 4 = .ok (.getfield 28, 3) := by decide +kernel
theorem dX11_hasPainterMade_7 : decode cX11_hasPainterMade 7 = .ok (.if_icmp .ge 30, 3) := by decide +kernel
theorem dX11_hasPainterMade_10 : decode cX11_hasPainterMade 10 = .ok (.aload_n 1, 1) := by decide +kernel
theorem dX11_hasPainterMade_11 : decode cX11_hasPainterMade 11 = .ok (.getfield 222, 3) := by decide +kernel
theorem dX11_hasPainterMade_14 : decode cX11_hasPainterMade 14 = .ok (.iload_n 3, 1) := by decide +kernel
theorem dX11_hasPainterMade_15 : decode cX11_hasPainterMade 15 = .ok (.baload, 1) := by decide +kernel
theorem dX11_hasPainterMade_16 : decode cX11_hasPainterMade 16 = .ok (.ifCond .eq 15, 3) := by decide +kernel
theorem dX11_hasPainterMade_19 : decode cX11_hasPainterMade 19 = .ok (.aload_n 0, 1) := by decide +kernel
theorem dX11_hasPainterMade_20 : decode cX11_hasPainterMade 20 = .ok (.aload_n 1, 1) := by decide +kernel
theorem dX11_hasPainterMade_21 : decode cX11_hasPainterMade 21 = .ok (.iload_n 3, 1) := by decide +kernel
theorem dX11_hasPainterMade_22 : decode cX11_hasPainterMade 22 = .ok (.iload_n 2, 1) := by decide +kernel
theorem dX11_hasPainterMade_23 : decode cX11_hasPainterMade 23 = .ok (.invokevirtual 412, 3) := by decide +kernel
theorem dX11_hasPainterMade_26 : decode cX11_hasPainterMade 26 = .ok (.ifCond .ne 5, 3) := by decide +kernel
theorem dX11_hasPainterMade_29 : decode cX11_hasPainterMade 29 = .ok (.iconst 0, 1) := by decide +kernel
theorem dX11_hasPainterMade_30 : decode cX11_hasPainterMade 30 = .ok (.ireturn, 1) := by decide +kernel
theorem dX11_hasPainterMade_31 : decode cX11_hasPainterMade 31 = .ok (.iinc 3 1, 3) := by decide +kernel
theorem dX11_hasPainterMade_34 : decode cX11_hasPainterMade 34 = .ok (.goto (-32), 3) := by decide +kernel
theorem dX11_hasPainterMade_37 : decode cX11_hasPainterMade 37 = .ok (.iconst 1, 1) := by decide +kernel
theorem dX11_hasPainterMade_38 : decode cX11_hasPainterMade 38 = .ok (.ireturn, 1) := by decide +kernel
theorem dX11_bestStudio_0 : decode cX11_bestStudio 0 = .ok (.aload_n 0, 1) := by decide +kernel
theorem dX11_bestStudio_1 : decode cX11_bestStudio 1 = .ok (.iload_n 2, 1) := by decide +kernel
theorem dX11_bestStudio_2 : decode cX11_bestStudio 2 = .ok (.iload_n 3, 1) := by decide +kernel
theorem dX11_bestStudio_3 : decode cX11_bestStudio 3 = .ok (.iconst 0, 1) := by decide +kernel
theorem dX11_bestStudio_4 : decode cX11_bestStudio 4 = .ok (.invokevirtual 318, 3) := by decide +kernel
theorem dX11_bestStudio_7 : decode cX11_bestStudio 7 = .ok (.iconst 0, 1) := by decide +kernel
theorem dX11_bestStudio_8 : decode cX11_bestStudio 8 = .ok (.istore 5, 2) := by decide +kernel
theorem dX11_bestStudio_10 : decode cX11_bestStudio 10 = .ok (.aload_n 0, 1) := by decide +kernel
theorem dX11_bestStudio_11 : decode cX11_bestStudio 11 = .ok (.aload_n 1, 1) := by decide +kernel
theorem dX11_bestStudio_12 : decode cX11_bestStudio 12 = .ok (.invokevirtual 321, 3) := by decide +kernel
theorem dX11_bestStudio_15 : decode cX11_bestStudio 15 = .ok (.istore 6, 2) := by decide +kernel
theorem dX11_bestStudio_17 : decode cX11_bestStudio 17 = .ok (.iconst 1, 1) := by decide +kernel
theorem dX11_bestStudio_18 : decode cX11_bestStudio 18 = .ok (.istore 7, 2) := by decide +kernel
theorem dX11_bestStudio_20 : decode cX11_bestStudio 20 = .ok (.iload 7, 2) := by decide +kernel
theorem dX11_bestStudio_22 : decode cX11_bestStudio 22 = .ok (.iload 4, 2) := by decide +kernel
theorem dX11_bestStudio_24 : decode cX11_bestStudio 24 = .ok (.if_icmp .ge 39, 3) := by decide +kernel
theorem dX11_bestStudio_27 : decode cX11_bestStudio 27 = .ok (.aload_n 0, 1) := by decide +kernel
theorem dX11_bestStudio_28 : decode cX11_bestStudio 28 = .ok (.iload_n 2, 1) := by decide +kernel
theorem dX11_bestStudio_29 : decode cX11_bestStudio 29 = .ok (.iload_n 3, 1) := by decide +kernel
theorem dX11_bestStudio_30 : decode cX11_bestStudio 30 = .ok (.iload 7, 2) := by decide +kernel
theorem dX11_bestStudio_32 : decode cX11_bestStudio 32 = .ok (.invokevirtual 318, 3) := by decide +kernel
theorem dX11_bestStudio_35 : decode cX11_bestStudio 35 = .ok (.aload_n 0, 1) := by decide +kernel
theorem dX11_bestStudio_36 : decode cX11_bestStudio 36 = .ok (.aload_n 1, 1) := by decide +kernel
theorem dX11_bestStudio_37 : decode cX11_bestStudio 37 = .ok (.invokevirtual 321, 3) := by decide +kernel
theorem dX11_bestStudio_40 : decode cX11_bestStudio 40 = .ok (.istore 8, 2) := by decide +kernel
theorem dX11_bestStudio_42 : decode cX11_bestStudio 42 = .ok (.iload 8, 2) := by decide +kernel
theorem dX11_bestStudio_44 : decode cX11_bestStudio 44 = .ok (.iload 6, 2) := by decide +kernel
theorem dX11_bestStudio_46 : decode cX11_bestStudio 46 = .ok (.if_icmp .ge 11, 3) := by decide +kernel
theorem dX11_bestStudio_49 : decode cX11_bestStudio 49 = .ok (.iload 8, 2) := by decide +kernel
theorem dX11_bestStudio_51 : decode cX11_bestStudio 51 = .ok (.istore 6, 2) := by decide +kernel
theorem dX11_bestStudio_53 : decode cX11_bestStudio 53 = .ok (.iload 7, 2) := by decide +kernel
theorem dX11_bestStudio_55 : decode cX11_bestStudio 55 = .ok (.istore 5, 2) := by decide +kernel
theorem dX11_bestStudio_57 : decode cX11_bestStudio 57 = .ok (.iinc 7 1, 3) := by decide +kernel
theorem dX11_bestStudio_60 : decode cX11_bestStudio 60 = .ok (.goto (-40), 3) := by decide +kernel
theorem dX11_bestStudio_63 : decode cX11_bestStudio 63 = .ok (.iload 5, 2) := by decide +kernel
theorem dX11_bestStudio_65 : decode cX11_bestStudio 65 = .ok (.ireturn, 1) := by decide +kernel
theorem dX11_studiosThatMade_0 : decode cX11_studiosThatMade 0 = .ok (.iconst 0, 1) := by decide +kernel
theorem dX11_studiosThatMade_1 : decode cX11_studiosThatMade 1 = .ok (.istore 6, 2) := by decide +kernel
theorem dX11_studiosThatMade_3 : decode cX11_studiosThatMade 3 = .ok (.iconst 0, 1) := by decide +kernel
theorem dX11_studiosThatMade_4 : decode cX11_studiosThatMade 4 = .ok (.istore 7, 2) := by decide +kernel
theorem dX11_studiosThatMade_6 : decode cX11_studiosThatMade 6 = .ok (.iload 7, 2) := by decide +kernel
theorem dX11_studiosThatMade_8 : decode cX11_studiosThatMade 8 = .ok (.iload 4, 2) := by decide +kernel
theorem dX11_studiosThatMade_10 : decode cX11_studiosThatMade 10 = .ok (.if_icmp .ge 30, 3) := by decide +kernel
theorem dX11_studiosThatMade_13 : decode cX11_studiosThatMade 13 = .ok (.aload_n 0, 1) := by decide +kernel
theorem dX11_studiosThatMade_14 : decode cX11_studiosThatMade 14 = .ok (.iload_n 2, 1) := by decide +kernel
theorem dX11_studiosThatMade_15 : decode cX11_studiosThatMade 15 = .ok (.iload_n 3, 1) := by decide +kernel
theorem dX11_studiosThatMade_16 : decode cX11_studiosThatMade 16 = .ok (.iload 7, 2) := by decide +kernel
theorem dX11_studiosThatMade_18 : decode cX11_studiosThatMade 18 = .ok (.invokevirtual 318, 3) := by decide +kernel
theorem dX11_studiosThatMade_21 : decode cX11_studiosThatMade 21 = .ok (.aload_n 0, 1) := by decide +kernel
theorem dX11_studiosThatMade_22 : decode cX11_studiosThatMade 22 = .ok (.aload_n 1, 1) := by decide +kernel
theorem dX11_studiosThatMade_23 : decode cX11_studiosThatMade 23 = .ok (.iload 5, 2) := by decide +kernel
theorem dX11_studiosThatMade_25 : decode cX11_studiosThatMade 25 = .ok (.invokevirtual 325, 3) := by decide +kernel
theorem dX11_studiosThatMade_28 : decode cX11_studiosThatMade 28 = .ok (.ifCond .eq 6, 3) := by decide +kernel
theorem dX11_studiosThatMade_31 : decode cX11_studiosThatMade 31 = .ok (.iinc 6 1, 3) := by decide +kernel
theorem dX11_studiosThatMade_34 : decode cX11_studiosThatMade 34 = .ok (.iinc 7 1, 3) := by decide +kernel
theorem dX11_studiosThatMade_37 : decode cX11_studiosThatMade 37 = .ok (.goto (-31), 3) := by decide +kernel
theorem dX11_studiosThatMade_40 : decode cX11_studiosThatMade 40 = .ok (.iload 6, 2) := by decide +kernel
theorem dX11_studiosThatMade_42 : decode cX11_studiosThatMade 42 = .ok (.ireturn, 1) := by decide +kernel
theorem dX11_marksOfNoStudio_0 : decode cX11_marksOfNoStudio 0 = .ok (.iconst 0, 1) := by decide +kernel
theorem dX11_marksOfNoStudio_1 : decode cX11_marksOfNoStudio 1 = .ok (.istore 6, 2) := by decide +kernel
theorem dX11_marksOfNoStudio_3 : decode cX11_marksOfNoStudio 3 = .ok (.iconst 0, 1) := by decide +kernel
theorem dX11_marksOfNoStudio_4 : decode cX11_marksOfNoStudio 4 = .ok (.istore 7, 2) := by decide +kernel
theorem dX11_marksOfNoStudio_6 : decode cX11_marksOfNoStudio 6 = .ok (.iload 7, 2) := by decide +kernel
theorem dX11_marksOfNoStudio_8 : decode cX11_marksOfNoStudio 8 = .ok (.aload_n 0, 1) := by decide +kernel
theorem dX11_marksOfNoStudio_9 : decode cX11_marksOfNoStudio 9 = .ok (.getfield 28, 3) := by decide +kernel
theorem dX11_marksOfNoStudio_12 : decode cX11_marksOfNoStudio 12 = .ok (.if_icmp .ge 74, 3) := by decide +kernel
theorem dX11_marksOfNoStudio_15 : decode cX11_marksOfNoStudio 15 = .ok (.aload_n 1, 1) := by decide +kernel
theorem dX11_marksOfNoStudio_16 : decode cX11_marksOfNoStudio 16 = .ok (.getfield 222, 3) := by decide +kernel
theorem dX11_marksOfNoStudio_19 : decode cX11_marksOfNoStudio 19 = .ok (.iload 7, 2) := by decide +kernel
theorem dX11_marksOfNoStudio_21 : decode cX11_marksOfNoStudio 21 = .ok (.baload, 1) := by decide +kernel
theorem dX11_marksOfNoStudio_22 : decode cX11_marksOfNoStudio 22 = .ok (.ifCond .ne 7, 3) := by decide +kernel
theorem dX11_marksOfNoStudio_25 : decode cX11_marksOfNoStudio 25 = .ok (.iconst 1, 1) := by decide +kernel
theorem dX11_marksOfNoStudio_26 : decode cX11_marksOfNoStudio 26 = .ok (.goto 4, 3) := by decide +kernel
theorem dX11_marksOfNoStudio_29 : decode cX11_marksOfNoStudio 29 = .ok (.iconst 0, 1) := by decide +kernel
theorem dX11_marksOfNoStudio_30 : decode cX11_marksOfNoStudio 30 = .ok (.istore 8, 2) := by decide +kernel
theorem dX11_marksOfNoStudio_32 : decode cX11_marksOfNoStudio 32 = .ok (.iconst 0, 1) := by decide +kernel
theorem dX11_marksOfNoStudio_33 : decode cX11_marksOfNoStudio 33 = .ok (.istore 9, 2) := by decide +kernel
theorem dX11_marksOfNoStudio_35 : decode cX11_marksOfNoStudio 35 = .ok (.iload 9, 2) := by decide +kernel
theorem dX11_marksOfNoStudio_37 : decode cX11_marksOfNoStudio 37 = .ok (.iload 4, 2) := by decide +kernel
theorem dX11_marksOfNoStudio_39 : decode cX11_marksOfNoStudio 39 = .ok (.if_icmp .ge 33, 3) := by decide +kernel
theorem dX11_marksOfNoStudio_42 : decode cX11_marksOfNoStudio 42 = .ok (.iload 8, 2) := by decide +kernel
theorem dX11_marksOfNoStudio_44 : decode cX11_marksOfNoStudio 44 = .ok (.ifCond .ne 28, 3) := by decide +kernel
theorem dX11_marksOfNoStudio_47 : decode cX11_marksOfNoStudio 47 = .ok (.aload_n 0, 1) := by decide +kernel
theorem dX11_marksOfNoStudio_48 : decode cX11_marksOfNoStudio 48 = .ok (.iload_n 2, 1) := by decide +kernel
theorem dX11_marksOfNoStudio_49 : decode cX11_marksOfNoStudio 49 = .ok (.iload_n 3, 1) := by decide +kernel
theorem dX11_marksOfNoStudio_50 : decode cX11_marksOfNoStudio 50 = .ok (.iload 9, 2) := by decide +kernel
theorem dX11_marksOfNoStudio_52 : decode cX11_marksOfNoStudio 52 = .ok (.invokevirtual 318, 3) := by decide +kernel
theorem dX11_marksOfNoStudio_55 : decode cX11_marksOfNoStudio 55 = .ok (.aload_n 0, 1) := by decide +kernel
theorem dX11_marksOfNoStudio_56 : decode cX11_marksOfNoStudio 56 = .ok (.aload_n 1, 1) := by decide +kernel
theorem dX11_marksOfNoStudio_57 : decode cX11_marksOfNoStudio 57 = .ok (.iload 7, 2) := by decide +kernel
theorem dX11_marksOfNoStudio_59 : decode cX11_marksOfNoStudio 59 = .ok (.iload 5, 2) := by decide +kernel
theorem dX11_marksOfNoStudio_61 : decode cX11_marksOfNoStudio 61 = .ok (.invokevirtual 412, 3) := by decide +kernel
theorem dX11_marksOfNoStudio_64 : decode cX11_marksOfNoStudio 64 = .ok (.istore 8, 2) := by decide +kernel
theorem dX11_marksOfNoStudio_66 : decode cX11_marksOfNoStudio 66 = .ok (.iinc 9 1, 3) := by decide +kernel
theorem dX11_marksOfNoStudio_69 : decode cX11_marksOfNoStudio 69 = .ok (.goto (-34), 3) := by decide +kernel
theorem dX11_marksOfNoStudio_72 : decode cX11_marksOfNoStudio 72 = .ok (.iload 8, 2) := by decide +kernel
theorem dX11_marksOfNoStudio_74 : decode cX11_marksOfNoStudio 74 = .ok (.ifCond .ne 6, 3) := by decide +kernel
theorem dX11_marksOfNoStudio_77 : decode cX11_marksOfNoStudio 77 = .ok (.iinc 6 1, 3) := by decide +kernel
theorem dX11_marksOfNoStudio_80 : decode cX11_marksOfNoStudio 80 = .ok (.iinc 7 1, 3) := by decide +kernel
theorem dX11_marksOfNoStudio_83 : decode cX11_marksOfNoStudio 83 = .ok (.goto (-77), 3) := by decide +kernel
theorem dX11_marksOfNoStudio_86 : decode cX11_marksOfNoStudio 86 = .ok (.iload 6, 2) := by decide +kernel
theorem dX11_marksOfNoStudio_88 : decode cX11_marksOfNoStudio 88 = .ok (.ireturn, 1) := by decide +kernel
theorem dX11_noonOf_0 : decode cX11_noonOf 0 = .ok (.iload_n 0, 1) := by decide +kernel
theorem dX11_noonOf_1 : decode cX11_noonOf 1 = .ok (.sipush 172, 3) := by decide +kernel
theorem dX11_noonOf_4 : decode cX11_noonOf 4 = .ok (.isub, 1) := by decide +kernel
theorem dX11_noonOf_5 : decode cX11_noonOf 5 = .ok (.invokestatic 405, 3) := by decide +kernel
theorem dX11_noonOf_8 : decode cX11_noonOf 8 = .ok (.istore_n 1, 1) := by decide +kernel
theorem dX11_noonOf_9 : decode cX11_noonOf 9 = .ok (.iload_n 1, 1) := by decide +kernel
theorem dX11_noonOf_10 : decode cX11_noonOf 10 = .ok (.sipush 365, 3) := by decide +kernel
theorem dX11_noonOf_13 : decode cX11_noonOf 13 = .ok (.iload_n 1, 1) := by decide +kernel
theorem dX11_noonOf_14 : decode cX11_noonOf 14 = .ok (.isub, 1) := by decide +kernel
theorem dX11_noonOf_15 : decode cX11_noonOf 15 = .ok (.invokestatic 410, 3) := by decide +kernel
theorem dX11_noonOf_18 : decode cX11_noonOf 18 = .ok (.istore_n 2, 1) := by decide +kernel
theorem dX11_noonOf_19 : decode cX11_noonOf 19 = .ok (.sipush 500, 3) := by decide +kernel
theorem dX11_noonOf_22 : decode cX11_noonOf 22 = .ok (.sipush 1500, 3) := by decide +kernel
theorem dX11_noonOf_25 : decode cX11_noonOf 25 = .ok (.iload_n 2, 1) := by decide +kernel
theorem dX11_noonOf_26 : decode cX11_noonOf 26 = .ok (.imul, 1) := by decide +kernel
theorem dX11_noonOf_27 : decode cX11_noonOf 27 = .ok (.sipush 182, 3) := by decide +kernel
theorem dX11_noonOf_30 : decode cX11_noonOf 30 = .ok (.invokestatic 272, 3) := by decide +kernel
theorem dX11_noonOf_33 : decode cX11_noonOf 33 = .ok (.iadd, 1) := by decide +kernel
theorem dX11_noonOf_34 : decode cX11_noonOf 34 = .ok (.ireturn, 1) := by decide +kernel
theorem dX11_spotAside_0 : decode cX11_spotAside 0 = .ok (.iload_n 1, 1) := by decide +kernel
theorem dX11_spotAside_1 : decode cX11_spotAside 1 = .ok (.iload_n 0, 1) := by decide +kernel
theorem dX11_spotAside_2 : decode cX11_spotAside 2 = .ok (.imul, 1) := by decide +kernel
theorem dX11_spotAside_3 : decode cX11_spotAside 3 = .ok (.sipush 200, 3) := by decide +kernel
theorem dX11_spotAside_6 : decode cX11_spotAside 6 = .ok (.imul, 1) := by decide +kernel
theorem dX11_spotAside_7 : decode cX11_spotAside 7 = .ok (.sipush 1000, 3) := by decide +kernel
theorem dX11_spotAside_10 : decode cX11_spotAside 10 = .ok (.invokestatic 272, 3) := by decide +kernel
theorem dX11_spotAside_13 : decode cX11_spotAside 13 = .ok (.ireturn, 1) := by decide +kernel
theorem dX11_spotAhead_0 : decode cX11_spotAhead 0 = .ok (.iload_n 2, 1) := by decide +kernel
theorem dX11_spotAhead_1 : decode cX11_spotAhead 1 = .ok (.iload_n 0, 1) := by decide +kernel
theorem dX11_spotAhead_2 : decode cX11_spotAhead 2 = .ok (.bipush 30, 2) := by decide +kernel
theorem dX11_spotAhead_4 : decode cX11_spotAhead 4 = .ok (.iload_n 1, 1) := by decide +kernel
theorem dX11_spotAhead_5 : decode cX11_spotAhead 5 = .ok (.imul, 1) := by decide +kernel
theorem dX11_spotAhead_6 : decode cX11_spotAhead 6 = .ok (.iload_n 1, 1) := by decide +kernel
theorem dX11_spotAhead_7 : decode cX11_spotAhead 7 = .ok (.imul, 1) := by decide +kernel
theorem dX11_spotAhead_8 : decode cX11_spotAhead 8 = .ok (.iadd, 1) := by decide +kernel
theorem dX11_spotAhead_9 : decode cX11_spotAhead 9 = .ok (.imul, 1) := by decide +kernel
theorem dX11_spotAhead_10 : decode cX11_spotAhead 10 = .ok (.sipush 1000, 3) := by decide +kernel
theorem dX11_spotAhead_13 : decode cX11_spotAhead 13 = .ok (.invokestatic 272, 3) := by decide +kernel
theorem dX11_spotAhead_16 : decode cX11_spotAhead 16 = .ok (.ireturn, 1) := by decide +kernel
end
section
theorem dX12_init_0 : decode cX12_init 0 = .ok (.aload_n 0, 1) := by decide +kernel
theorem dX12_init_1 : decode cX12_init 1 = .ok (.invokespecial 1, 3) := by decide +kernel
theorem dX12_init_4 : decode cX12_init 4 = .ok (.aload_n 0, 1) := by decide +kernel
theorem dX12_init_5 : decode cX12_init 5 = .ok (.bipush 8, 2) := by decide +kernel
theorem dX12_init_7 : decode cX12_init 7 = .ok (.newarray .int, 2) := by decide +kernel
theorem dX12_init_9 : decode cX12_init 9 = .ok (.dup, 1) := by decide +kernel
theorem dX12_init_10 : decode cX12_init 10 = .ok (.iconst 0, 1) := by decide +kernel
theorem dX12_init_11 : decode cX12_init 11 = .ok (.iconst (-1), 1) := by decide +kernel
theorem dX12_init_12 : decode cX12_init 12 = .ok (.iastore, 1) := by decide +kernel
theorem dX12_init_13 : decode cX12_init 13 = .ok (.dup, 1) := by decide +kernel
theorem dX12_init_14 : decode cX12_init 14 = .ok (.iconst 1, 1) := by decide +kernel
theorem dX12_init_15 : decode cX12_init 15 = .ok (.iconst (-1), 1) := by decide +kernel
theorem dX12_init_16 : decode cX12_init 16 = .ok (.iastore, 1) := by decide +kernel
theorem dX12_init_17 : decode cX12_init 17 = .ok (.dup, 1) := by decide +kernel
theorem dX12_init_18 : decode cX12_init 18 = .ok (.iconst 2, 1) := by decide +kernel
theorem dX12_init_19 : decode cX12_init 19 = .ok (.iconst (-1), 1) := by decide +kernel
theorem dX12_init_20 : decode cX12_init 20 = .ok (.iastore, 1) := by decide +kernel
theorem dX12_init_21 : decode cX12_init 21 = .ok (.dup, 1) := by decide +kernel
theorem dX12_init_22 : decode cX12_init 22 = .ok (.iconst 3, 1) := by decide +kernel
theorem dX12_init_23 : decode cX12_init 23 = .ok (.iconst (-1), 1) := by decide +kernel
theorem dX12_init_24 : decode cX12_init 24 = .ok (.iastore, 1) := by decide +kernel
theorem dX12_init_25 : decode cX12_init 25 = .ok (.dup, 1) := by decide +kernel
theorem dX12_init_26 : decode cX12_init 26 = .ok (.iconst 4, 1) := by decide +kernel
theorem dX12_init_27 : decode cX12_init 27 = .ok (.iconst (-1), 1) := by decide +kernel
theorem dX12_init_28 : decode cX12_init 28 = .ok (.iastore, 1) := by decide +kernel
theorem dX12_init_29 : decode cX12_init 29 = .ok (.dup, 1) := by decide +kernel
theorem dX12_init_30 : decode cX12_init 30 = .ok (.iconst 5, 1) := by decide +kernel
theorem dX12_init_31 : decode cX12_init 31 = .ok (.iconst (-1), 1) := by decide +kernel
theorem dX12_init_32 : decode cX12_init 32 = .ok (.iastore, 1) := by decide +kernel
theorem dX12_init_33 : decode cX12_init 33 = .ok (.dup, 1) := by decide +kernel
theorem dX12_init_34 : decode cX12_init 34 = .ok (.bipush 6, 2) := by decide +kernel
theorem dX12_init_36 : decode cX12_init 36 = .ok (.iconst (-1), 1) := by decide +kernel
theorem dX12_init_37 : decode cX12_init 37 = .ok (.iastore, 1) := by decide +kernel
theorem dX12_init_38 : decode cX12_init 38 = .ok (.dup, 1) := by decide +kernel
theorem dX12_init_39 : decode cX12_init 39 = .ok (.bipush 7, 2) := by decide +kernel
theorem dX12_init_41 : decode cX12_init 41 = .ok (.iconst (-1), 1) := by decide +kernel
theorem dX12_init_42 : decode cX12_init 42 = .ok (.iastore, 1) := by decide +kernel
theorem dX12_init_43 : decode cX12_init 43 = .ok (.putfield 7, 3) := by decide +kernel
theorem dX12_init_46 : decode cX12_init 46 = .ok (.aload_n 0, 1) := by decide +kernel
theorem dX12_init_47 : decode cX12_init 47 = .ok (.bipush 8, 2) := by decide +kernel
theorem dX12_init_49 : decode cX12_init 49 = .ok (.newarray .int, 2) := by decide +kernel
theorem dX12_init_51 : decode cX12_init 51 = .ok (.putfield 13, 3) := by decide +kernel
theorem dX12_init_54 : decode cX12_init 54 = .ok (.aload_n 0, 1) := by decide +kernel
theorem dX12_init_55 : decode cX12_init 55 = .ok (.sipush 640, 3) := by decide +kernel
theorem dX12_init_58 : decode cX12_init 58 = .ok (.newarray .int, 2) := by decide +kernel
theorem dX12_init_60 : decode cX12_init 60 = .ok (.putfield 16, 3) := by decide +kernel
theorem dX12_init_63 : decode cX12_init 63 = .ok (.aload_n 0, 1) := by decide +kernel
theorem dX12_init_64 : decode cX12_init 64 = .ok (.bipush 7, 2) := by decide +kernel
theorem dX12_init_66 : decode cX12_init 66 = .ok (.newarray .int, 2) := by decide +kernel
theorem dX12_init_68 : decode cX12_init 68 = .ok (.dup, 1) := by decide +kernel
theorem dX12_init_69 : decode cX12_init 69 = .ok (.iconst 0, 1) := by decide +kernel
theorem dX12_init_70 : decode cX12_init 70 = .ok (.iconst 0, 1) := by decide +kernel
theorem dX12_init_71 : decode cX12_init 71 = .ok (.iastore, 1) := by decide +kernel
theorem dX12_init_72 : decode cX12_init 72 = .ok (.dup, 1) := by decide +kernel
theorem dX12_init_73 : decode cX12_init 73 = .ok (.iconst 1, 1) := by decide +kernel
theorem dX12_init_74 : decode cX12_init 74 = .ok (.bipush 10, 2) := by decide +kernel
theorem dX12_init_76 : decode cX12_init 76 = .ok (.iastore, 1) := by decide +kernel
theorem dX12_init_77 : decode cX12_init 77 = .ok (.dup, 1) := by decide +kernel
theorem dX12_init_78 : decode cX12_init 78 = .ok (.iconst 2, 1) := by decide +kernel
theorem dX12_init_79 : decode cX12_init 79 = .ok (.bipush 100, 2) := by decide +kernel
theorem dX12_init_81 : decode cX12_init 81 = .ok (.iastore, 1) := by decide +kernel
theorem dX12_init_82 : decode cX12_init 82 = .ok (.dup, 1) := by decide +kernel
theorem dX12_init_83 : decode cX12_init 83 = .ok (.iconst 3, 1) := by decide +kernel
theorem dX12_init_84 : decode cX12_init 84 = .ok (.iconst 0, 1) := by decide +kernel
theorem dX12_init_85 : decode cX12_init 85 = .ok (.iastore, 1) := by decide +kernel
theorem dX12_init_86 : decode cX12_init 86 = .ok (.dup, 1) := by decide +kernel
theorem dX12_init_87 : decode cX12_init 87 = .ok (.iconst 4, 1) := by decide +kernel
theorem dX12_init_88 : decode cX12_init 88 = .ok (.iconst 5, 1) := by decide +kernel
theorem dX12_init_89 : decode cX12_init 89 = .ok (.iastore, 1) := by decide +kernel
theorem dX12_init_90 : decode cX12_init 90 = .ok (.dup, 1) := by decide +kernel
theorem dX12_init_91 : decode cX12_init 91 = .ok (.iconst 5, 1) := by decide +kernel
theorem dX12_init_92 : decode cX12_init 92 = .ok (.sipush 160, 3) := by decide +kernel
theorem dX12_init_95 : decode cX12_init 95 = .ok (.iastore, 1) := by decide +kernel
theorem dX12_init_96 : decode cX12_init 96 = .ok (.dup, 1) := by decide +kernel
theorem dX12_init_97 : decode cX12_init 97 = .ok (.bipush 6, 2) := by decide +kernel
theorem dX12_init_99 : decode cX12_init 99 = .ok (.bipush 100, 2) := by decide +kernel
theorem dX12_init_101 : decode cX12_init 101 = .ok (.iastore, 1) := by decide +kernel
theorem dX12_init_102 : decode cX12_init 102 = .ok (.putfield 19, 3) := by decide +kernel
theorem dX12_init_105 : decode cX12_init 105 = .ok (.aload_n 0, 1) := by decide +kernel
theorem dX12_init_106 : decode cX12_init 106 = .ok (.bipush 17, 2) := by decide +kernel
theorem dX12_init_108 : decode cX12_init 108 = .ok (.newarray .int, 2) := by decide +kernel
theorem dX12_init_110 : decode cX12_init 110 = .ok (.putfield 22, 3) := by decide +kernel
theorem dX12_init_113 : decode cX12_init 113 = .ok (.aload_n 0, 1) := by decide +kernel
theorem dX12_init_114 : decode cX12_init 114 = .ok (.bipush 24, 2) := by decide +kernel
theorem dX12_init_116 : decode cX12_init 116 = .ok (.newarray .int, 2) := by decide +kernel
theorem dX12_init_118 : decode cX12_init 118 = .ok (.putfield 25, 3) := by decide +kernel
theorem dX12_init_121 : decode cX12_init 121 = .ok (.aload_n 0, 1) := by decide +kernel
theorem dX12_init_122 : decode cX12_init 122 = .ok (.bipush 24, 2) := by decide +kernel
theorem dX12_init_124 : decode cX12_init 124 = .ok (.newarray .int, 2) := by decide +kernel
theorem dX12_init_126 : decode cX12_init 126 = .ok (.putfield 28, 3) := by decide +kernel
theorem dX12_init_129 : decode cX12_init 129 = .ok (.aload_n 0, 1) := by decide +kernel
theorem dX12_init_130 : decode cX12_init 130 = .ok (.bipush 24, 2) := by decide +kernel
theorem dX12_init_132 : decode cX12_init 132 = .ok (.newarray .int, 2) := by decide +kernel
theorem dX12_init_134 : decode cX12_init 134 = .ok (.putfield 31, 3) := by decide +kernel
theorem dX12_init_137 : decode cX12_init 137 = .ok (.aload_n 0, 1) := by decide +kernel
theorem dX12_init_138 : decode cX12_init 138 = .ok (.sipush 192, 3) := by decide +kernel
theorem dX12_init_141 : decode cX12_init 141 = .ok (.newarray .boolean, 2) := by decide +kernel
theorem dX12_init_143 : decode cX12_init 143 = .ok (.putfield 34, 3) := by decide +kernel
theorem dX12_init_146 : decode cX12_init 146 = .ok (.aload_n 0, 1) := by decide +kernel
theorem dX12_init_147 : decode cX12_init 147 = .ok (.sipush 192, 3) := by decide +kernel
theorem dX12_init_150 : decode cX12_init 150 = .ok (.newarray .int, 2) := by decide +kernel
theorem dX12_init_152 : decode cX12_init 152 = .ok (.putfield 38, 3) := by decide +kernel
theorem dX12_init_155 : decode cX12_init 155 = .ok (.aload_n 0, 1) := by decide +kernel
theorem dX12_init_156 : decode cX12_init 156 = .ok (.sipush 192, 3) := by decide +kernel
theorem dX12_init_159 : decode cX12_init 159 = .ok (.newarray .int, 2) := by decide +kernel
theorem dX12_init_161 : decode cX12_init 161 = .ok (.putfield 41, 3) := by decide +kernel
theorem dX12_init_164 : decode cX12_init 164 = .ok (.aload_n 0, 1) := by decide +kernel
theorem dX12_init_165 : decode cX12_init 165 = .ok (.bipush 24, 2) := by decide +kernel
theorem dX12_init_167 : decode cX12_init 167 = .ok (.newarray .int, 2) := by decide +kernel
theorem dX12_init_169 : decode cX12_init 169 = .ok (.putfield 44, 3) := by decide +kernel
theorem dX12_init_172 : decode cX12_init 172 = .ok (.aload_n 0, 1) := by decide +kernel
theorem dX12_init_173 : decode cX12_init 173 = .ok (.bipush 9, 2) := by decide +kernel
theorem dX12_init_175 : decode cX12_init 175 = .ok (.newarray .int, 2) := by decide +kernel
theorem dX12_init_177 : decode cX12_init 177 = .ok (.putfield 47, 3) := by decide +kernel
theorem dX12_init_180 : decode cX12_init 180 = .ok (.aload_n 0, 1) := by decide +kernel
theorem dX12_init_181 : decode cX12_init 181 = .ok (.bipush 9, 2) := by decide +kernel
theorem dX12_init_183 : decode cX12_init 183 = .ok (.newarray .int, 2) := by decide +kernel
theorem dX12_init_185 : decode cX12_init 185 = .ok (.putfield 50, 3) := by decide +kernel
theorem dX12_init_188 : decode cX12_init 188 = .ok (.aload_n 0, 1) := by decide +kernel
theorem dX12_init_189 : decode cX12_init 189 = .ok (.bipush 8, 2) := by decide +kernel
theorem dX12_init_191 : decode cX12_init 191 = .ok (.newarray .int, 2) := by decide +kernel
theorem dX12_init_193 : decode cX12_init 193 = .ok (.dup, 1) := by decide +kernel
theorem dX12_init_194 : decode cX12_init 194 = .ok (.iconst 0, 1) := by decide +kernel
theorem dX12_init_195 : decode cX12_init 195 = .ok (.iconst 0, 1) := by decide +kernel
theorem dX12_init_196 : decode cX12_init 196 = .ok (.iastore, 1) := by decide +kernel
theorem dX12_init_197 : decode cX12_init 197 = .ok (.dup, 1) := by decide +kernel
theorem dX12_init_198 : decode cX12_init 198 = .ok (.iconst 1, 1) := by decide +kernel
theorem dX12_init_199 : decode cX12_init 199 = .ok (.iconst 0, 1) := by decide +kernel
theorem dX12_init_200 : decode cX12_init 200 = .ok (.iastore, 1) := by decide +kernel
theorem dX12_init_201 : decode cX12_init 201 = .ok (.dup, 1) := by decide +kernel
theorem dX12_init_202 : decode cX12_init 202 = .ok (.iconst 2, 1) := by decide +kernel
theorem dX12_init_203 : decode cX12_init 203 = .ok (.iconst 0, 1) := by decide +kernel
theorem dX12_init_204 : decode cX12_init 204 = .ok (.iastore, 1) := by decide +kernel
theorem dX12_init_205 : decode cX12_init 205 = .ok (.dup, 1) := by decide +kernel
theorem dX12_init_206 : decode cX12_init 206 = .ok (.iconst 3, 1) := by decide +kernel
theorem dX12_init_207 : decode cX12_init 207 = .ok (.bipush 100, 2) := by decide +kernel
theorem dX12_init_209 : decode cX12_init 209 = .ok (.iastore, 1) := by decide +kernel
theorem dX12_init_210 : decode cX12_init 210 = .ok (.dup, 1) := by decide +kernel
theorem dX12_init_211 : decode cX12_init 211 = .ok (.iconst 4, 1) := by decide +kernel
theorem dX12_init_212 : decode cX12_init 212 = .ok (.iconst 0, 1) := by decide +kernel
theorem dX12_init_213 : decode cX12_init 213 = .ok (.iastore, 1) := by decide +kernel
theorem dX12_init_214 : decode cX12_init 214 = .ok (.dup, 1) := by decide +kernel
theorem dX12_init_215 : decode cX12_init 215 = .ok (.iconst 5, 1) := by decide +kernel
theorem dX12_init_216 : decode cX12_init 216 = .ok (.iconst 0, 1) := by decide +kernel
theorem dX12_init_217 : decode cX12_init 217 = .ok (.iastore, 1) := by decide +kernel
theorem dX12_init_218 : decode cX12_init 218 = .ok (.dup, 1) := by decide +kernel
theorem dX12_init_219 : decode cX12_init 219 = .ok (.bipush 6, 2) := by decide +kernel
theorem dX12_init_221 : decode cX12_init 221 = .ok (.iconst 0, 1) := by decide +kernel
theorem dX12_init_222 : decode cX12_init 222 = .ok (.iastore, 1) := by decide +kernel
theorem dX12_init_223 : decode cX12_init 223 = .ok (.dup, 1) := by decide +kernel
theorem dX12_init_224 : decode cX12_init 224 = .ok (.bipush 7, 2) := by decide +kernel
theorem dX12_init_226 : decode cX12_init 226 = .ok (.bipush 100, 2) := by decide +kernel
theorem dX12_init_228 : decode cX12_init 228 = .ok (.iastore, 1) := by decide +kernel
theorem dX12_init_229 : decode cX12_init 229 = .ok (.putfield 53, 3) := by decide +kernel
theorem dX12_init_232 : decode cX12_init 232 = .ok (.aload_n 0, 1) := by decide +kernel
theorem dX12_init_233 : decode cX12_init 233 = .ok (.bipush 16, 2) := by decide +kernel
theorem dX12_init_235 : decode cX12_init 235 = .ok (.newarray .int, 2) := by decide +kernel
theorem dX12_init_237 : decode cX12_init 237 = .ok (.putfield 56, 3) := by decide +kernel
theorem dX12_init_240 : decode cX12_init 240 = .ok (.return_, 1) := by decide +kernel
theorem dX12_in_0 : decode cX12_in 0 = .ok (.lload_n 0, 1) := by decide +kernel
theorem dX12_in_1 : decode cX12_in 1 = .ok (.lload_n 2, 1) := by decide +kernel
theorem dX12_in_2 : decode cX12_in 2 = .ok (.lcmp, 1) := by decide +kernel
theorem dX12_in_3 : decode cX12_in 3 = .ok (.ifCond .lt 14, 3) := by decide +kernel
theorem dX12_in_6 : decode cX12_in 6 = .ok (.lload_n 0, 1) := by decide +kernel
theorem dX12_in_7 : decode cX12_in 7 = .ok (.lload 4, 2) := by decide +kernel
theorem dX12_in_9 : decode cX12_in 9 = .ok (.lcmp, 1) := by decide +kernel
theorem dX12_in_10 : decode cX12_in 10 = .ok (.ifCond .gt 7, 3) := by decide +kernel
theorem dX12_in_13 : decode cX12_in 13 = .ok (.iconst 1, 1) := by decide +kernel
theorem dX12_in_14 : decode cX12_in 14 = .ok (.goto 4, 3) := by decide +kernel
theorem dX12_in_17 : decode cX12_in 17 = .ok (.iconst 0, 1) := by decide +kernel
theorem dX12_in_18 : decode cX12_in 18 = .ok (.ireturn, 1) := by decide +kernel
theorem dX12_found_0 : decode cX12_found 0 = .ok (.aload_n 0, 1) := by decide +kernel
theorem dX12_found_1 : decode cX12_found 1 = .ok (.iload_n 1, 1) := by decide +kernel
theorem dX12_found_2 : decode cX12_found 2 = .ok (.putfield 63, 3) := by decide +kernel
theorem dX12_found_5 : decode cX12_found 5 = .ok (.ldc 66, 2) := by decide +kernel
theorem dX12_found_7 : decode cX12_found 7 = .ok (.iload_n 1, 1) := by decide +kernel
theorem dX12_found_8 : decode cX12_found 8 = .ok (.isub, 1) := by decide +kernel
theorem dX12_found_9 : decode cX12_found 9 = .ok (.ireturn, 1) := by decide +kernel
theorem dX12_isSheet_0 : decode cX12_isSheet 0 = .ok (.iload_n 0, 1) := by decide +kernel
theorem dX12_isSheet_1 : decode cX12_isSheet 1 = .ok (.i2l, 1) := by decide +kernel
theorem dX12_isSheet_2 : decode cX12_isSheet 2 = .ok (.lconst 0, 1) := by decide +kernel
theorem dX12_isSheet_3 : decode cX12_isSheet 3 = .ok (.ldc2_w 67, 3) := by decide +kernel
theorem dX12_isSheet_6 : decode cX12_isSheet 6 = .ok (.invokestatic 69, 3) := by decide +kernel
theorem dX12_isSheet_9 : decode cX12_isSheet 9 = .ok (.ireturn, 1) := by decide +kernel
theorem dX12_sheet_0 : decode cX12_sheet 0 = .ok (.aload_n 0, 1) := by decide +kernel
theorem dX12_sheet_1 : decode cX12_sheet 1 = .ok (.iconst 0, 1) := by decide +kernel
theorem dX12_sheet_2 : decode cX12_sheet 2 = .ok (.putfield 59, 3) := by decide +kernel
theorem dX12_sheet_5 : decode cX12_sheet 5 = .ok (.iload_n 1, 1) := by decide +kernel
theorem dX12_sheet_6 : decode cX12_sheet 6 = .ok (.invokestatic 73, 3) := by decide +kernel
theorem dX12_sheet_9 : decode cX12_sheet 9 = .ok (.ifCond .eq 21, 3) := by decide +kernel
theorem dX12_sheet_12 : decode cX12_sheet 12 = .ok (.iload_n 2, 1) := by decide +kernel
theorem dX12_sheet_13 : decode cX12_sheet 13 = .ok (.i2l, 1) := by decide +kernel
theorem dX12_sheet_14 : decode cX12_sheet 14 = .ok (.lconst 0, 1) := by decide +kernel
theorem dX12_sheet_15 : decode cX12_sheet 15 = .ok (.ldc2_w 77, 3) := by decide +kernel
theorem dX12_sheet_18 : decode cX12_sheet 18 = .ok (.invokestatic 69, 3) := by decide +kernel
theorem dX12_sheet_21 : decode cX12_sheet 21 = .ok (.ifCond .eq 9, 3) := by decide +kernel
theorem dX12_sheet_24 : decode cX12_sheet 24 = .ok (.iload_n 3, 1) := by decide +kernel
theorem dX12_sheet_25 : decode cX12_sheet 25 = .ok (.bipush 80, 2) := by decide +kernel
theorem dX12_sheet_27 : decode cX12_sheet 27 = .ok (.if_icmp .le 6, 3) := by decide +kernel
theorem dX12_sheet_30 : decode cX12_sheet 30 = .ok (.ldc 79, 2) := by decide +kernel
theorem dX12_sheet_32 : decode cX12_sheet 32 = .ok (.ireturn, 1) := by decide +kernel
theorem dX12_sheet_33 : decode cX12_sheet 33 = .ok (.aload_n 0, 1) := by decide +kernel
theorem dX12_sheet_34 : decode cX12_sheet 34 = .ok (.iconst 0, 1) := by decide +kernel
theorem dX12_sheet_35 : decode cX12_sheet 35 = .ok (.putfield 63, 3) := by decide +kernel
theorem dX12_sheet_38 : decode cX12_sheet 38 = .ok (.iload_n 3, 1) := by decide +kernel
theorem dX12_sheet_39 : decode cX12_sheet 39 = .ok (.ifCond .ge 9, 3) := by decide +kernel
theorem dX12_sheet_42 : decode cX12_sheet 42 = .ok (.aload_n 0, 1) := by decide +kernel
theorem dX12_sheet_43 : decode cX12_sheet 43 = .ok (.iconst 4, 1) := by decide +kernel
theorem dX12_sheet_44 : decode cX12_sheet 44 = .ok (.invokevirtual 80, 3) := by decide +kernel
theorem dX12_sheet_47 : decode cX12_sheet 47 = .ok (.ireturn, 1) := by decide +kernel
theorem dX12_sheet_48 : decode cX12_sheet 48 = .ok (.aload_n 0, 1) := by decide +kernel
theorem dX12_sheet_49 : decode cX12_sheet 49 = .ok (.getfield 7, 3) := by decide +kernel
theorem dX12_sheet_52 : decode cX12_sheet 52 = .ok (.iload_n 1, 1) := by decide +kernel
theorem dX12_sheet_53 : decode cX12_sheet 53 = .ok (.iload_n 2, 1) := by decide +kernel
theorem dX12_sheet_54 : decode cX12_sheet 54 = .ok (.iastore, 1) := by decide +kernel
theorem dX12_sheet_55 : decode cX12_sheet 55 = .ok (.aload_n 0, 1) := by decide +kernel
theorem dX12_sheet_56 : decode cX12_sheet 56 = .ok (.getfield 13, 3) := by decide +kernel
theorem dX12_sheet_59 : decode cX12_sheet 59 = .ok (.iload_n 1, 1) := by decide +kernel
theorem dX12_sheet_60 : decode cX12_sheet 60 = .ok (.iload_n 3, 1) := by decide +kernel
theorem dX12_sheet_61 : decode cX12_sheet 61 = .ok (.iastore, 1) := by decide +kernel
theorem dX12_sheet_62 : decode cX12_sheet 62 = .ok (.iconst 0, 1) := by decide +kernel
theorem dX12_sheet_63 : decode cX12_sheet 63 = .ok (.istore 4, 2) := by decide +kernel
theorem dX12_sheet_65 : decode cX12_sheet 65 = .ok (.iload 4, 2) := by decide +kernel
theorem dX12_sheet_67 : decode cX12_sheet 67 = .ok (.bipush 80, 2) := by decide +kernel
theorem dX12_sheet_69 : decode cX12_sheet 69 = .ok (.if_icmp .ge 22, 3) := by decide +kernel
theorem dX12_sheet_72 : decode cX12_sheet 72 = .ok (.aload_n 0, 1) := by decide +kernel
theorem dX12_sheet_73 : decode cX12_sheet 73 = .ok (.getfield 16, 3) := by decide +kernel
theorem dX12_sheet_76 : decode cX12_sheet 76 = .ok (.bipush 80, 2) := by decide +kernel
theorem dX12_sheet_78 : decode cX12_sheet 78 = .ok (.iload_n 1, 1) := by decide +kernel
theorem dX12_sheet_79 : decode cX12_sheet 79 = .ok (.imul, 1) := by decide +kernel
theorem dX12_sheet_80 : decode cX12_sheet 80 = .ok (.iload 4, 2) := by decide +kernel
theorem dX12_sheet_82 : decode cX12_sheet 82 = .ok (.iadd, 1) := by decide +kernel
theorem dX12_sheet_83 : decode cX12_sheet 83 = .ok (.iconst 0, 1) := by decide +kernel
theorem dX12_sheet_84 : decode cX12_sheet 84 = .ok (.iastore, 1) := by decide +kernel
theorem dX12_sheet_85 : decode cX12_sheet 85 = .ok (.iinc 4 1, 3) := by decide +kernel
theorem dX12_sheet_88 : decode cX12_sheet 88 = .ok (.goto (-23), 3) := by decide +kernel
theorem dX12_sheet_91 : decode cX12_sheet 91 = .ok (.iload_n 3, 1) := by decide +kernel
theorem dX12_sheet_92 : decode cX12_sheet 92 = .ok (.ireturn, 1) := by decide +kernel
theorem dX12_set_0 : decode cX12_set 0 = .ok (.aload_n 0, 1) := by decide +kernel
theorem dX12_set_1 : decode cX12_set 1 = .ok (.iconst 0, 1) := by decide +kernel
theorem dX12_set_2 : decode cX12_set 2 = .ok (.putfield 59, 3) := by decide +kernel
theorem dX12_set_5 : decode cX12_set 5 = .ok (.iload_n 1, 1) := by decide +kernel
theorem dX12_set_6 : decode cX12_set 6 = .ok (.invokestatic 73, 3) := by decide +kernel
theorem dX12_set_9 : decode cX12_set 9 = .ok (.ifCond .ne 6, 3) := by decide +kernel
theorem dX12_set_12 : decode cX12_set 12 = .ok (.ldc 79, 2) := by decide +kernel
theorem dX12_set_14 : decode cX12_set 14 = .ok (.ireturn, 1) := by decide +kernel
theorem dX12_set_15 : decode cX12_set 15 = .ok (.aload_n 0, 1) := by decide +kernel
theorem dX12_set_16 : decode cX12_set 16 = .ok (.iconst 0, 1) := by decide +kernel
theorem dX12_set_17 : decode cX12_set 17 = .ok (.putfield 63, 3) := by decide +kernel
theorem dX12_set_20 : decode cX12_set 20 = .ok (.aload_n 0, 1) := by decide +kernel
theorem dX12_set_21 : decode cX12_set 21 = .ok (.getfield 7, 3) := by decide +kernel
theorem dX12_set_24 : decode cX12_set 24 = .ok (.iload_n 1, 1) := by decide +kernel
theorem dX12_set_25 : decode cX12_set 25 = .ok (.iaload, 1) := by decide +kernel
theorem dX12_set_26 : decode cX12_set 26 = .ok (.ifCond .ge 9, 3) := by decide +kernel
theorem dX12_set_29 : decode cX12_set 29 = .ok (.aload_n 0, 1) := by decide +kernel
theorem dX12_set_30 : decode cX12_set 30 = .ok (.iconst 1, 1) := by decide +kernel
theorem dX12_set_31 : decode cX12_set 31 = .ok (.invokevirtual 80, 3) := by decide +kernel
theorem dX12_set_34 : decode cX12_set 34 = .ok (.ireturn, 1) := by decide +kernel
theorem dX12_set_35 : decode cX12_set 35 = .ok (.iload_n 2, 1) := by decide +kernel
theorem dX12_set_36 : decode cX12_set 36 = .ok (.i2l, 1) := by decide +kernel
theorem dX12_set_37 : decode cX12_set 37 = .ok (.lconst 0, 1) := by decide +kernel
theorem dX12_set_38 : decode cX12_set 38 = .ok (.aload_n 0, 1) := by decide +kernel
theorem dX12_set_39 : decode cX12_set 39 = .ok (.getfield 13, 3) := by decide +kernel
theorem dX12_set_42 : decode cX12_set 42 = .ok (.iload_n 1, 1) := by decide +kernel
theorem dX12_set_43 : decode cX12_set 43 = .ok (.iaload, 1) := by decide +kernel
theorem dX12_set_44 : decode cX12_set 44 = .ok (.iconst 1, 1) := by decide +kernel
theorem dX12_set_45 : decode cX12_set 45 = .ok (.isub, 1) := by decide +kernel
theorem dX12_set_46 : decode cX12_set 46 = .ok (.i2l, 1) := by decide +kernel
theorem dX12_set_47 : decode cX12_set 47 = .ok (.invokestatic 69, 3) := by decide +kernel
theorem dX12_set_50 : decode cX12_set 50 = .ok (.ifCond .ne 9, 3) := by decide +kernel
theorem dX12_set_53 : decode cX12_set 53 = .ok (.aload_n 0, 1) := by decide +kernel
theorem dX12_set_54 : decode cX12_set 54 = .ok (.iconst 2, 1) := by decide +kernel
theorem dX12_set_55 : decode cX12_set 55 = .ok (.invokevirtual 80, 3) := by decide +kernel
theorem dX12_set_58 : decode cX12_set 58 = .ok (.ireturn, 1) := by decide +kernel
theorem dX12_set_59 : decode cX12_set 59 = .ok (.aload_n 0, 1) := by decide +kernel
theorem dX12_set_60 : decode cX12_set 60 = .ok (.getfield 16, 3) := by decide +kernel
theorem dX12_set_63 : decode cX12_set 63 = .ok (.bipush 80, 2) := by decide +kernel
theorem dX12_set_65 : decode cX12_set 65 = .ok (.iload_n 1, 1) := by decide +kernel
theorem dX12_set_66 : decode cX12_set 66 = .ok (.imul, 1) := by decide +kernel
theorem dX12_set_67 : decode cX12_set 67 = .ok (.iload_n 2, 1) := by decide +kernel
theorem dX12_set_68 : decode cX12_set 68 = .ok (.iadd, 1) := by decide +kernel
theorem dX12_set_69 : decode cX12_set 69 = .ok (.aload_n 0, 1) := by decide +kernel
theorem dX12_set_70 : decode cX12_set 70 = .ok (.getfield 7, 3) := by decide +kernel
theorem dX12_set_73 : decode cX12_set 73 = .ok (.iload_n 1, 1) := by decide +kernel
theorem dX12_set_74 : decode cX12_set 74 = .ok (.iaload, 1) := by decide +kernel
theorem dX12_set_75 : decode cX12_set 75 = .ok (.ifCond .ne 8, 3) := by decide +kernel
theorem dX12_set_78 : decode cX12_set 78 = .ok (.iload_n 3, 1) := by decide +kernel
theorem dX12_set_79 : decode cX12_set 79 = .ok (.i2b, 1) := by decide +kernel
theorem dX12_set_80 : decode cX12_set 80 = .ok (.goto 19, 3) := by decide +kernel
theorem dX12_set_83 : decode cX12_set 83 = .ok (.aload_n 0, 1) := by decide +kernel
theorem dX12_set_84 : decode cX12_set 84 = .ok (.getfield 7, 3) := by decide +kernel
theorem dX12_set_87 : decode cX12_set 87 = .ok (.iload_n 1, 1) := by decide +kernel
theorem dX12_set_88 : decode cX12_set 88 = .ok (.iaload, 1) := by decide +kernel
theorem dX12_set_89 : decode cX12_set 89 = .ok (.iconst 1, 1) := by decide +kernel
theorem dX12_set_90 : decode cX12_set 90 = .ok (.if_icmp .ne 8, 3) := by decide +kernel
theorem dX12_set_93 : decode cX12_set 93 = .ok (.iload_n 3, 1) := by decide +kernel
theorem dX12_set_94 : decode cX12_set 94 = .ok (.i2s, 1) := by decide +kernel
theorem dX12_set_95 : decode cX12_set 95 = .ok (.goto 4, 3) := by decide +kernel
theorem dX12_set_98 : decode cX12_set 98 = .ok (.iload_n 3, 1) := by decide +kernel
theorem dX12_set_99 : decode cX12_set 99 = .ok (.iastore, 1) := by decide +kernel
theorem dX12_set_100 : decode cX12_set 100 = .ok (.aload_n 0, 1) := by decide +kernel
theorem dX12_set_101 : decode cX12_set 101 = .ok (.getfield 16, 3) := by decide +kernel
theorem dX12_set_104 : decode cX12_set 104 = .ok (.bipush 80, 2) := by decide +kernel
theorem dX12_set_106 : decode cX12_set 106 = .ok (.iload_n 1, 1) := by decide +kernel
theorem dX12_set_107 : decode cX12_set 107 = .ok (.imul, 1) := by decide +kernel
theorem dX12_set_108 : decode cX12_set 108 = .ok (.iload_n 2, 1) := by decide +kernel
theorem dX12_set_109 : decode cX12_set 109 = .ok (.iadd, 1) := by decide +kernel
theorem dX12_set_110 : decode cX12_set 110 = .ok (.iaload, 1) := by decide +kernel
theorem dX12_set_111 : decode cX12_set 111 = .ok (.ireturn, 1) := by decide +kernel
theorem dX12_copy_0 : decode cX12_copy 0 = .ok (.aload_n 0, 1) := by decide +kernel
theorem dX12_copy_1 : decode cX12_copy 1 = .ok (.iconst 0, 1) := by decide +kernel
theorem dX12_copy_2 : decode cX12_copy 2 = .ok (.putfield 59, 3) := by decide +kernel
theorem dX12_copy_5 : decode cX12_copy 5 = .ok (.iload_n 1, 1) := by decide +kernel
theorem dX12_copy_6 : decode cX12_copy 6 = .ok (.invokestatic 73, 3) := by decide +kernel
theorem dX12_copy_9 : decode cX12_copy 9 = .ok (.ifCond .eq 10, 3) := by decide +kernel
theorem dX12_copy_12 : decode cX12_copy 12 = .ok (.iload_n 3, 1) := by decide +kernel
theorem dX12_copy_13 : decode cX12_copy 13 = .ok (.invokestatic 73, 3) := by decide +kernel
theorem dX12_copy_16 : decode cX12_copy 16 = .ok (.ifCond .ne 6, 3) := by decide +kernel
theorem dX12_copy_19 : decode cX12_copy 19 = .ok (.ldc 79, 2) := by decide +kernel
theorem dX12_copy_21 : decode cX12_copy 21 = .ok (.ireturn, 1) := by decide +kernel
theorem dX12_copy_22 : decode cX12_copy 22 = .ok (.aload_n 0, 1) := by decide +kernel
theorem dX12_copy_23 : decode cX12_copy 23 = .ok (.iconst 0, 1) := by decide +kernel
theorem dX12_copy_24 : decode cX12_copy 24 = .ok (.putfield 63, 3) := by decide +kernel
theorem dX12_copy_27 : decode cX12_copy 27 = .ok (.aload_n 0, 1) := by decide +kernel
theorem dX12_copy_28 : decode cX12_copy 28 = .ok (.getfield 7, 3) := by decide +kernel
theorem dX12_copy_31 : decode cX12_copy 31 = .ok (.iload_n 1, 1) := by decide +kernel
theorem dX12_copy_32 : decode cX12_copy 32 = .ok (.iaload, 1) := by decide +kernel
theorem dX12_copy_33 : decode cX12_copy 33 = .ok (.ifCond .lt 12, 3) := by decide +kernel
theorem dX12_copy_36 : decode cX12_copy 36 = .ok (.aload_n 0, 1) := by decide +kernel
theorem dX12_copy_37 : decode cX12_copy 37 = .ok (.getfield 7, 3) := by decide +kernel
theorem dX12_copy_40 : decode cX12_copy 40 = .ok (.iload_n 3, 1) := by decide +kernel
theorem dX12_copy_41 : decode cX12_copy 41 = .ok (.iaload, 1) := by decide +kernel
theorem dX12_copy_42 : decode cX12_copy 42 = .ok (.ifCond .ge 9, 3) := by decide +kernel
theorem dX12_copy_45 : decode cX12_copy 45 = .ok (.aload_n 0, 1) := by decide +kernel
theorem dX12_copy_46 : decode cX12_copy 46 = .ok (.iconst 1, 1) := by decide +kernel
theorem dX12_copy_47 : decode cX12_copy 47 = .ok (.invokevirtual 80, 3) := by decide +kernel
theorem dX12_copy_50 : decode cX12_copy 50 = .ok (.ireturn, 1) := by decide +kernel
theorem dX12_copy_51 : decode cX12_copy 51 = .ok (.aload_n 0, 1) := by decide +kernel
theorem dX12_copy_52 : decode cX12_copy 52 = .ok (.getfield 7, 3) := by decide +kernel
theorem dX12_copy_55 : decode cX12_copy 55 = .ok (.iload_n 1, 1) := by decide +kernel
theorem dX12_copy_56 : decode cX12_copy 56 = .ok (.iaload, 1) := by decide +kernel
theorem dX12_copy_57 : decode cX12_copy 57 = .ok (.aload_n 0, 1) := by decide +kernel
theorem dX12_copy_58 : decode cX12_copy 58 = .ok (.getfield 7, 3) := by decide +kernel
theorem dX12_copy_61 : decode cX12_copy 61 = .ok (.iload_n 3, 1) := by decide +kernel
theorem dX12_copy_62 : decode cX12_copy 62 = .ok (.iaload, 1) := by decide +kernel
theorem dX12_copy_63 : decode cX12_copy 63 = .ok (.if_icmp .eq 9, 3) := by decide +kernel
theorem dX12_copy_66 : decode cX12_copy 66 = .ok (.aload_n 0, 1) := by decide +kernel
theorem dX12_copy_67 : decode cX12_copy 67 = .ok (.iconst 5, 1) := by decide +kernel
theorem dX12_copy_68 : decode cX12_copy 68 = .ok (.invokevirtual 80, 3) := by decide +kernel
theorem dX12_copy_71 : decode cX12_copy 71 = .ok (.ireturn, 1) := by decide +kernel
theorem dX12_copy_72 : decode cX12_copy 72 = .ok (.iload_n 2, 1) := by decide +kernel
theorem dX12_copy_73 : decode cX12_copy 73 = .ok (.ifCond .lt 48, 3) := by decide +kernel
theorem dX12_copy_76 : decode cX12_copy 76 = .ok (.iload 4, 2) := by decide +kernel
theorem dX12_copy_78 : decode cX12_copy 78 = .ok (.ifCond .lt 43, 3) := by decide +kernel
theorem dX12_copy_81 : decode cX12_copy 81 = .ok (.iload 5, 2) := by decide +kernel
theorem dX12_copy_83 : decode cX12_copy 83 = .ok (.ifCond .lt 38, 3) := by decide +kernel
theorem dX12_copy_86 : decode cX12_copy 86 = .ok (.iload_n 2, 1) := by decide +kernel
theorem dX12_copy_87 : decode cX12_copy 87 = .ok (.i2l, 1) := by decide +kernel
theorem dX12_copy_88 : decode cX12_copy 88 = .ok (.iload 5, 2) := by decide +kernel
theorem dX12_copy_90 : decode cX12_copy 90 = .ok (.i2l, 1) := by decide +kernel
theorem dX12_copy_91 : decode cX12_copy 91 = .ok (.ladd, 1) := by decide +kernel
theorem dX12_copy_92 : decode cX12_copy 92 = .ok (.aload_n 0, 1) := by decide +kernel
theorem dX12_copy_93 : decode cX12_copy 93 = .ok (.getfield 13, 3) := by decide +kernel
theorem dX12_copy_96 : decode cX12_copy 96 = .ok (.iload_n 1, 1) := by decide +kernel
theorem dX12_copy_97 : decode cX12_copy 97 = .ok (.iaload, 1) := by decide +kernel
theorem dX12_copy_98 : decode cX12_copy 98 = .ok (.i2l, 1) := by decide +kernel
theorem dX12_copy_99 : decode cX12_copy 99 = .ok (.lcmp, 1) := by decide +kernel
theorem dX12_copy_100 : decode cX12_copy 100 = .ok (.ifCond .gt 21, 3) := by decide +kernel
theorem dX12_copy_103 : decode cX12_copy 103 = .ok (.iload 4, 2) := by decide +kernel
theorem dX12_copy_105 : decode cX12_copy 105 = .ok (.i2l, 1) := by decide +kernel
theorem dX12_copy_106 : decode cX12_copy 106 = .ok (.iload 5, 2) := by decide +kernel
theorem dX12_copy_108 : decode cX12_copy 108 = .ok (.i2l, 1) := by decide +kernel
theorem dX12_copy_109 : decode cX12_copy 109 = .ok (.ladd, 1) := by decide +kernel
theorem dX12_copy_110 : decode cX12_copy 110 = .ok (.aload_n 0, 1) := by decide +kernel
theorem dX12_copy_111 : decode cX12_copy 111 = .ok (.getfield 13, 3) := by decide +kernel
theorem dX12_copy_114 : decode cX12_copy 114 = .ok (.iload_n 3, 1) := by decide +kernel
theorem dX12_copy_115 : decode cX12_copy 115 = .ok (.iaload, 1) := by decide +kernel
theorem dX12_copy_116 : decode cX12_copy 116 = .ok (.i2l, 1) := by decide +kernel
theorem dX12_copy_117 : decode cX12_copy 117 = .ok (.lcmp, 1) := by decide +kernel
theorem dX12_copy_118 : decode cX12_copy 118 = .ok (.ifCond .le 9, 3) := by decide +kernel
theorem dX12_copy_121 : decode cX12_copy 121 = .ok (.aload_n 0, 1) := by decide +kernel
theorem dX12_copy_122 : decode cX12_copy 122 = .ok (.iconst 2, 1) := by decide +kernel
theorem dX12_copy_123 : decode cX12_copy 123 = .ok (.invokevirtual 80, 3) := by decide +kernel
theorem dX12_copy_126 : decode cX12_copy 126 = .ok (.ireturn, 1) := by decide +kernel
theorem dX12_copy_127 : decode cX12_copy 127 = .ok (.iload_n 2, 1) := by decide +kernel
theorem dX12_copy_128 : decode cX12_copy 128 = .ok (.iload 4, 2) := by decide +kernel
theorem dX12_copy_130 : decode cX12_copy 130 = .ok (.if_icmp .lt 7, 3) := by decide +kernel
theorem dX12_copy_133 : decode cX12_copy 133 = .ok (.iconst 1, 1) := by decide +kernel
theorem dX12_copy_134 : decode cX12_copy 134 = .ok (.goto 4, 3) := by decide +kernel
theorem dX12_copy_137 : decode cX12_copy 137 = .ok (.iconst 0, 1) := by decide +kernel
theorem dX12_copy_138 : decode cX12_copy 138 = .ok (.istore 6, 2) := by decide +kernel
theorem dX12_copy_140 : decode cX12_copy 140 = .ok (.iconst 0, 1) := by decide +kernel
theorem dX12_copy_141 : decode cX12_copy 141 = .ok (.istore 7, 2) := by decide +kernel
theorem dX12_copy_143 : decode cX12_copy 143 = .ok (.iload 7, 2) := by decide +kernel
theorem dX12_copy_145 : decode cX12_copy 145 = .ok (.iload 5, 2) := by decide +kernel
theorem dX12_copy_147 : decode cX12_copy 147 = .ok (.if_icmp .ge 57, 3) := by decide +kernel
theorem dX12_copy_150 : decode cX12_copy 150 = .ok (.iload 6, 2) := by decide +kernel
theorem dX12_copy_152 : decode cX12_copy 152 = .ok (.ifCond .eq 8, 3) := by decide +kernel
theorem dX12_copy_155 : decode cX12_copy 155 = .ok (.iload 7, 2) := by decide +kernel
theorem dX12_copy_157 : decode cX12_copy 157 = .ok (.goto 10, 3) := by decide +kernel
theorem dX12_copy_160 : decode cX12_copy 160 = .ok (.iload 5, 2) := by decide +kernel
theorem dX12_copy_162 : decode cX12_copy 162 = .ok (.iconst 1, 1) := by decide +kernel
theorem dX12_copy_163 : decode cX12_copy 163 = .ok (.isub, 1) := by decide +kernel
theorem dX12_copy_164 : decode cX12_copy 164 = .ok (.iload 7, 2) := by decide +kernel
theorem dX12_copy_166 : decode cX12_copy 166 = .ok (.isub, 1) := by decide +kernel
theorem dX12_copy_167 : decode cX12_copy 167 = .ok (.istore 8, 2) := by decide +kernel
theorem dX12_copy_169 : decode cX12_copy 169 = .ok (.aload_n 0, 1) := by decide +kernel
theorem dX12_copy_170 : decode cX12_copy 170 = .ok (.getfield 16, 3) := by decide +kernel
theorem dX12_copy_173 : decode cX12_copy 173 = .ok (.bipush 80, 2) := by decide +kernel
theorem dX12_copy_175 : decode cX12_copy 175 = .ok (.iload_n 3, 1) := by decide +kernel
theorem dX12_copy_176 : decode cX12_copy 176 = .ok (.imul, 1) := by decide +kernel
theorem dX12_copy_177 : decode cX12_copy 177 = .ok (.iload 4, 2) := by decide +kernel
theorem dX12_copy_179 : decode cX12_copy 179 = .ok (.iadd, 1) := by decide +kernel
theorem dX12_copy_180 : decode cX12_copy 180 = .ok (.iload 8, 2) := by decide +kernel
theorem dX12_copy_182 : decode cX12_copy 182 = .ok (.iadd, 1) := by decide +kernel
theorem dX12_copy_183 : decode cX12_copy 183 = .ok (.aload_n 0, 1) := by decide +kernel
theorem dX12_copy_184 : decode cX12_copy 184 = .ok (.getfield 16, 3) := by decide +kernel
theorem dX12_copy_187 : decode cX12_copy 187 = .ok (.bipush 80, 2) := by decide +kernel
theorem dX12_copy_189 : decode cX12_copy 189 = .ok (.iload_n 1, 1) := by decide +kernel
theorem dX12_copy_190 : decode cX12_copy 190 = .ok (.imul, 1) := by decide +kernel
theorem dX12_copy_191 : decode cX12_copy 191 = .ok (.iload_n 2, 1) := by decide +kernel
theorem dX12_copy_192 : decode cX12_copy 192 = .ok (.iadd, 1) := by decide +kernel
theorem dX12_copy_193 : decode cX12_copy 193 = .ok (.iload 8, 2) := by decide +kernel
theorem dX12_copy_195 : decode cX12_copy 195 = .ok (.iadd, 1) := by decide +kernel
theorem dX12_copy_196 : decode cX12_copy 196 = .ok (.iaload, 1) := by decide +kernel
theorem dX12_copy_197 : decode cX12_copy 197 = .ok (.iastore, 1) := by decide +kernel
theorem dX12_copy_198 : decode cX12_copy 198 = .ok (.iinc 7 1, 3) := by decide +kernel
theorem dX12_copy_201 : decode cX12_copy 201 = .ok (.goto (-58), 3) := by decide +kernel
theorem dX12_copy_204 : decode cX12_copy 204 = .ok (.iload 5, 2) := by decide +kernel
theorem dX12_copy_206 : decode cX12_copy 206 = .ok (.ireturn, 1) := by decide +kernel
theorem dX12_drop_0 : decode cX12_drop 0 = .ok (.aload_n 0, 1) := by decide +kernel
theorem dX12_drop_1 : decode cX12_drop 1 = .ok (.iconst 0, 1) := by decide +kernel
theorem dX12_drop_2 : decode cX12_drop 2 = .ok (.putfield 59, 3) := by decide +kernel
theorem dX12_drop_5 : decode cX12_drop 5 = .ok (.iload_n 1, 1) := by decide +kernel
theorem dX12_drop_6 : decode cX12_drop 6 = .ok (.invokestatic 73, 3) := by decide +kernel
theorem dX12_drop_9 : decode cX12_drop 9 = .ok (.ifCond .ne 6, 3) := by decide +kernel
theorem dX12_drop_12 : decode cX12_drop 12 = .ok (.ldc 79, 2) := by decide +kernel
theorem dX12_drop_14 : decode cX12_drop 14 = .ok (.ireturn, 1) := by decide +kernel
theorem dX12_drop_15 : decode cX12_drop 15 = .ok (.aload_n 0, 1) := by decide +kernel
theorem dX12_drop_16 : decode cX12_drop 16 = .ok (.iconst 0, 1) := by decide +kernel
theorem dX12_drop_17 : decode cX12_drop 17 = .ok (.putfield 63, 3) := by decide +kernel
theorem dX12_drop_20 : decode cX12_drop 20 = .ok (.aload_n 0, 1) := by decide +kernel
theorem dX12_drop_21 : decode cX12_drop 21 = .ok (.getfield 7, 3) := by decide +kernel
theorem dX12_drop_24 : decode cX12_drop 24 = .ok (.iload_n 1, 1) := by decide +kernel
theorem dX12_drop_25 : decode cX12_drop 25 = .ok (.iaload, 1) := by decide +kernel
theorem dX12_drop_26 : decode cX12_drop 26 = .ok (.ifCond .ge 9, 3) := by decide +kernel
theorem dX12_drop_29 : decode cX12_drop 29 = .ok (.aload_n 0, 1) := by decide +kernel
theorem dX12_drop_30 : decode cX12_drop 30 = .ok (.iconst 1, 1) := by decide +kernel
theorem dX12_drop_31 : decode cX12_drop 31 = .ok (.invokevirtual 80, 3) := by decide +kernel
theorem dX12_drop_34 : decode cX12_drop 34 = .ok (.ireturn, 1) := by decide +kernel
theorem dX12_drop_35 : decode cX12_drop 35 = .ok (.aload_n 0, 1) := by decide +kernel
theorem dX12_drop_36 : decode cX12_drop 36 = .ok (.getfield 7, 3) := by decide +kernel
theorem dX12_drop_39 : decode cX12_drop 39 = .ok (.iload_n 1, 1) := by decide +kernel
theorem dX12_drop_40 : decode cX12_drop 40 = .ok (.iconst (-1), 1) := by decide +kernel
theorem dX12_drop_41 : decode cX12_drop 41 = .ok (.iastore, 1) := by decide +kernel
theorem dX12_drop_42 : decode cX12_drop 42 = .ok (.aload_n 0, 1) := by decide +kernel
theorem dX12_drop_43 : decode cX12_drop 43 = .ok (.getfield 13, 3) := by decide +kernel
theorem dX12_drop_46 : decode cX12_drop 46 = .ok (.iload_n 1, 1) := by decide +kernel
theorem dX12_drop_47 : decode cX12_drop 47 = .ok (.iaload, 1) := by decide +kernel
theorem dX12_drop_48 : decode cX12_drop 48 = .ok (.ireturn, 1) := by decide +kernel
theorem dX12_room_0 : decode cX12_room 0 = .ok (.aload_n 0, 1) := by decide +kernel
theorem dX12_room_1 : decode cX12_room 1 = .ok (.iconst 0, 1) := by decide +kernel
theorem dX12_room_2 : decode cX12_room 2 = .ok (.putfield 59, 3) := by decide +kernel
theorem dX12_room_5 : decode cX12_room 5 = .ok (.iload_n 1, 1) := by decide +kernel
theorem dX12_room_6 : decode cX12_room 6 = .ok (.i2l, 1) := by decide +kernel
theorem dX12_room_7 : decode cX12_room 7 = .ok (.lconst 0, 1) := by decide +kernel
theorem dX12_room_8 : decode cX12_room 8 = .ok (.ldc2_w 84, 3) := by decide +kernel
theorem dX12_room_11 : decode cX12_room 11 = .ok (.invokestatic 69, 3) := by decide +kernel
theorem dX12_room_14 : decode cX12_room 14 = .ok (.ifCond .ne 6, 3) := by decide +kernel
theorem dX12_room_17 : decode cX12_room 17 = .ok (.ldc 79, 2) := by decide +kernel
theorem dX12_room_19 : decode cX12_room 19 = .ok (.ireturn, 1) := by decide +kernel
theorem dX12_room_20 : decode cX12_room 20 = .ok (.iload_n 1, 1) := by decide +kernel
theorem dX12_room_21 : decode cX12_room 21 = .ok (.ifCond .eq 13, 3) := by decide +kernel
theorem dX12_room_24 : decode cX12_room 24 = .ok (.iload_n 1, 1) := by decide +kernel
theorem dX12_room_25 : decode cX12_room 25 = .ok (.iconst 3, 1) := by decide +kernel
theorem dX12_room_26 : decode cX12_room 26 = .ok (.if_icmp .eq 8, 3) := by decide +kernel
theorem dX12_room_29 : decode cX12_room 29 = .ok (.iload_n 1, 1) := by decide +kernel
theorem dX12_room_30 : decode cX12_room 30 = .ok (.iconst 4, 1) := by decide +kernel
theorem dX12_room_31 : decode cX12_room 31 = .ok (.if_icmp .ne 7, 3) := by decide +kernel
theorem dX12_room_34 : decode cX12_room 34 = .ok (.iconst 0, 1) := by decide +kernel
theorem dX12_room_35 : decode cX12_room 35 = .ok (.goto 4, 3) := by decide +kernel
theorem dX12_room_38 : decode cX12_room 38 = .ok (.iconst 1, 1) := by decide +kernel
theorem dX12_room_39 : decode cX12_room 39 = .ok (.istore_n 3, 1) := by decide +kernel
theorem dX12_room_40 : decode cX12_room 40 = .ok (.iload_n 1, 1) := by decide +kernel
theorem dX12_room_41 : decode cX12_room 41 = .ok (.ifCond .ne 9, 3) := by decide +kernel
theorem dX12_room_44 : decode cX12_room 44 = .ok (.sipush 500, 3) := by decide +kernel
theorem dX12_room_47 : decode cX12_room 47 = .ok (.goto 46, 3) := by decide +kernel
theorem dX12_room_50 : decode cX12_room 50 = .ok (.iload_n 1, 1) := by decide +kernel
theorem dX12_room_51 : decode cX12_room 51 = .ok (.iconst 1, 1) := by decide +kernel
theorem dX12_room_52 : decode cX12_room 52 = .ok (.if_icmp .ne 8, 3) := by decide +kernel
theorem dX12_room_55 : decode cX12_room 55 = .ok (.bipush 100, 2) := by decide +kernel
theorem dX12_room_57 : decode cX12_room 57 = .ok (.goto 36, 3) := by decide +kernel
theorem dX12_room_60 : decode cX12_room 60 = .ok (.iload_n 1, 1) := by decide +kernel
theorem dX12_room_61 : decode cX12_room 61 = .ok (.iconst 2, 1) := by decide +kernel
theorem dX12_room_62 : decode cX12_room 62 = .ok (.if_icmp .ne 9, 3) := by decide +kernel
theorem dX12_room_65 : decode cX12_room 65 = .ok (.sipush 1000, 3) := by decide +kernel
theorem dX12_room_68 : decode cX12_room 68 = .ok (.goto 25, 3) := by decide +kernel
theorem dX12_room_71 : decode cX12_room 71 = .ok (.iload_n 1, 1) := by decide +kernel
theorem dX12_room_72 : decode cX12_room 72 = .ok (.iconst 3, 1) := by decide +kernel
theorem dX12_room_73 : decode cX12_room 73 = .ok (.if_icmp .ne 7, 3) := by decide +kernel
theorem dX12_room_76 : decode cX12_room 76 = .ok (.iconst 1, 1) := by decide +kernel
theorem dX12_room_77 : decode cX12_room 77 = .ok (.goto 16, 3) := by decide +kernel
theorem dX12_room_80 : decode cX12_room 80 = .ok (.iload_n 1, 1) := by decide +kernel
theorem dX12_room_81 : decode cX12_room 81 = .ok (.iconst 4, 1) := by decide +kernel
theorem dX12_room_82 : decode cX12_room 82 = .ok (.if_icmp .ne 8, 3) := by decide +kernel
theorem dX12_room_85 : decode cX12_room 85 = .ok (.bipush 50, 2) := by decide +kernel
theorem dX12_room_87 : decode cX12_room 87 = .ok (.goto 6, 3) := by decide +kernel
theorem dX12_room_90 : decode cX12_room 90 = .ok (.sipush 400, 3) := by decide +kernel
theorem dX12_room_93 : decode cX12_room 93 = .ok (.istore 4, 2) := by decide +kernel
theorem dX12_room_95 : decode cX12_room 95 = .ok (.iload_n 2, 1) := by decide +kernel
theorem dX12_room_96 : decode cX12_room 96 = .ok (.i2l, 1) := by decide +kernel
theorem dX12_room_97 : decode cX12_room 97 = .ok (.iload_n 3, 1) := by decide +kernel
theorem dX12_room_98 : decode cX12_room 98 = .ok (.i2l, 1) := by decide +kernel
theorem dX12_room_99 : decode cX12_room 99 = .ok (.iload 4, 2) := by decide +kernel
theorem dX12_room_101 : decode cX12_room 101 = .ok (.i2l, 1) := by decide +kernel
theorem dX12_room_102 : decode cX12_room 102 = .ok (.invokestatic 69, 3) := by decide +kernel
theorem dX12_room_105 : decode cX12_room 105 = .ok (.ifCond .ne 6, 3) := by decide +kernel
theorem dX12_room_108 : decode cX12_room 108 = .ok (.ldc 79, 2) := by decide +kernel
theorem dX12_room_110 : decode cX12_room 110 = .ok (.ireturn, 1) := by decide +kernel
theorem dX12_room_111 : decode cX12_room 111 = .ok (.aload_n 0, 1) := by decide +kernel
theorem dX12_room_112 : decode cX12_room 112 = .ok (.getfield 19, 3) := by decide +kernel
theorem dX12_room_115 : decode cX12_room 115 = .ok (.iload_n 1, 1) := by decide +kernel
theorem dX12_room_116 : decode cX12_room 116 = .ok (.iaload, 1) := by decide +kernel
theorem dX12_room_117 : decode cX12_room 117 = .ok (.istore 5, 2) := by decide +kernel
theorem dX12_room_119 : decode cX12_room 119 = .ok (.aload_n 0, 1) := by decide +kernel
theorem dX12_room_120 : decode cX12_room 120 = .ok (.getfield 19, 3) := by decide +kernel
theorem dX12_room_123 : decode cX12_room 123 = .ok (.iload_n 1, 1) := by decide +kernel
theorem dX12_room_124 : decode cX12_room 124 = .ok (.iload_n 2, 1) := by decide +kernel
theorem dX12_room_125 : decode cX12_room 125 = .ok (.iastore, 1) := by decide +kernel
theorem dX12_room_126 : decode cX12_room 126 = .ok (.iload 5, 2) := by decide +kernel
theorem dX12_room_128 : decode cX12_room 128 = .ok (.ireturn, 1) := by decide +kernel
theorem dX12_bend_0 : decode cX12_bend 0 = .ok (.aload_n 0, 1) := by decide +kernel
theorem dX12_bend_1 : decode cX12_bend 1 = .ok (.iconst 0, 1) := by decide +kernel
theorem dX12_bend_2 : decode cX12_bend 2 = .ok (.putfield 59, 3) := by decide +kernel
theorem dX12_bend_5 : decode cX12_bend 5 = .ok (.iload_n 1, 1) := by decide +kernel
theorem dX12_bend_6 : decode cX12_bend 6 = .ok (.i2l, 1) := by decide +kernel
theorem dX12_bend_7 : decode cX12_bend 7 = .ok (.ldc2_w 86, 3) := by decide +kernel
theorem dX12_bend_10 : decode cX12_bend 10 = .ok (.ldc2_w 88, 3) := by decide +kernel
theorem dX12_bend_13 : decode cX12_bend 13 = .ok (.invokestatic 69, 3) := by decide +kernel
theorem dX12_bend_16 : decode cX12_bend 16 = .ok (.ifCond .eq 17, 3) := by decide +kernel
theorem dX12_bend_19 : decode cX12_bend 19 = .ok (.iload_n 2, 1) := by decide +kernel
theorem dX12_bend_20 : decode cX12_bend 20 = .ok (.i2l, 1) := by decide +kernel
theorem dX12_bend_21 : decode cX12_bend 21 = .ok (.ldc2_w 90, 3) := by decide +kernel
theorem dX12_bend_24 : decode cX12_bend 24 = .ok (.ldc2_w 92, 3) := by decide +kernel
theorem dX12_bend_27 : decode cX12_bend 27 = .ok (.invokestatic 69, 3) := by decide +kernel
theorem dX12_bend_30 : decode cX12_bend 30 = .ok (.ifCond .ne 6, 3) := by decide +kernel
theorem dX12_bend_33 : decode cX12_bend 33 = .ok (.ldc 79, 2) := by decide +kernel
theorem dX12_bend_35 : decode cX12_bend 35 = .ok (.ireturn, 1) := by decide +kernel
theorem dX12_bend_36 : decode cX12_bend 36 = .ok (.aload_n 0, 1) := by decide +kernel
theorem dX12_bend_37 : decode cX12_bend 37 = .ok (.getfield 22, 3) := by decide +kernel
theorem dX12_bend_40 : decode cX12_bend 40 = .ok (.iload_n 1, 1) := by decide +kernel
theorem dX12_bend_41 : decode cX12_bend 41 = .ok (.bipush 8, 2) := by decide +kernel
theorem dX12_bend_43 : decode cX12_bend 43 = .ok (.iadd, 1) := by decide +kernel
theorem dX12_bend_44 : decode cX12_bend 44 = .ok (.iaload, 1) := by decide +kernel
theorem dX12_bend_45 : decode cX12_bend 45 = .ok (.istore_n 3, 1) := by decide +kernel
theorem dX12_bend_46 : decode cX12_bend 46 = .ok (.aload_n 0, 1) := by decide +kernel
theorem dX12_bend_47 : decode cX12_bend 47 = .ok (.getfield 22, 3) := by decide +kernel
theorem dX12_bend_50 : decode cX12_bend 50 = .ok (.iload_n 1, 1) := by decide +kernel
theorem dX12_bend_51 : decode cX12_bend 51 = .ok (.bipush 8, 2) := by decide +kernel
theorem dX12_bend_53 : decode cX12_bend 53 = .ok (.iadd, 1) := by decide +kernel
theorem dX12_bend_54 : decode cX12_bend 54 = .ok (.iload_n 2, 1) := by decide +kernel
theorem dX12_bend_55 : decode cX12_bend 55 = .ok (.iastore, 1) := by decide +kernel
theorem dX12_bend_56 : decode cX12_bend 56 = .ok (.iload_n 3, 1) := by decide +kernel
theorem dX12_bend_57 : decode cX12_bend 57 = .ok (.ireturn, 1) := by decide +kernel
theorem dX12_told_0 : decode cX12_told 0 = .ok (.aload_n 0, 1) := by decide +kernel
theorem dX12_told_1 : decode cX12_told 1 = .ok (.iconst 0, 1) := by decide +kernel
theorem dX12_told_2 : decode cX12_told 2 = .ok (.putfield 59, 3) := by decide +kernel
theorem dX12_told_5 : decode cX12_told 5 = .ok (.iload_n 1, 1) := by decide +kernel
theorem dX12_told_6 : decode cX12_told 6 = .ok (.i2l, 1) := by decide +kernel
theorem dX12_told_7 : decode cX12_told 7 = .ok (.lconst 0, 1) := by decide +kernel
theorem dX12_told_8 : decode cX12_told 8 = .ok (.ldc2_w 84, 3) := by decide +kernel
theorem dX12_told_11 : decode cX12_told 11 = .ok (.invokestatic 69, 3) := by decide +kernel
theorem dX12_told_14 : decode cX12_told 14 = .ok (.ifCond .eq 12, 3) := by decide +kernel
theorem dX12_told_17 : decode cX12_told 17 = .ok (.aload_n 0, 1) := by decide +kernel
theorem dX12_told_18 : decode cX12_told 18 = .ok (.getfield 19, 3) := by decide +kernel
theorem dX12_told_21 : decode cX12_told 21 = .ok (.iload_n 1, 1) := by decide +kernel
theorem dX12_told_22 : decode cX12_told 22 = .ok (.iaload, 1) := by decide +kernel
theorem dX12_told_23 : decode cX12_told 23 = .ok (.goto 31, 3) := by decide +kernel
theorem dX12_told_26 : decode cX12_told 26 = .ok (.iload_n 1, 1) := by decide +kernel
theorem dX12_told_27 : decode cX12_told 27 = .ok (.i2l, 1) := by decide +kernel
theorem dX12_told_28 : decode cX12_told 28 = .ok (.ldc2_w 67, 3) := by decide +kernel
theorem dX12_told_31 : decode cX12_told 31 = .ok (.ldc2_w 94, 3) := by decide +kernel
theorem dX12_told_34 : decode cX12_told 34 = .ok (.invokestatic 69, 3) := by decide +kernel
theorem dX12_told_37 : decode cX12_told 37 = .ok (.ifCond .eq 15, 3) := by decide +kernel
theorem dX12_told_40 : decode cX12_told 40 = .ok (.aload_n 0, 1) := by decide +kernel
theorem dX12_told_41 : decode cX12_told 41 = .ok (.getfield 22, 3) := by decide +kernel
theorem dX12_told_44 : decode cX12_told 44 = .ok (.iload_n 1, 1) := by decide +kernel
theorem dX12_told_45 : decode cX12_told 45 = .ok (.bipush 7, 2) := by decide +kernel
theorem dX12_told_47 : decode cX12_told 47 = .ok (.isub, 1) := by decide +kernel
theorem dX12_told_48 : decode cX12_told 48 = .ok (.iaload, 1) := by decide +kernel
theorem dX12_told_49 : decode cX12_told 49 = .ok (.goto 5, 3) := by decide +kernel
theorem dX12_told_52 : decode cX12_told 52 = .ok (.ldc 79, 2) := by decide +kernel
theorem dX12_told_54 : decode cX12_told 54 = .ok (.ireturn, 1) := by decide +kernel
theorem dX12_isPlace_0 : decode cX12_isPlace 0 = .ok (.iload_n 0, 1) := by decide +kernel
theorem dX12_isPlace_1 : decode cX12_isPlace 1 = .ok (.i2l, 1) := by decide +kernel
theorem dX12_isPlace_2 : decode cX12_isPlace 2 = .ok (.ldc2_w 96, 3) := by decide +kernel
theorem dX12_isPlace_5 : decode cX12_isPlace 5 = .ok (.ldc2_w 98, 3) := by decide +kernel
theorem dX12_isPlace_8 : decode cX12_isPlace 8 = .ok (.invokestatic 69, 3) := by decide +kernel
theorem dX12_isPlace_11 : decode cX12_isPlace 11 = .ok (.ifCond .eq 33, 3) := by decide +kernel
theorem dX12_isPlace_14 : decode cX12_isPlace 14 = .ok (.iload_n 1, 1) := by decide +kernel
theorem dX12_isPlace_15 : decode cX12_isPlace 15 = .ok (.i2l, 1) := by decide +kernel
theorem dX12_isPlace_16 : decode cX12_isPlace 16 = .ok (.ldc2_w 96, 3) := by decide +kernel
theorem dX12_isPlace_19 : decode cX12_isPlace 19 = .ok (.ldc2_w 98, 3) := by decide +kernel
theorem dX12_isPlace_22 : decode cX12_isPlace 22 = .ok (.invokestatic 69, 3) := by decide +kernel
theorem dX12_isPlace_25 : decode cX12_isPlace 25 = .ok (.ifCond .eq 19, 3) := by decide +kernel
theorem dX12_isPlace_28 : decode cX12_isPlace 28 = .ok (.iload_n 2, 1) := by decide +kernel
theorem dX12_isPlace_29 : decode cX12_isPlace 29 = .ok (.i2l, 1) := by decide +kernel
theorem dX12_isPlace_30 : decode cX12_isPlace 30 = .ok (.lconst 1, 1) := by decide +kernel
theorem dX12_isPlace_31 : decode cX12_isPlace 31 = .ok (.ldc2_w 100, 3) := by decide +kernel
theorem dX12_isPlace_34 : decode cX12_isPlace 34 = .ok (.invokestatic 69, 3) := by decide +kernel
theorem dX12_isPlace_37 : decode cX12_isPlace 37 = .ok (.ifCond .eq 7, 3) := by decide +kernel
theorem dX12_isPlace_40 : decode cX12_isPlace 40 = .ok (.iconst 1, 1) := by decide +kernel
theorem dX12_isPlace_41 : decode cX12_isPlace 41 = .ok (.goto 4, 3) := by decide +kernel
theorem dX12_isPlace_44 : decode cX12_isPlace 44 = .ok (.iconst 0, 1) := by decide +kernel
theorem dX12_isPlace_45 : decode cX12_isPlace 45 = .ok (.ireturn, 1) := by decide +kernel
theorem dX12_isThing_0 : decode cX12_isThing 0 = .ok (.iload_n 1, 1) := by decide +kernel
theorem dX12_isThing_1 : decode cX12_isThing 1 = .ok (.i2l, 1) := by decide +kernel
theorem dX12_isThing_2 : decode cX12_isThing 2 = .ok (.lconst 0, 1) := by decide +kernel
theorem dX12_isThing_3 : decode cX12_isThing 3 = .ok (.aload_n 0, 1) := by decide +kernel
theorem dX12_isThing_4 : decode cX12_isThing 4 = .ok (.getfield 102, 3) := by decide +kernel
theorem dX12_isThing_7 : decode cX12_isThing 7 = .ok (.iconst 1, 1) := by decide +kernel
theorem dX12_isThing_8 : decode cX12_isThing 8 = .ok (.isub, 1) := by decide +kernel
theorem dX12_isThing_9 : decode cX12_isThing 9 = .ok (.i2l, 1) := by decide +kernel
theorem dX12_isThing_10 : decode cX12_isThing 10 = .ok (.invokestatic 69, 3) := by decide +kernel
theorem dX12_isThing_13 : decode cX12_isThing 13 = .ok (.ireturn, 1) := by decide +kernel
theorem dX12_thing_0 : decode cX12_thing 0 = .ok (.aload_n 0, 1) := by decide +kernel
theorem dX12_thing_1 : decode cX12_thing 1 = .ok (.iconst 0, 1) := by decide +kernel
theorem dX12_thing_2 : decode cX12_thing 2 = .ok (.putfield 59, 3) := by decide +kernel
theorem dX12_thing_5 : decode cX12_thing 5 = .ok (.iload_n 1, 1) := by decide +kernel
theorem dX12_thing_6 : decode cX12_thing 6 = .ok (.iload_n 2, 1) := by decide +kernel
theorem dX12_thing_7 : decode cX12_thing 7 = .ok (.iload_n 3, 1) := by decide +kernel
theorem dX12_thing_8 : decode cX12_thing 8 = .ok (.invokestatic 105, 3) := by decide +kernel
theorem dX12_thing_11 : decode cX12_thing 11 = .ok (.ifCond .ne 6, 3) := by decide +kernel
theorem dX12_thing_14 : decode cX12_thing 14 = .ok (.ldc 79, 2) := by decide +kernel
theorem dX12_thing_16 : decode cX12_thing 16 = .ok (.ireturn, 1) := by decide +kernel
theorem dX12_thing_17 : decode cX12_thing 17 = .ok (.aload_n 0, 1) := by decide +kernel
theorem dX12_thing_18 : decode cX12_thing 18 = .ok (.getfield 102, 3) := by decide +kernel
theorem dX12_thing_21 : decode cX12_thing 21 = .ok (.bipush 24, 2) := by decide +kernel
theorem dX12_thing_23 : decode cX12_thing 23 = .ok (.if_icmp .ne 6, 3) := by decide +kernel
theorem dX12_thing_26 : decode cX12_thing 26 = .ok (.ldc 109, 2) := by decide +kernel
theorem dX12_thing_28 : decode cX12_thing 28 = .ok (.ireturn, 1) := by decide +kernel
theorem dX12_thing_29 : decode cX12_thing 29 = .ok (.aload_n 0, 1) := by decide +kernel
theorem dX12_thing_30 : decode cX12_thing 30 = .ok (.getfield 25, 3) := by decide +kernel
theorem dX12_thing_33 : decode cX12_thing 33 = .ok (.aload_n 0, 1) := by decide +kernel
theorem dX12_thing_34 : decode cX12_thing 34 = .ok (.getfield 102, 3) := by decide +kernel
theorem dX12_thing_37 : decode cX12_thing 37 = .ok (.iload_n 1, 1) := by decide +kernel
theorem dX12_thing_38 : decode cX12_thing 38 = .ok (.iastore, 1) := by decide +kernel
theorem dX12_thing_39 : decode cX12_thing 39 = .ok (.aload_n 0, 1) := by decide +kernel
theorem dX12_thing_40 : decode cX12_thing 40 = .ok (.getfield 28, 3) := by decide +kernel
theorem dX12_thing_43 : decode cX12_thing 43 = .ok (.aload_n 0, 1) := by decide +kernel
theorem dX12_thing_44 : decode cX12_thing 44 = .ok (.getfield 102, 3) := by decide +kernel
theorem dX12_thing_47 : decode cX12_thing 47 = .ok (.iload_n 2, 1) := by decide +kernel
theorem dX12_thing_48 : decode cX12_thing 48 = .ok (.iastore, 1) := by decide +kernel
theorem dX12_thing_49 : decode cX12_thing 49 = .ok (.aload_n 0, 1) := by decide +kernel
theorem dX12_thing_50 : decode cX12_thing 50 = .ok (.getfield 31, 3) := by decide +kernel
theorem dX12_thing_53 : decode cX12_thing 53 = .ok (.aload_n 0, 1) := by decide +kernel
theorem dX12_thing_54 : decode cX12_thing 54 = .ok (.getfield 102, 3) := by decide +kernel
theorem dX12_thing_57 : decode cX12_thing 57 = .ok (.iload_n 3, 1) := by decide +kernel
theorem dX12_thing_58 : decode cX12_thing 58 = .ok (.iastore, 1) := by decide +kernel
theorem dX12_thing_59 : decode cX12_thing 59 = .ok (.aload_n 0, 1) := by decide +kernel
theorem dX12_thing_60 : decode cX12_thing 60 = .ok (.dup, 1) := by decide +kernel
theorem dX12_thing_61 : decode cX12_thing 61 = .ok (.getfield 102, 3) := by decide +kernel
theorem dX12_thing_64 : decode cX12_thing 64 = .ok (.iconst 1, 1) := by decide +kernel
theorem dX12_thing_65 : decode cX12_thing 65 = .ok (.iadd, 1) := by decide +kernel
theorem dX12_thing_66 : decode cX12_thing 66 = .ok (.putfield 102, 3) := by decide +kernel
theorem dX12_thing_69 : decode cX12_thing 69 = .ok (.aload_n 0, 1) := by decide +kernel
theorem dX12_thing_70 : decode cX12_thing 70 = .ok (.getfield 102, 3) := by decide +kernel
theorem dX12_thing_73 : decode cX12_thing 73 = .ok (.iconst 1, 1) := by decide +kernel
theorem dX12_thing_74 : decode cX12_thing 74 = .ok (.isub, 1) := by decide +kernel
theorem dX12_thing_75 : decode cX12_thing 75 = .ok (.ireturn, 1) := by decide +kernel
theorem dX12_move_0 : decode cX12_move 0 = .ok (.aload_n 0, 1) := by decide +kernel
theorem dX12_move_1 : decode cX12_move 1 = .ok (.iconst 0, 1) := by decide +kernel
theorem dX12_move_2 : decode cX12_move 2 = .ok (.putfield 59, 3) := by decide +kernel
theorem dX12_move_5 : decode cX12_move 5 = .ok (.aload_n 0, 1) := by decide +kernel
theorem dX12_move_6 : decode cX12_move 6 = .ok (.iload_n 1, 1) := by decide +kernel
theorem dX12_move_7 : decode cX12_move 7 = .ok (.invokevirtual 110, 3) := by decide +kernel
theorem dX12_move_10 : decode cX12_move 10 = .ok (.ifCond .eq 13, 3) := by decide +kernel
theorem dX12_move_13 : decode cX12_move 13 = .ok (.iload_n 2, 1) := by decide +kernel
theorem dX12_move_14 : decode cX12_move 14 = .ok (.iload_n 3, 1) := by decide +kernel
theorem dX12_move_15 : decode cX12_move 15 = .ok (.iload 4, 2) := by decide +kernel
theorem dX12_move_17 : decode cX12_move 17 = .ok (.invokestatic 105, 3) := by decide +kernel
theorem dX12_move_20 : decode cX12_move 20 = .ok (.ifCond .ne 6, 3) := by decide +kernel
theorem dX12_move_23 : decode cX12_move 23 = .ok (.ldc 79, 2) := by decide +kernel
theorem dX12_move_25 : decode cX12_move 25 = .ok (.ireturn, 1) := by decide +kernel
theorem dX12_move_26 : decode cX12_move 26 = .ok (.aload_n 0, 1) := by decide +kernel
theorem dX12_move_27 : decode cX12_move 27 = .ok (.getfield 25, 3) := by decide +kernel
theorem dX12_move_30 : decode cX12_move 30 = .ok (.iload_n 1, 1) := by decide +kernel
theorem dX12_move_31 : decode cX12_move 31 = .ok (.iload_n 2, 1) := by decide +kernel
theorem dX12_move_32 : decode cX12_move 32 = .ok (.iastore, 1) := by decide +kernel
theorem dX12_move_33 : decode cX12_move 33 = .ok (.aload_n 0, 1) := by decide +kernel
theorem dX12_move_34 : decode cX12_move 34 = .ok (.getfield 28, 3) := by decide +kernel
theorem dX12_move_37 : decode cX12_move 37 = .ok (.iload_n 1, 1) := by decide +kernel
theorem dX12_move_38 : decode cX12_move 38 = .ok (.iload_n 3, 1) := by decide +kernel
theorem dX12_move_39 : decode cX12_move 39 = .ok (.iastore, 1) := by decide +kernel
theorem dX12_move_40 : decode cX12_move 40 = .ok (.aload_n 0, 1) := by decide +kernel
theorem dX12_move_41 : decode cX12_move 41 = .ok (.getfield 31, 3) := by decide +kernel
theorem dX12_move_44 : decode cX12_move 44 = .ok (.iload_n 1, 1) := by decide +kernel
theorem dX12_move_45 : decode cX12_move 45 = .ok (.iload 4, 2) := by decide +kernel
theorem dX12_move_47 : decode cX12_move 47 = .ok (.iastore, 1) := by decide +kernel
theorem dX12_move_48 : decode cX12_move 48 = .ok (.iconst 1, 1) := by decide +kernel
theorem dX12_move_49 : decode cX12_move 49 = .ok (.ireturn, 1) := by decide +kernel
theorem dX12_firstOf_0 : decode cX12_firstOf 0 = .ok (.aload_n 0, 1) := by decide +kernel
theorem dX12_firstOf_1 : decode cX12_firstOf 1 = .ok (.getfield 25, 3) := by decide +kernel
theorem dX12_firstOf_4 : decode cX12_firstOf 4 = .ok (.iload_n 1, 1) := by decide +kernel
theorem dX12_firstOf_5 : decode cX12_firstOf 5 = .ok (.iaload, 1) := by decide +kernel
theorem dX12_firstOf_6 : decode cX12_firstOf 6 = .ok (.ineg, 1) := by decide +kernel
theorem dX12_firstOf_7 : decode cX12_firstOf 7 = .ok (.iload_n 2, 1) := by decide +kernel
theorem dX12_firstOf_8 : decode cX12_firstOf 8 = .ok (.imul, 1) := by decide +kernel
theorem dX12_firstOf_9 : decode cX12_firstOf 9 = .ok (.aload_n 0, 1) := by decide +kernel
theorem dX12_firstOf_10 : decode cX12_firstOf 10 = .ok (.getfield 31, 3) := by decide +kernel
theorem dX12_firstOf_13 : decode cX12_firstOf 13 = .ok (.iload_n 1, 1) := by decide +kernel
theorem dX12_firstOf_14 : decode cX12_firstOf 14 = .ok (.iaload, 1) := by decide +kernel
theorem dX12_firstOf_15 : decode cX12_firstOf 15 = .ok (.idiv, 1) := by decide +kernel
theorem dX12_firstOf_16 : decode cX12_firstOf 16 = .ok (.ireturn, 1) := by decide +kernel
theorem dX12_columnOf_0 : decode cX12_columnOf 0 = .ok (.aload_n 0, 1) := by decide +kernel
theorem dX12_columnOf_1 : decode cX12_columnOf 1 = .ok (.iload_n 1, 1) := by decide +kernel
theorem dX12_columnOf_2 : decode cX12_columnOf 2 = .ok (.iload_n 2, 1) := by decide +kernel
theorem dX12_columnOf_3 : decode cX12_columnOf 3 = .ok (.invokevirtual 113, 3) := by decide +kernel
theorem dX12_columnOf_6 : decode cX12_columnOf 6 = .ok (.bipush 10, 2) := by decide +kernel
theorem dX12_columnOf_8 : decode cX12_columnOf 8 = .ok (.iadd, 1) := by decide +kernel
theorem dX12_columnOf_9 : decode cX12_columnOf 9 = .ok (.istore_n 3, 1) := by decide +kernel
theorem dX12_columnOf_10 : decode cX12_columnOf 10 = .ok (.iload_n 3, 1) := by decide +kernel
theorem dX12_columnOf_11 : decode cX12_columnOf 11 = .ok (.ifCond .ge 14, 3) := by decide +kernel
theorem dX12_columnOf_14 : decode cX12_columnOf 14 = .ok (.bipush 19, 2) := by decide +kernel
theorem dX12_columnOf_16 : decode cX12_columnOf 16 = .ok (.iload_n 3, 1) := by decide +kernel
theorem dX12_columnOf_17 : decode cX12_columnOf 17 = .ok (.isub, 1) := by decide +kernel
theorem dX12_columnOf_18 : decode cX12_columnOf 18 = .ok (.bipush 20, 2) := by decide +kernel
theorem dX12_columnOf_20 : decode cX12_columnOf 20 = .ok (.idiv, 1) := by decide +kernel
theorem dX12_columnOf_21 : decode cX12_columnOf 21 = .ok (.ineg, 1) := by decide +kernel
theorem dX12_columnOf_22 : decode cX12_columnOf 22 = .ok (.goto 7, 3) := by decide +kernel
theorem dX12_columnOf_25 : decode cX12_columnOf 25 = .ok (.iload_n 3, 1) := by decide +kernel
theorem dX12_columnOf_26 : decode cX12_columnOf 26 = .ok (.bipush 20, 2) := by decide +kernel
theorem dX12_columnOf_28 : decode cX12_columnOf 28 = .ok (.idiv, 1) := by decide +kernel
theorem dX12_columnOf_29 : decode cX12_columnOf 29 = .ok (.istore 4, 2) := by decide +kernel
theorem dX12_columnOf_31 : decode cX12_columnOf 31 = .ok (.iload 4, 2) := by decide +kernel
theorem dX12_columnOf_33 : decode cX12_columnOf 33 = .ok (.bipush (-8), 2) := by decide +kernel
theorem dX12_columnOf_35 : decode cX12_columnOf 35 = .ok (.if_icmp .ge 8, 3) := by decide +kernel
theorem dX12_columnOf_38 : decode cX12_columnOf 38 = .ok (.bipush (-8), 2) := by decide +kernel
theorem dX12_columnOf_40 : decode cX12_columnOf 40 = .ok (.goto 17, 3) := by decide +kernel
theorem dX12_columnOf_43 : decode cX12_columnOf 43 = .ok (.iload 4, 2) := by decide +kernel
theorem dX12_columnOf_45 : decode cX12_columnOf 45 = .ok (.bipush 8, 2) := by decide +kernel
theorem dX12_columnOf_47 : decode cX12_columnOf 47 = .ok (.if_icmp .le 8, 3) := by decide +kernel
theorem dX12_columnOf_50 : decode cX12_columnOf 50 = .ok (.bipush 8, 2) := by decide +kernel
theorem dX12_columnOf_52 : decode cX12_columnOf 52 = .ok (.goto 5, 3) := by decide +kernel
theorem dX12_columnOf_55 : decode cX12_columnOf 55 = .ok (.iload 4, 2) := by decide +kernel
theorem dX12_columnOf_57 : decode cX12_columnOf 57 = .ok (.ireturn, 1) := by decide +kernel
theorem dX12_farBy_0 : decode cX12_farBy 0 = .ok (.iload_n 2, 1) := by decide +kernel
theorem dX12_farBy_1 : decode cX12_farBy 1 = .ok (.aload_n 0, 1) := by decide +kernel
theorem dX12_farBy_2 : decode cX12_farBy 2 = .ok (.getfield 22, 3) := by decide +kernel
theorem dX12_farBy_5 : decode cX12_farBy 5 = .ok (.aload_n 0, 1) := by decide +kernel
theorem dX12_farBy_6 : decode cX12_farBy 6 = .ok (.iload_n 1, 1) := by decide +kernel
theorem dX12_farBy_7 : decode cX12_farBy 7 = .ok (.iload_n 2, 1) := by decide +kernel
theorem dX12_farBy_8 : decode cX12_farBy 8 = .ok (.invokevirtual 117, 3) := by decide +kernel
theorem dX12_farBy_11 : decode cX12_farBy 11 = .ok (.bipush 8, 2) := by decide +kernel
theorem dX12_farBy_13 : decode cX12_farBy 13 = .ok (.iadd, 1) := by decide +kernel
theorem dX12_farBy_14 : decode cX12_farBy 14 = .ok (.iaload, 1) := by decide +kernel
theorem dX12_farBy_15 : decode cX12_farBy 15 = .ok (.iadd, 1) := by decide +kernel
theorem dX12_farBy_16 : decode cX12_farBy 16 = .ok (.istore_n 3, 1) := by decide +kernel
theorem dX12_farBy_17 : decode cX12_farBy 17 = .ok (.iload_n 3, 1) := by decide +kernel
theorem dX12_farBy_18 : decode cX12_farBy 18 = .ok (.iconst 1, 1) := by decide +kernel
theorem dX12_farBy_19 : decode cX12_farBy 19 = .ok (.if_icmp .ge 7, 3) := by decide +kernel
theorem dX12_farBy_22 : decode cX12_farBy 22 = .ok (.iconst 1, 1) := by decide +kernel
theorem dX12_farBy_23 : decode cX12_farBy 23 = .ok (.goto 4, 3) := by decide +kernel
theorem dX12_farBy_26 : decode cX12_farBy 26 = .ok (.iload_n 3, 1) := by decide +kernel
theorem dX12_farBy_27 : decode cX12_farBy 27 = .ok (.ireturn, 1) := by decide +kernel
theorem dX12_acrossOf_0 : decode cX12_acrossOf 0 = .ok (.aload_n 0, 1) := by decide +kernel
theorem dX12_acrossOf_1 : decode cX12_acrossOf 1 = .ok (.getfield 25, 3) := by decide +kernel
theorem dX12_acrossOf_4 : decode cX12_acrossOf 4 = .ok (.iload_n 1, 1) := by decide +kernel
theorem dX12_acrossOf_5 : decode cX12_acrossOf 5 = .ok (.iaload, 1) := by decide +kernel
theorem dX12_acrossOf_6 : decode cX12_acrossOf 6 = .ok (.ineg, 1) := by decide +kernel
theorem dX12_acrossOf_7 : decode cX12_acrossOf 7 = .ok (.aload_n 0, 1) := by decide +kernel
theorem dX12_acrossOf_8 : decode cX12_acrossOf 8 = .ok (.iload_n 1, 1) := by decide +kernel
theorem dX12_acrossOf_9 : decode cX12_acrossOf 9 = .ok (.aload_n 0, 1) := by decide +kernel
theorem dX12_acrossOf_10 : decode cX12_acrossOf 10 = .ok (.getfield 19, 3) := by decide +kernel
theorem dX12_acrossOf_13 : decode cX12_acrossOf 13 = .ok (.iconst 2, 1) := by decide +kernel
theorem dX12_acrossOf_14 : decode cX12_acrossOf 14 = .ok (.iaload, 1) := by decide +kernel
theorem dX12_acrossOf_15 : decode cX12_acrossOf 15 = .ok (.invokevirtual 120, 3) := by decide +kernel
theorem dX12_acrossOf_18 : decode cX12_acrossOf 18 = .ok (.imul, 1) := by decide +kernel
theorem dX12_acrossOf_19 : decode cX12_acrossOf 19 = .ok (.aload_n 0, 1) := by decide +kernel
theorem dX12_acrossOf_20 : decode cX12_acrossOf 20 = .ok (.getfield 31, 3) := by decide +kernel
theorem dX12_acrossOf_23 : decode cX12_acrossOf 23 = .ok (.iload_n 1, 1) := by decide +kernel
theorem dX12_acrossOf_24 : decode cX12_acrossOf 24 = .ok (.iaload, 1) := by decide +kernel
theorem dX12_acrossOf_25 : decode cX12_acrossOf 25 = .ok (.idiv, 1) := by decide +kernel
theorem dX12_acrossOf_26 : decode cX12_acrossOf 26 = .ok (.ireturn, 1) := by decide +kernel
theorem dX12_downOf_0 : decode cX12_downOf 0 = .ok (.aload_n 0, 1) := by decide +kernel
theorem dX12_downOf_1 : decode cX12_downOf 1 = .ok (.getfield 28, 3) := by decide +kernel
theorem dX12_downOf_4 : decode cX12_downOf 4 = .ok (.iload_n 1, 1) := by decide +kernel
theorem dX12_downOf_5 : decode cX12_downOf 5 = .ok (.iaload, 1) := by decide +kernel
theorem dX12_downOf_6 : decode cX12_downOf 6 = .ok (.aload_n 0, 1) := by decide +kernel
theorem dX12_downOf_7 : decode cX12_downOf 7 = .ok (.iload_n 1, 1) := by decide +kernel
theorem dX12_downOf_8 : decode cX12_downOf 8 = .ok (.aload_n 0, 1) := by decide +kernel
theorem dX12_downOf_9 : decode cX12_downOf 9 = .ok (.getfield 19, 3) := by decide +kernel
theorem dX12_downOf_12 : decode cX12_downOf 12 = .ok (.iconst 2, 1) := by decide +kernel
theorem dX12_downOf_13 : decode cX12_downOf 13 = .ok (.iaload, 1) := by decide +kernel
theorem dX12_downOf_14 : decode cX12_downOf 14 = .ok (.invokevirtual 120, 3) := by decide +kernel
theorem dX12_downOf_17 : decode cX12_downOf 17 = .ok (.imul, 1) := by decide +kernel
theorem dX12_downOf_18 : decode cX12_downOf 18 = .ok (.aload_n 0, 1) := by decide +kernel
theorem dX12_downOf_19 : decode cX12_downOf 19 = .ok (.getfield 31, 3) := by decide +kernel
theorem dX12_downOf_22 : decode cX12_downOf 22 = .ok (.iload_n 1, 1) := by decide +kernel
theorem dX12_downOf_23 : decode cX12_downOf 23 = .ok (.iaload, 1) := by decide +kernel
end
section
theorem dX12_downOf_24 : decode cX12_downOf 24 = .ok (.idiv, 1) := by decide +kernel
theorem dX12_downOf_25 : decode cX12_downOf 25 = .ok (.istore_n 2, 1) := by decide +kernel
theorem dX12_downOf_26 : decode cX12_downOf 26 = .ok (.aload_n 0, 1) := by decide +kernel
theorem dX12_downOf_27 : decode cX12_downOf 27 = .ok (.getfield 19, 3) := by decide +kernel
theorem dX12_downOf_30 : decode cX12_downOf 30 = .ok (.iconst 3, 1) := by decide +kernel
theorem dX12_downOf_31 : decode cX12_downOf 31 = .ok (.iaload, 1) := by decide +kernel
theorem dX12_downOf_32 : decode cX12_downOf 32 = .ok (.iconst 1, 1) := by decide +kernel
theorem dX12_downOf_33 : decode cX12_downOf 33 = .ok (.if_icmp .ne 7, 3) := by decide +kernel
theorem dX12_downOf_36 : decode cX12_downOf 36 = .ok (.iload_n 2, 1) := by decide +kernel
theorem dX12_downOf_37 : decode cX12_downOf 37 = .ok (.goto 5, 3) := by decide +kernel
theorem dX12_downOf_40 : decode cX12_downOf 40 = .ok (.iload_n 2, 1) := by decide +kernel
theorem dX12_downOf_41 : decode cX12_downOf 41 = .ok (.ineg, 1) := by decide +kernel
theorem dX12_downOf_42 : decode cX12_downOf 42 = .ok (.ireturn, 1) := by decide +kernel
theorem dX12_size_0 : decode cX12_size 0 = .ok (.iload_n 0, 1) := by decide +kernel
theorem dX12_size_1 : decode cX12_size 1 = .ok (.ifCond .ge 8, 3) := by decide +kernel
theorem dX12_size_4 : decode cX12_size 4 = .ok (.iload_n 0, 1) := by decide +kernel
theorem dX12_size_5 : decode cX12_size 5 = .ok (.ineg, 1) := by decide +kernel
theorem dX12_size_6 : decode cX12_size 6 = .ok (.goto 4, 3) := by decide +kernel
theorem dX12_size_9 : decode cX12_size 9 = .ok (.iload_n 0, 1) := by decide +kernel
theorem dX12_size_10 : decode cX12_size 10 = .ok (.ireturn, 1) := by decide +kernel
theorem dX12_blurBy_0 : decode cX12_blurBy 0 = .ok (.aload_n 0, 1) := by decide +kernel
theorem dX12_blurBy_1 : decode cX12_blurBy 1 = .ok (.getfield 31, 3) := by decide +kernel
theorem dX12_blurBy_4 : decode cX12_blurBy 4 = .ok (.iload_n 1, 1) := by decide +kernel
theorem dX12_blurBy_5 : decode cX12_blurBy 5 = .ok (.iaload, 1) := by decide +kernel
theorem dX12_blurBy_6 : decode cX12_blurBy 6 = .ok (.istore_n 3, 1) := by decide +kernel
theorem dX12_blurBy_7 : decode cX12_blurBy 7 = .ok (.aload_n 0, 1) := by decide +kernel
theorem dX12_blurBy_8 : decode cX12_blurBy 8 = .ok (.getfield 19, 3) := by decide +kernel
theorem dX12_blurBy_11 : decode cX12_blurBy 11 = .ok (.iconst 0, 1) := by decide +kernel
theorem dX12_blurBy_12 : decode cX12_blurBy 12 = .ok (.iaload, 1) := by decide +kernel
theorem dX12_blurBy_13 : decode cX12_blurBy 13 = .ok (.istore 4, 2) := by decide +kernel
theorem dX12_blurBy_15 : decode cX12_blurBy 15 = .ok (.iload 4, 2) := by decide +kernel
theorem dX12_blurBy_17 : decode cX12_blurBy 17 = .ok (.ifCond .ne 18, 3) := by decide +kernel
theorem dX12_blurBy_20 : decode cX12_blurBy 20 = .ok (.aload_n 0, 1) := by decide +kernel
theorem dX12_blurBy_21 : decode cX12_blurBy 21 = .ok (.getfield 19, 3) := by decide +kernel
theorem dX12_blurBy_24 : decode cX12_blurBy 24 = .ok (.iconst 1, 1) := by decide +kernel
theorem dX12_blurBy_25 : decode cX12_blurBy 25 = .ok (.iaload, 1) := by decide +kernel
theorem dX12_blurBy_26 : decode cX12_blurBy 26 = .ok (.iload_n 3, 1) := by decide +kernel
theorem dX12_blurBy_27 : decode cX12_blurBy 27 = .ok (.iload_n 2, 1) := by decide +kernel
theorem dX12_blurBy_28 : decode cX12_blurBy 28 = .ok (.iadd, 1) := by decide +kernel
theorem dX12_blurBy_29 : decode cX12_blurBy 29 = .ok (.imul, 1) := by decide +kernel
theorem dX12_blurBy_30 : decode cX12_blurBy 30 = .ok (.iload_n 3, 1) := by decide +kernel
theorem dX12_blurBy_31 : decode cX12_blurBy 31 = .ok (.idiv, 1) := by decide +kernel
theorem dX12_blurBy_32 : decode cX12_blurBy 32 = .ok (.goto 29, 3) := by decide +kernel
theorem dX12_blurBy_35 : decode cX12_blurBy 35 = .ok (.aload_n 0, 1) := by decide +kernel
theorem dX12_blurBy_36 : decode cX12_blurBy 36 = .ok (.getfield 19, 3) := by decide +kernel
theorem dX12_blurBy_39 : decode cX12_blurBy 39 = .ok (.iconst 1, 1) := by decide +kernel
theorem dX12_blurBy_40 : decode cX12_blurBy 40 = .ok (.iaload, 1) := by decide +kernel
theorem dX12_blurBy_41 : decode cX12_blurBy 41 = .ok (.iload_n 2, 1) := by decide +kernel
theorem dX12_blurBy_42 : decode cX12_blurBy 42 = .ok (.iload_n 3, 1) := by decide +kernel
theorem dX12_blurBy_43 : decode cX12_blurBy 43 = .ok (.iload 4, 2) := by decide +kernel
theorem dX12_blurBy_45 : decode cX12_blurBy 45 = .ok (.isub, 1) := by decide +kernel
theorem dX12_blurBy_46 : decode cX12_blurBy 46 = .ok (.imul, 1) := by decide +kernel
theorem dX12_blurBy_47 : decode cX12_blurBy 47 = .ok (.iload 4, 2) := by decide +kernel
theorem dX12_blurBy_49 : decode cX12_blurBy 49 = .ok (.iload_n 3, 1) := by decide +kernel
theorem dX12_blurBy_50 : decode cX12_blurBy 50 = .ok (.imul, 1) := by decide +kernel
theorem dX12_blurBy_51 : decode cX12_blurBy 51 = .ok (.isub, 1) := by decide +kernel
theorem dX12_blurBy_52 : decode cX12_blurBy 52 = .ok (.invokestatic 123, 3) := by decide +kernel
theorem dX12_blurBy_55 : decode cX12_blurBy 55 = .ok (.imul, 1) := by decide +kernel
theorem dX12_blurBy_56 : decode cX12_blurBy 56 = .ok (.iload 4, 2) := by decide +kernel
theorem dX12_blurBy_58 : decode cX12_blurBy 58 = .ok (.iload_n 3, 1) := by decide +kernel
theorem dX12_blurBy_59 : decode cX12_blurBy 59 = .ok (.imul, 1) := by decide +kernel
theorem dX12_blurBy_60 : decode cX12_blurBy 60 = .ok (.idiv, 1) := by decide +kernel
theorem dX12_blurBy_61 : decode cX12_blurBy 61 = .ok (.ireturn, 1) := by decide +kernel
theorem dX12_blurOf_0 : decode cX12_blurOf 0 = .ok (.aload_n 0, 1) := by decide +kernel
theorem dX12_blurOf_1 : decode cX12_blurOf 1 = .ok (.iload_n 1, 1) := by decide +kernel
theorem dX12_blurOf_2 : decode cX12_blurOf 2 = .ok (.aload_n 0, 1) := by decide +kernel
theorem dX12_blurOf_3 : decode cX12_blurOf 3 = .ok (.iload_n 1, 1) := by decide +kernel
theorem dX12_blurOf_4 : decode cX12_blurOf 4 = .ok (.aload_n 0, 1) := by decide +kernel
theorem dX12_blurOf_5 : decode cX12_blurOf 5 = .ok (.getfield 19, 3) := by decide +kernel
theorem dX12_blurOf_8 : decode cX12_blurOf 8 = .ok (.iconst 2, 1) := by decide +kernel
theorem dX12_blurOf_9 : decode cX12_blurOf 9 = .ok (.iaload, 1) := by decide +kernel
theorem dX12_blurOf_10 : decode cX12_blurOf 10 = .ok (.invokevirtual 120, 3) := by decide +kernel
theorem dX12_blurOf_13 : decode cX12_blurOf 13 = .ok (.invokevirtual 126, 3) := by decide +kernel
theorem dX12_blurOf_16 : decode cX12_blurOf 16 = .ok (.ireturn, 1) := by decide +kernel
theorem dX12_picture_0 : decode cX12_picture 0 = .ok (.aload_n 0, 1) := by decide +kernel
theorem dX12_picture_1 : decode cX12_picture 1 = .ok (.iconst 0, 1) := by decide +kernel
theorem dX12_picture_2 : decode cX12_picture 2 = .ok (.putfield 59, 3) := by decide +kernel
theorem dX12_picture_5 : decode cX12_picture 5 = .ok (.aload_n 0, 1) := by decide +kernel
theorem dX12_picture_6 : decode cX12_picture 6 = .ok (.iload_n 1, 1) := by decide +kernel
theorem dX12_picture_7 : decode cX12_picture 7 = .ok (.invokevirtual 110, 3) := by decide +kernel
theorem dX12_picture_10 : decode cX12_picture 10 = .ok (.ifCond .eq 15, 3) := by decide +kernel
theorem dX12_picture_13 : decode cX12_picture 13 = .ok (.iload_n 2, 1) := by decide +kernel
theorem dX12_picture_14 : decode cX12_picture 14 = .ok (.i2l, 1) := by decide +kernel
theorem dX12_picture_15 : decode cX12_picture 15 = .ok (.lconst 0, 1) := by decide +kernel
theorem dX12_picture_16 : decode cX12_picture 16 = .ok (.ldc2_w 88, 3) := by decide +kernel
theorem dX12_picture_19 : decode cX12_picture 19 = .ok (.invokestatic 69, 3) := by decide +kernel
theorem dX12_picture_22 : decode cX12_picture 22 = .ok (.ifCond .ne 6, 3) := by decide +kernel
theorem dX12_picture_25 : decode cX12_picture 25 = .ok (.ldc 79, 2) := by decide +kernel
theorem dX12_picture_27 : decode cX12_picture 27 = .ok (.ireturn, 1) := by decide +kernel
theorem dX12_picture_28 : decode cX12_picture 28 = .ok (.aload_n 0, 1) := by decide +kernel
theorem dX12_picture_29 : decode cX12_picture 29 = .ok (.getfield 19, 3) := by decide +kernel
theorem dX12_picture_32 : decode cX12_picture 32 = .ok (.iconst 2, 1) := by decide +kernel
theorem dX12_picture_33 : decode cX12_picture 33 = .ok (.iaload, 1) := by decide +kernel
theorem dX12_picture_34 : decode cX12_picture 34 = .ok (.istore_n 3, 1) := by decide +kernel
theorem dX12_picture_35 : decode cX12_picture 35 = .ok (.iload_n 2, 1) := by decide +kernel
theorem dX12_picture_36 : decode cX12_picture 36 = .ok (.tableswitch 102 0 7 #[48, 55, 62, 69, 76, 83, 90, 96], 48) := by decide +kernel
theorem dX12_picture_84 : decode cX12_picture 84 = .ok (.aload_n 0, 1) := by decide +kernel
theorem dX12_picture_85 : decode cX12_picture 85 = .ok (.getfield 25, 3) := by decide +kernel
theorem dX12_picture_88 : decode cX12_picture 88 = .ok (.iload_n 1, 1) := by decide +kernel
theorem dX12_picture_89 : decode cX12_picture 89 = .ok (.iaload, 1) := by decide +kernel
theorem dX12_picture_90 : decode cX12_picture 90 = .ok (.ireturn, 1) := by decide +kernel
theorem dX12_picture_91 : decode cX12_picture 91 = .ok (.aload_n 0, 1) := by decide +kernel
theorem dX12_picture_92 : decode cX12_picture 92 = .ok (.getfield 28, 3) := by decide +kernel
theorem dX12_picture_95 : decode cX12_picture 95 = .ok (.iload_n 1, 1) := by decide +kernel
theorem dX12_picture_96 : decode cX12_picture 96 = .ok (.iaload, 1) := by decide +kernel
theorem dX12_picture_97 : decode cX12_picture 97 = .ok (.ireturn, 1) := by decide +kernel
theorem dX12_picture_98 : decode cX12_picture 98 = .ok (.aload_n 0, 1) := by decide +kernel
theorem dX12_picture_99 : decode cX12_picture 99 = .ok (.getfield 31, 3) := by decide +kernel
theorem dX12_picture_102 : decode cX12_picture 102 = .ok (.iload_n 1, 1) := by decide +kernel
theorem dX12_picture_103 : decode cX12_picture 103 = .ok (.iaload, 1) := by decide +kernel
theorem dX12_picture_104 : decode cX12_picture 104 = .ok (.ireturn, 1) := by decide +kernel
theorem dX12_picture_105 : decode cX12_picture 105 = .ok (.aload_n 0, 1) := by decide +kernel
theorem dX12_picture_106 : decode cX12_picture 106 = .ok (.iload_n 1, 1) := by decide +kernel
theorem dX12_picture_107 : decode cX12_picture 107 = .ok (.iload_n 3, 1) := by decide +kernel
theorem dX12_picture_108 : decode cX12_picture 108 = .ok (.invokevirtual 113, 3) := by decide +kernel
theorem dX12_picture_111 : decode cX12_picture 111 = .ok (.ireturn, 1) := by decide +kernel
theorem dX12_picture_112 : decode cX12_picture 112 = .ok (.aload_n 0, 1) := by decide +kernel
theorem dX12_picture_113 : decode cX12_picture 113 = .ok (.iload_n 1, 1) := by decide +kernel
theorem dX12_picture_114 : decode cX12_picture 114 = .ok (.iload_n 3, 1) := by decide +kernel
theorem dX12_picture_115 : decode cX12_picture 115 = .ok (.invokevirtual 117, 3) := by decide +kernel
theorem dX12_picture_118 : decode cX12_picture 118 = .ok (.ireturn, 1) := by decide +kernel
theorem dX12_picture_119 : decode cX12_picture 119 = .ok (.aload_n 0, 1) := by decide +kernel
theorem dX12_picture_120 : decode cX12_picture 120 = .ok (.iload_n 1, 1) := by decide +kernel
theorem dX12_picture_121 : decode cX12_picture 121 = .ok (.iload_n 3, 1) := by decide +kernel
theorem dX12_picture_122 : decode cX12_picture 122 = .ok (.invokevirtual 120, 3) := by decide +kernel
theorem dX12_picture_125 : decode cX12_picture 125 = .ok (.ireturn, 1) := by decide +kernel
theorem dX12_picture_126 : decode cX12_picture 126 = .ok (.aload_n 0, 1) := by decide +kernel
theorem dX12_picture_127 : decode cX12_picture 127 = .ok (.iload_n 1, 1) := by decide +kernel
theorem dX12_picture_128 : decode cX12_picture 128 = .ok (.invokevirtual 129, 3) := by decide +kernel
theorem dX12_picture_131 : decode cX12_picture 131 = .ok (.ireturn, 1) := by decide +kernel
theorem dX12_picture_132 : decode cX12_picture 132 = .ok (.aload_n 0, 1) := by decide +kernel
theorem dX12_picture_133 : decode cX12_picture 133 = .ok (.iload_n 1, 1) := by decide +kernel
theorem dX12_picture_134 : decode cX12_picture 134 = .ok (.invokevirtual 132, 3) := by decide +kernel
theorem dX12_picture_137 : decode cX12_picture 137 = .ok (.ireturn, 1) := by decide +kernel
theorem dX12_picture_138 : decode cX12_picture 138 = .ok (.aload_n 0, 1) := by decide +kernel
theorem dX12_picture_139 : decode cX12_picture 139 = .ok (.iload_n 1, 1) := by decide +kernel
theorem dX12_picture_140 : decode cX12_picture 140 = .ok (.invokevirtual 135, 3) := by decide +kernel
theorem dX12_picture_143 : decode cX12_picture 143 = .ok (.ireturn, 1) := by decide +kernel
theorem dX12_focused_0 : decode cX12_focused 0 = .ok (.aload_n 0, 1) := by decide +kernel
theorem dX12_focused_1 : decode cX12_focused 1 = .ok (.iconst 0, 1) := by decide +kernel
theorem dX12_focused_2 : decode cX12_focused 2 = .ok (.putfield 59, 3) := by decide +kernel
theorem dX12_focused_5 : decode cX12_focused 5 = .ok (.aload_n 0, 1) := by decide +kernel
theorem dX12_focused_6 : decode cX12_focused 6 = .ok (.iload_n 1, 1) := by decide +kernel
theorem dX12_focused_7 : decode cX12_focused 7 = .ok (.invokevirtual 110, 3) := by decide +kernel
theorem dX12_focused_10 : decode cX12_focused 10 = .ok (.ifCond .eq 13, 3) := by decide +kernel
theorem dX12_focused_13 : decode cX12_focused 13 = .ok (.iload_n 2, 1) := by decide +kernel
theorem dX12_focused_14 : decode cX12_focused 14 = .ok (.i2l, 1) := by decide +kernel
theorem dX12_focused_15 : decode cX12_focused 15 = .ok (.lconst 0, 1) := by decide +kernel
theorem dX12_focused_16 : decode cX12_focused 16 = .ok (.lconst 1, 1) := by decide +kernel
theorem dX12_focused_17 : decode cX12_focused 17 = .ok (.invokestatic 69, 3) := by decide +kernel
theorem dX12_focused_20 : decode cX12_focused 20 = .ok (.ifCond .ne 6, 3) := by decide +kernel
theorem dX12_focused_23 : decode cX12_focused 23 = .ok (.ldc 79, 2) := by decide +kernel
theorem dX12_focused_25 : decode cX12_focused 25 = .ok (.ireturn, 1) := by decide +kernel
theorem dX12_focused_26 : decode cX12_focused 26 = .ok (.iconst 1, 1) := by decide +kernel
theorem dX12_focused_27 : decode cX12_focused 27 = .ok (.istore_n 3, 1) := by decide +kernel
theorem dX12_focused_28 : decode cX12_focused 28 = .ok (.aload_n 0, 1) := by decide +kernel
theorem dX12_focused_29 : decode cX12_focused 29 = .ok (.iload_n 1, 1) := by decide +kernel
theorem dX12_focused_30 : decode cX12_focused 30 = .ok (.aload_n 0, 1) := by decide +kernel
theorem dX12_focused_31 : decode cX12_focused 31 = .ok (.iload_n 1, 1) := by decide +kernel
theorem dX12_focused_32 : decode cX12_focused 32 = .ok (.iconst 1, 1) := by decide +kernel
theorem dX12_focused_33 : decode cX12_focused 33 = .ok (.invokevirtual 120, 3) := by decide +kernel
theorem dX12_focused_36 : decode cX12_focused 36 = .ok (.invokevirtual 126, 3) := by decide +kernel
theorem dX12_focused_39 : decode cX12_focused 39 = .ok (.istore 4, 2) := by decide +kernel
theorem dX12_focused_41 : decode cX12_focused 41 = .ok (.iconst 2, 1) := by decide +kernel
theorem dX12_focused_42 : decode cX12_focused 42 = .ok (.istore 5, 2) := by decide +kernel
theorem dX12_focused_44 : decode cX12_focused 44 = .ok (.iload 5, 2) := by decide +kernel
theorem dX12_focused_46 : decode cX12_focused 46 = .ok (.sipush 1000, 3) := by decide +kernel
theorem dX12_focused_49 : decode cX12_focused 49 = .ok (.if_icmp .gt 37, 3) := by decide +kernel
theorem dX12_focused_52 : decode cX12_focused 52 = .ok (.aload_n 0, 1) := by decide +kernel
theorem dX12_focused_53 : decode cX12_focused 53 = .ok (.iload_n 1, 1) := by decide +kernel
theorem dX12_focused_54 : decode cX12_focused 54 = .ok (.aload_n 0, 1) := by decide +kernel
theorem dX12_focused_55 : decode cX12_focused 55 = .ok (.iload_n 1, 1) := by decide +kernel
theorem dX12_focused_56 : decode cX12_focused 56 = .ok (.iload 5, 2) := by decide +kernel
theorem dX12_focused_58 : decode cX12_focused 58 = .ok (.invokevirtual 120, 3) := by decide +kernel
theorem dX12_focused_61 : decode cX12_focused 61 = .ok (.invokevirtual 126, 3) := by decide +kernel
theorem dX12_focused_64 : decode cX12_focused 64 = .ok (.istore 6, 2) := by decide +kernel
theorem dX12_focused_66 : decode cX12_focused 66 = .ok (.iload 6, 2) := by decide +kernel
theorem dX12_focused_68 : decode cX12_focused 68 = .ok (.iload 4, 2) := by decide +kernel
theorem dX12_focused_70 : decode cX12_focused 70 = .ok (.if_icmp .ge 10, 3) := by decide +kernel
theorem dX12_focused_73 : decode cX12_focused 73 = .ok (.iload 6, 2) := by decide +kernel
theorem dX12_focused_75 : decode cX12_focused 75 = .ok (.istore 4, 2) := by decide +kernel
theorem dX12_focused_77 : decode cX12_focused 77 = .ok (.iload 5, 2) := by decide +kernel
theorem dX12_focused_79 : decode cX12_focused 79 = .ok (.istore_n 3, 1) := by decide +kernel
theorem dX12_focused_80 : decode cX12_focused 80 = .ok (.iinc 5 1, 3) := by decide +kernel
theorem dX12_focused_83 : decode cX12_focused 83 = .ok (.goto (-39), 3) := by decide +kernel
theorem dX12_focused_86 : decode cX12_focused 86 = .ok (.iload_n 2, 1) := by decide +kernel
theorem dX12_focused_87 : decode cX12_focused 87 = .ok (.ifCond .ne 7, 3) := by decide +kernel
theorem dX12_focused_90 : decode cX12_focused 90 = .ok (.iload_n 3, 1) := by decide +kernel
theorem dX12_focused_91 : decode cX12_focused 91 = .ok (.goto 5, 3) := by decide +kernel
theorem dX12_focused_94 : decode cX12_focused 94 = .ok (.iload 4, 2) := by decide +kernel
theorem dX12_focused_96 : decode cX12_focused 96 = .ok (.ireturn, 1) := by decide +kernel
theorem dX12_bent_0 : decode cX12_bent 0 = .ok (.aload_n 0, 1) := by decide +kernel
theorem dX12_bent_1 : decode cX12_bent 1 = .ok (.iconst 0, 1) := by decide +kernel
theorem dX12_bent_2 : decode cX12_bent 2 = .ok (.putfield 59, 3) := by decide +kernel
theorem dX12_bent_5 : decode cX12_bent 5 = .ok (.iconst 0, 1) := by decide +kernel
theorem dX12_bent_6 : decode cX12_bent 6 = .ok (.istore_n 1, 1) := by decide +kernel
theorem dX12_bent_7 : decode cX12_bent 7 = .ok (.bipush (-8), 2) := by decide +kernel
theorem dX12_bent_9 : decode cX12_bent 9 = .ok (.istore_n 2, 1) := by decide +kernel
theorem dX12_bent_10 : decode cX12_bent 10 = .ok (.iload_n 2, 1) := by decide +kernel
theorem dX12_bent_11 : decode cX12_bent 11 = .ok (.bipush 9, 2) := by decide +kernel
theorem dX12_bent_13 : decode cX12_bent 13 = .ok (.if_icmp .ge 183, 3) := by decide +kernel
theorem dX12_bent_16 : decode cX12_bent 16 = .ok (.iconst 0, 1) := by decide +kernel
theorem dX12_bent_17 : decode cX12_bent 17 = .ok (.istore_n 3, 1) := by decide +kernel
theorem dX12_bent_18 : decode cX12_bent 18 = .ok (.ldc2_w 138, 3) := by decide +kernel
theorem dX12_bent_21 : decode cX12_bent 21 = .ok (.lstore 4, 2) := by decide +kernel
theorem dX12_bent_23 : decode cX12_bent 23 = .ok (.iconst 0, 1) := by decide +kernel
theorem dX12_bent_24 : decode cX12_bent 24 = .ok (.istore 6, 2) := by decide +kernel
theorem dX12_bent_26 : decode cX12_bent 26 = .ok (.iload 6, 2) := by decide +kernel
theorem dX12_bent_28 : decode cX12_bent 28 = .ok (.bipush 101, 2) := by decide +kernel
theorem dX12_bent_30 : decode cX12_bent 30 = .ok (.if_icmp .ge 138, 3) := by decide +kernel
theorem dX12_bent_33 : decode cX12_bent 33 = .ok (.iload 6, 2) := by decide +kernel
theorem dX12_bent_35 : decode cX12_bent 35 = .ok (.iconst 2, 1) := by decide +kernel
theorem dX12_bent_36 : decode cX12_bent 36 = .ok (.irem, 1) := by decide +kernel
theorem dX12_bent_37 : decode cX12_bent 37 = .ok (.iconst 1, 1) := by decide +kernel
theorem dX12_bent_38 : decode cX12_bent 38 = .ok (.if_icmp .ne 13, 3) := by decide +kernel
theorem dX12_bent_41 : decode cX12_bent 41 = .ok (.iload 6, 2) := by decide +kernel
theorem dX12_bent_43 : decode cX12_bent 43 = .ok (.iconst 1, 1) := by decide +kernel
theorem dX12_bent_44 : decode cX12_bent 44 = .ok (.iadd, 1) := by decide +kernel
theorem dX12_bent_45 : decode cX12_bent 45 = .ok (.ineg, 1) := by decide +kernel
theorem dX12_bent_46 : decode cX12_bent 46 = .ok (.iconst 2, 1) := by decide +kernel
theorem dX12_bent_47 : decode cX12_bent 47 = .ok (.idiv, 1) := by decide +kernel
theorem dX12_bent_48 : decode cX12_bent 48 = .ok (.goto 7, 3) := by decide +kernel
theorem dX12_bent_51 : decode cX12_bent 51 = .ok (.iload 6, 2) := by decide +kernel
theorem dX12_bent_53 : decode cX12_bent 53 = .ok (.iconst 2, 1) := by decide +kernel
theorem dX12_bent_54 : decode cX12_bent 54 = .ok (.idiv, 1) := by decide +kernel
theorem dX12_bent_55 : decode cX12_bent 55 = .ok (.istore 7, 2) := by decide +kernel
theorem dX12_bent_57 : decode cX12_bent 57 = .ok (.aload_n 0, 1) := by decide +kernel
theorem dX12_bent_58 : decode cX12_bent 58 = .ok (.getfield 19, 3) := by decide +kernel
theorem dX12_bent_61 : decode cX12_bent 61 = .ok (.iconst 2, 1) := by decide +kernel
theorem dX12_bent_62 : decode cX12_bent 62 = .ok (.iaload, 1) := by decide +kernel
theorem dX12_bent_63 : decode cX12_bent 63 = .ok (.iload 7, 2) := by decide +kernel
theorem dX12_bent_65 : decode cX12_bent 65 = .ok (.iadd, 1) := by decide +kernel
theorem dX12_bent_66 : decode cX12_bent 66 = .ok (.iconst 1, 1) := by decide +kernel
theorem dX12_bent_67 : decode cX12_bent 67 = .ok (.if_icmp .ge 7, 3) := by decide +kernel
theorem dX12_bent_70 : decode cX12_bent 70 = .ok (.iconst 1, 1) := by decide +kernel
theorem dX12_bent_71 : decode cX12_bent 71 = .ok (.goto 12, 3) := by decide +kernel
theorem dX12_bent_74 : decode cX12_bent 74 = .ok (.aload_n 0, 1) := by decide +kernel
theorem dX12_bent_75 : decode cX12_bent 75 = .ok (.getfield 19, 3) := by decide +kernel
theorem dX12_bent_78 : decode cX12_bent 78 = .ok (.iconst 2, 1) := by decide +kernel
theorem dX12_bent_79 : decode cX12_bent 79 = .ok (.iaload, 1) := by decide +kernel
theorem dX12_bent_80 : decode cX12_bent 80 = .ok (.iload 7, 2) := by decide +kernel
theorem dX12_bent_82 : decode cX12_bent 82 = .ok (.iadd, 1) := by decide +kernel
theorem dX12_bent_83 : decode cX12_bent 83 = .ok (.istore 8, 2) := by decide +kernel
theorem dX12_bent_85 : decode cX12_bent 85 = .ok (.lconst 0, 1) := by decide +kernel
theorem dX12_bent_86 : decode cX12_bent 86 = .ok (.lstore 9, 2) := by decide +kernel
theorem dX12_bent_88 : decode cX12_bent 88 = .ok (.iconst 0, 1) := by decide +kernel
theorem dX12_bent_89 : decode cX12_bent 89 = .ok (.istore 11, 2) := by decide +kernel
theorem dX12_bent_91 : decode cX12_bent 91 = .ok (.iload 11, 2) := by decide +kernel
theorem dX12_bent_93 : decode cX12_bent 93 = .ok (.aload_n 0, 1) := by decide +kernel
theorem dX12_bent_94 : decode cX12_bent 94 = .ok (.getfield 102, 3) := by decide +kernel
theorem dX12_bent_97 : decode cX12_bent 97 = .ok (.if_icmp .ge 43, 3) := by decide +kernel
theorem dX12_bent_100 : decode cX12_bent 100 = .ok (.lload 9, 2) := by decide +kernel
theorem dX12_bent_102 : decode cX12_bent 102 = .ok (.aload_n 0, 1) := by decide +kernel
theorem dX12_bent_103 : decode cX12_bent 103 = .ok (.iload 11, 2) := by decide +kernel
theorem dX12_bent_105 : decode cX12_bent 105 = .ok (.aload_n 0, 1) := by decide +kernel
theorem dX12_bent_106 : decode cX12_bent 106 = .ok (.getfield 19, 3) := by decide +kernel
theorem dX12_bent_109 : decode cX12_bent 109 = .ok (.iconst 2, 1) := by decide +kernel
theorem dX12_bent_110 : decode cX12_bent 110 = .ok (.iaload, 1) := by decide +kernel
theorem dX12_bent_111 : decode cX12_bent 111 = .ok (.invokevirtual 117, 3) := by decide +kernel
theorem dX12_bent_114 : decode cX12_bent 114 = .ok (.iload_n 2, 1) := by decide +kernel
theorem dX12_bent_115 : decode cX12_bent 115 = .ok (.if_icmp .ne 15, 3) := by decide +kernel
theorem dX12_bent_118 : decode cX12_bent 118 = .ok (.aload_n 0, 1) := by decide +kernel
theorem dX12_bent_119 : decode cX12_bent 119 = .ok (.iload 11, 2) := by decide +kernel
theorem dX12_bent_121 : decode cX12_bent 121 = .ok (.iload 8, 2) := by decide +kernel
theorem dX12_bent_123 : decode cX12_bent 123 = .ok (.invokevirtual 126, 3) := by decide +kernel
theorem dX12_bent_126 : decode cX12_bent 126 = .ok (.i2l, 1) := by decide +kernel
theorem dX12_bent_127 : decode cX12_bent 127 = .ok (.goto 4, 3) := by decide +kernel
theorem dX12_bent_130 : decode cX12_bent 130 = .ok (.lconst 0, 1) := by decide +kernel
theorem dX12_bent_131 : decode cX12_bent 131 = .ok (.ladd, 1) := by decide +kernel
theorem dX12_bent_132 : decode cX12_bent 132 = .ok (.lstore 9, 2) := by decide +kernel
theorem dX12_bent_134 : decode cX12_bent 134 = .ok (.iinc 11 1, 3) := by decide +kernel
theorem dX12_bent_137 : decode cX12_bent 137 = .ok (.goto (-46), 3) := by decide +kernel
theorem dX12_bent_140 : decode cX12_bent 140 = .ok (.lload 4, 2) := by decide +kernel
theorem dX12_bent_142 : decode cX12_bent 142 = .ok (.lconst 0, 1) := by decide +kernel
theorem dX12_bent_143 : decode cX12_bent 143 = .ok (.lcmp, 1) := by decide +kernel
theorem dX12_bent_144 : decode cX12_bent 144 = .ok (.ifCond .lt 11, 3) := by decide +kernel
theorem dX12_bent_147 : decode cX12_bent 147 = .ok (.lload 9, 2) := by decide +kernel
theorem dX12_bent_149 : decode cX12_bent 149 = .ok (.lload 4, 2) := by decide +kernel
theorem dX12_bent_151 : decode cX12_bent 151 = .ok (.lcmp, 1) := by decide +kernel
theorem dX12_bent_152 : decode cX12_bent 152 = .ok (.ifCond .ge 10, 3) := by decide +kernel
theorem dX12_bent_155 : decode cX12_bent 155 = .ok (.lload 9, 2) := by decide +kernel
theorem dX12_bent_157 : decode cX12_bent 157 = .ok (.lstore 4, 2) := by decide +kernel
theorem dX12_bent_159 : decode cX12_bent 159 = .ok (.iload 7, 2) := by decide +kernel
theorem dX12_bent_161 : decode cX12_bent 161 = .ok (.istore_n 3, 1) := by decide +kernel
theorem dX12_bent_162 : decode cX12_bent 162 = .ok (.iinc 6 1, 3) := by decide +kernel
theorem dX12_bent_165 : decode cX12_bent 165 = .ok (.goto (-139), 3) := by decide +kernel
theorem dX12_bent_168 : decode cX12_bent 168 = .ok (.aload_n 0, 1) := by decide +kernel
theorem dX12_bent_169 : decode cX12_bent 169 = .ok (.getfield 22, 3) := by decide +kernel
theorem dX12_bent_172 : decode cX12_bent 172 = .ok (.iload_n 2, 1) := by decide +kernel
theorem dX12_bent_173 : decode cX12_bent 173 = .ok (.bipush 8, 2) := by decide +kernel
theorem dX12_bent_175 : decode cX12_bent 175 = .ok (.iadd, 1) := by decide +kernel
theorem dX12_bent_176 : decode cX12_bent 176 = .ok (.iload_n 3, 1) := by decide +kernel
theorem dX12_bent_177 : decode cX12_bent 177 = .ok (.iastore, 1) := by decide +kernel
theorem dX12_bent_178 : decode cX12_bent 178 = .ok (.iload_n 1, 1) := by decide +kernel
theorem dX12_bent_179 : decode cX12_bent 179 = .ok (.iload_n 3, 1) := by decide +kernel
theorem dX12_bent_180 : decode cX12_bent 180 = .ok (.ifCond .ne 7, 3) := by decide +kernel
theorem dX12_bent_183 : decode cX12_bent 183 = .ok (.iconst 0, 1) := by decide +kernel
theorem dX12_bent_184 : decode cX12_bent 184 = .ok (.goto 4, 3) := by decide +kernel
theorem dX12_bent_187 : decode cX12_bent 187 = .ok (.iconst 1, 1) := by decide +kernel
theorem dX12_bent_188 : decode cX12_bent 188 = .ok (.iadd, 1) := by decide +kernel
theorem dX12_bent_189 : decode cX12_bent 189 = .ok (.istore_n 1, 1) := by decide +kernel
theorem dX12_bent_190 : decode cX12_bent 190 = .ok (.iinc 2 1, 3) := by decide +kernel
theorem dX12_bent_193 : decode cX12_bent 193 = .ok (.goto (-183), 3) := by decide +kernel
theorem dX12_bent_196 : decode cX12_bent 196 = .ok (.iload_n 1, 1) := by decide +kernel
theorem dX12_bent_197 : decode cX12_bent 197 = .ok (.ireturn, 1) := by decide +kernel
theorem dX12_isTrace_0 : decode cX12_isTrace 0 = .ok (.iload_n 0, 1) := by decide +kernel
theorem dX12_isTrace_1 : decode cX12_isTrace 1 = .ok (.i2l, 1) := by decide +kernel
theorem dX12_isTrace_2 : decode cX12_isTrace 2 = .ok (.lconst 0, 1) := by decide +kernel
theorem dX12_isTrace_3 : decode cX12_isTrace 3 = .ok (.ldc2_w 67, 3) := by decide +kernel
theorem dX12_isTrace_6 : decode cX12_isTrace 6 = .ok (.invokestatic 69, 3) := by decide +kernel
theorem dX12_isTrace_9 : decode cX12_isTrace 9 = .ok (.ireturn, 1) := by decide +kernel
theorem dX12_isNumber_0 : decode cX12_isNumber 0 = .ok (.iload_n 0, 1) := by decide +kernel
theorem dX12_isNumber_1 : decode cX12_isNumber 1 = .ok (.i2l, 1) := by decide +kernel
theorem dX12_isNumber_2 : decode cX12_isNumber 2 = .ok (.lconst 0, 1) := by decide +kernel
theorem dX12_isNumber_3 : decode cX12_isNumber 3 = .ok (.ldc2_w 94, 3) := by decide +kernel
theorem dX12_isNumber_6 : decode cX12_isNumber 6 = .ok (.invokestatic 69, 3) := by decide +kernel
theorem dX12_isNumber_9 : decode cX12_isNumber 9 = .ok (.ireturn, 1) := by decide +kernel
theorem dX12_mark_0 : decode cX12_mark 0 = .ok (.aload_n 0, 1) := by decide +kernel
theorem dX12_mark_1 : decode cX12_mark 1 = .ok (.iconst 0, 1) := by decide +kernel
theorem dX12_mark_2 : decode cX12_mark 2 = .ok (.putfield 59, 3) := by decide +kernel
theorem dX12_mark_5 : decode cX12_mark 5 = .ok (.iload_n 1, 1) := by decide +kernel
theorem dX12_mark_6 : decode cX12_mark 6 = .ok (.invokestatic 140, 3) := by decide +kernel
theorem dX12_mark_9 : decode cX12_mark 9 = .ok (.ifCond .eq 39, 3) := by decide +kernel
theorem dX12_mark_12 : decode cX12_mark 12 = .ok (.iload_n 2, 1) := by decide +kernel
theorem dX12_mark_13 : decode cX12_mark 13 = .ok (.invokestatic 143, 3) := by decide +kernel
theorem dX12_mark_16 : decode cX12_mark 16 = .ok (.ifCond .eq 32, 3) := by decide +kernel
theorem dX12_mark_19 : decode cX12_mark 19 = .ok (.iload_n 3, 1) := by decide +kernel
theorem dX12_mark_20 : decode cX12_mark 20 = .ok (.i2l, 1) := by decide +kernel
theorem dX12_mark_21 : decode cX12_mark 21 = .ok (.ldc2_w 96, 3) := by decide +kernel
theorem dX12_mark_24 : decode cX12_mark 24 = .ok (.ldc2_w 98, 3) := by decide +kernel
theorem dX12_mark_27 : decode cX12_mark 27 = .ok (.invokestatic 69, 3) := by decide +kernel
theorem dX12_mark_30 : decode cX12_mark 30 = .ok (.ifCond .eq 18, 3) := by decide +kernel
theorem dX12_mark_33 : decode cX12_mark 33 = .ok (.iload 4, 2) := by decide +kernel
theorem dX12_mark_35 : decode cX12_mark 35 = .ok (.i2l, 1) := by decide +kernel
theorem dX12_mark_36 : decode cX12_mark 36 = .ok (.ldc2_w 96, 3) := by decide +kernel
theorem dX12_mark_39 : decode cX12_mark 39 = .ok (.ldc2_w 98, 3) := by decide +kernel
theorem dX12_mark_42 : decode cX12_mark 42 = .ok (.invokestatic 69, 3) := by decide +kernel
theorem dX12_mark_45 : decode cX12_mark 45 = .ok (.ifCond .ne 6, 3) := by decide +kernel
theorem dX12_mark_48 : decode cX12_mark 48 = .ok (.ldc 79, 2) := by decide +kernel
theorem dX12_mark_50 : decode cX12_mark 50 = .ok (.ireturn, 1) := by decide +kernel
theorem dX12_mark_51 : decode cX12_mark 51 = .ok (.aload_n 0, 1) := by decide +kernel
theorem dX12_mark_52 : decode cX12_mark 52 = .ok (.getfield 34, 3) := by decide +kernel
theorem dX12_mark_55 : decode cX12_mark 55 = .ok (.bipush 24, 2) := by decide +kernel
theorem dX12_mark_57 : decode cX12_mark 57 = .ok (.iload_n 1, 1) := by decide +kernel
theorem dX12_mark_58 : decode cX12_mark 58 = .ok (.imul, 1) := by decide +kernel
theorem dX12_mark_59 : decode cX12_mark 59 = .ok (.iload_n 2, 1) := by decide +kernel
theorem dX12_mark_60 : decode cX12_mark 60 = .ok (.iadd, 1) := by decide +kernel
theorem dX12_mark_61 : decode cX12_mark 61 = .ok (.baload, 1) := by decide +kernel
theorem dX12_mark_62 : decode cX12_mark 62 = .ok (.istore 5, 2) := by decide +kernel
theorem dX12_mark_64 : decode cX12_mark 64 = .ok (.aload_n 0, 1) := by decide +kernel
theorem dX12_mark_65 : decode cX12_mark 65 = .ok (.getfield 34, 3) := by decide +kernel
theorem dX12_mark_68 : decode cX12_mark 68 = .ok (.bipush 24, 2) := by decide +kernel
theorem dX12_mark_70 : decode cX12_mark 70 = .ok (.iload_n 1, 1) := by decide +kernel
theorem dX12_mark_71 : decode cX12_mark 71 = .ok (.imul, 1) := by decide +kernel
theorem dX12_mark_72 : decode cX12_mark 72 = .ok (.iload_n 2, 1) := by decide +kernel
theorem dX12_mark_73 : decode cX12_mark 73 = .ok (.iadd, 1) := by decide +kernel
theorem dX12_mark_74 : decode cX12_mark 74 = .ok (.iconst 1, 1) := by decide +kernel
theorem dX12_mark_75 : decode cX12_mark 75 = .ok (.bastore, 1) := by decide +kernel
theorem dX12_mark_76 : decode cX12_mark 76 = .ok (.aload_n 0, 1) := by decide +kernel
theorem dX12_mark_77 : decode cX12_mark 77 = .ok (.getfield 38, 3) := by decide +kernel
theorem dX12_mark_80 : decode cX12_mark 80 = .ok (.bipush 24, 2) := by decide +kernel
theorem dX12_mark_82 : decode cX12_mark 82 = .ok (.iload_n 1, 1) := by decide +kernel
theorem dX12_mark_83 : decode cX12_mark 83 = .ok (.imul, 1) := by decide +kernel
theorem dX12_mark_84 : decode cX12_mark 84 = .ok (.iload_n 2, 1) := by decide +kernel
theorem dX12_mark_85 : decode cX12_mark 85 = .ok (.iadd, 1) := by decide +kernel
theorem dX12_mark_86 : decode cX12_mark 86 = .ok (.iload_n 3, 1) := by decide +kernel
theorem dX12_mark_87 : decode cX12_mark 87 = .ok (.iastore, 1) := by decide +kernel
theorem dX12_mark_88 : decode cX12_mark 88 = .ok (.aload_n 0, 1) := by decide +kernel
theorem dX12_mark_89 : decode cX12_mark 89 = .ok (.getfield 41, 3) := by decide +kernel
theorem dX12_mark_92 : decode cX12_mark 92 = .ok (.bipush 24, 2) := by decide +kernel
theorem dX12_mark_94 : decode cX12_mark 94 = .ok (.iload_n 1, 1) := by decide +kernel
theorem dX12_mark_95 : decode cX12_mark 95 = .ok (.imul, 1) := by decide +kernel
theorem dX12_mark_96 : decode cX12_mark 96 = .ok (.iload_n 2, 1) := by decide +kernel
theorem dX12_mark_97 : decode cX12_mark 97 = .ok (.iadd, 1) := by decide +kernel
theorem dX12_mark_98 : decode cX12_mark 98 = .ok (.iload 4, 2) := by decide +kernel
theorem dX12_mark_100 : decode cX12_mark 100 = .ok (.iastore, 1) := by decide +kernel
theorem dX12_mark_101 : decode cX12_mark 101 = .ok (.iload 5, 2) := by decide +kernel
theorem dX12_mark_103 : decode cX12_mark 103 = .ok (.ifCond .eq 7, 3) := by decide +kernel
theorem dX12_mark_106 : decode cX12_mark 106 = .ok (.iconst 0, 1) := by decide +kernel
theorem dX12_mark_107 : decode cX12_mark 107 = .ok (.goto 4, 3) := by decide +kernel
theorem dX12_mark_110 : decode cX12_mark 110 = .ok (.iconst 1, 1) := by decide +kernel
theorem dX12_mark_111 : decode cX12_mark 111 = .ok (.ireturn, 1) := by decide +kernel
theorem dX12_rub_0 : decode cX12_rub 0 = .ok (.aload_n 0, 1) := by decide +kernel
theorem dX12_rub_1 : decode cX12_rub 1 = .ok (.iconst 0, 1) := by decide +kernel
theorem dX12_rub_2 : decode cX12_rub 2 = .ok (.putfield 59, 3) := by decide +kernel
theorem dX12_rub_5 : decode cX12_rub 5 = .ok (.iload_n 1, 1) := by decide +kernel
theorem dX12_rub_6 : decode cX12_rub 6 = .ok (.invokestatic 140, 3) := by decide +kernel
theorem dX12_rub_9 : decode cX12_rub 9 = .ok (.ifCond .eq 10, 3) := by decide +kernel
theorem dX12_rub_12 : decode cX12_rub 12 = .ok (.iload_n 2, 1) := by decide +kernel
theorem dX12_rub_13 : decode cX12_rub 13 = .ok (.invokestatic 143, 3) := by decide +kernel
theorem dX12_rub_16 : decode cX12_rub 16 = .ok (.ifCond .ne 6, 3) := by decide +kernel
theorem dX12_rub_19 : decode cX12_rub 19 = .ok (.ldc 79, 2) := by decide +kernel
theorem dX12_rub_21 : decode cX12_rub 21 = .ok (.ireturn, 1) := by decide +kernel
theorem dX12_rub_22 : decode cX12_rub 22 = .ok (.aload_n 0, 1) := by decide +kernel
theorem dX12_rub_23 : decode cX12_rub 23 = .ok (.getfield 34, 3) := by decide +kernel
theorem dX12_rub_26 : decode cX12_rub 26 = .ok (.bipush 24, 2) := by decide +kernel
theorem dX12_rub_28 : decode cX12_rub 28 = .ok (.iload_n 1, 1) := by decide +kernel
theorem dX12_rub_29 : decode cX12_rub 29 = .ok (.imul, 1) := by decide +kernel
theorem dX12_rub_30 : decode cX12_rub 30 = .ok (.iload_n 2, 1) := by decide +kernel
theorem dX12_rub_31 : decode cX12_rub 31 = .ok (.iadd, 1) := by decide +kernel
theorem dX12_rub_32 : decode cX12_rub 32 = .ok (.baload, 1) := by decide +kernel
theorem dX12_rub_33 : decode cX12_rub 33 = .ok (.istore_n 3, 1) := by decide +kernel
theorem dX12_rub_34 : decode cX12_rub 34 = .ok (.aload_n 0, 1) := by decide +kernel
theorem dX12_rub_35 : decode cX12_rub 35 = .ok (.getfield 34, 3) := by decide +kernel
theorem dX12_rub_38 : decode cX12_rub 38 = .ok (.bipush 24, 2) := by decide +kernel
theorem dX12_rub_40 : decode cX12_rub 40 = .ok (.iload_n 1, 1) := by decide +kernel
theorem dX12_rub_41 : decode cX12_rub 41 = .ok (.imul, 1) := by decide +kernel
theorem dX12_rub_42 : decode cX12_rub 42 = .ok (.iload_n 2, 1) := by decide +kernel
theorem dX12_rub_43 : decode cX12_rub 43 = .ok (.iadd, 1) := by decide +kernel
theorem dX12_rub_44 : decode cX12_rub 44 = .ok (.iconst 0, 1) := by decide +kernel
theorem dX12_rub_45 : decode cX12_rub 45 = .ok (.bastore, 1) := by decide +kernel
theorem dX12_rub_46 : decode cX12_rub 46 = .ok (.iload_n 3, 1) := by decide +kernel
theorem dX12_rub_47 : decode cX12_rub 47 = .ok (.ifCond .eq 7, 3) := by decide +kernel
theorem dX12_rub_50 : decode cX12_rub 50 = .ok (.iconst 1, 1) := by decide +kernel
theorem dX12_rub_51 : decode cX12_rub 51 = .ok (.goto 4, 3) := by decide +kernel
theorem dX12_rub_54 : decode cX12_rub 54 = .ok (.iconst 0, 1) := by decide +kernel
theorem dX12_rub_55 : decode cX12_rub 55 = .ok (.ireturn, 1) := by decide +kernel
theorem dX12_isSeen_0 : decode cX12_isSeen 0 = .ok (.aload_n 0, 1) := by decide +kernel
theorem dX12_isSeen_1 : decode cX12_isSeen 1 = .ok (.iload_n 1, 1) := by decide +kernel
theorem dX12_isSeen_2 : decode cX12_isSeen 2 = .ok (.invokevirtual 129, 3) := by decide +kernel
theorem dX12_isSeen_5 : decode cX12_isSeen 5 = .ok (.invokestatic 123, 3) := by decide +kernel
theorem dX12_isSeen_8 : decode cX12_isSeen 8 = .ok (.aload_n 0, 1) := by decide +kernel
theorem dX12_isSeen_9 : decode cX12_isSeen 9 = .ok (.getfield 19, 3) := by decide +kernel
theorem dX12_isSeen_12 : decode cX12_isSeen 12 = .ok (.iconst 5, 1) := by decide +kernel
theorem dX12_isSeen_13 : decode cX12_isSeen 13 = .ok (.iaload, 1) := by decide +kernel
theorem dX12_isSeen_14 : decode cX12_isSeen 14 = .ok (.if_icmp .gt 25, 3) := by decide +kernel
theorem dX12_isSeen_17 : decode cX12_isSeen 17 = .ok (.aload_n 0, 1) := by decide +kernel
theorem dX12_isSeen_18 : decode cX12_isSeen 18 = .ok (.iload_n 1, 1) := by decide +kernel
theorem dX12_isSeen_19 : decode cX12_isSeen 19 = .ok (.invokevirtual 132, 3) := by decide +kernel
theorem dX12_isSeen_22 : decode cX12_isSeen 22 = .ok (.invokestatic 123, 3) := by decide +kernel
theorem dX12_isSeen_25 : decode cX12_isSeen 25 = .ok (.aload_n 0, 1) := by decide +kernel
theorem dX12_isSeen_26 : decode cX12_isSeen 26 = .ok (.getfield 19, 3) := by decide +kernel
theorem dX12_isSeen_29 : decode cX12_isSeen 29 = .ok (.bipush 6, 2) := by decide +kernel
theorem dX12_isSeen_31 : decode cX12_isSeen 31 = .ok (.iaload, 1) := by decide +kernel
theorem dX12_isSeen_32 : decode cX12_isSeen 32 = .ok (.if_icmp .gt 7, 3) := by decide +kernel
theorem dX12_isSeen_35 : decode cX12_isSeen 35 = .ok (.iconst 1, 1) := by decide +kernel
theorem dX12_isSeen_36 : decode cX12_isSeen 36 = .ok (.goto 4, 3) := by decide +kernel
theorem dX12_isSeen_39 : decode cX12_isSeen 39 = .ok (.iconst 0, 1) := by decide +kernel
theorem dX12_isSeen_40 : decode cX12_isSeen 40 = .ok (.ireturn, 1) := by decide +kernel
theorem dX12_draw_0 : decode cX12_draw 0 = .ok (.aload_n 0, 1) := by decide +kernel
theorem dX12_draw_1 : decode cX12_draw 1 = .ok (.iconst 0, 1) := by decide +kernel
theorem dX12_draw_2 : decode cX12_draw 2 = .ok (.putfield 59, 3) := by decide +kernel
theorem dX12_draw_5 : decode cX12_draw 5 = .ok (.iload_n 1, 1) := by decide +kernel
theorem dX12_draw_6 : decode cX12_draw 6 = .ok (.invokestatic 140, 3) := by decide +kernel
theorem dX12_draw_9 : decode cX12_draw 9 = .ok (.ifCond .ne 6, 3) := by decide +kernel
theorem dX12_draw_12 : decode cX12_draw 12 = .ok (.ldc 79, 2) := by decide +kernel
theorem dX12_draw_14 : decode cX12_draw 14 = .ok (.ireturn, 1) := by decide +kernel
theorem dX12_draw_15 : decode cX12_draw 15 = .ok (.iconst 0, 1) := by decide +kernel
theorem dX12_draw_16 : decode cX12_draw 16 = .ok (.istore_n 2, 1) := by decide +kernel
theorem dX12_draw_17 : decode cX12_draw 17 = .ok (.iconst 0, 1) := by decide +kernel
theorem dX12_draw_18 : decode cX12_draw 18 = .ok (.istore_n 3, 1) := by decide +kernel
theorem dX12_draw_19 : decode cX12_draw 19 = .ok (.iload_n 3, 1) := by decide +kernel
theorem dX12_draw_20 : decode cX12_draw 20 = .ok (.bipush 24, 2) := by decide +kernel
theorem dX12_draw_22 : decode cX12_draw 22 = .ok (.if_icmp .ge 90, 3) := by decide +kernel
theorem dX12_draw_25 : decode cX12_draw 25 = .ok (.aload_n 0, 1) := by decide +kernel
theorem dX12_draw_26 : decode cX12_draw 26 = .ok (.getfield 34, 3) := by decide +kernel
theorem dX12_draw_29 : decode cX12_draw 29 = .ok (.bipush 24, 2) := by decide +kernel
theorem dX12_draw_31 : decode cX12_draw 31 = .ok (.iload_n 1, 1) := by decide +kernel
theorem dX12_draw_32 : decode cX12_draw 32 = .ok (.imul, 1) := by decide +kernel
theorem dX12_draw_33 : decode cX12_draw 33 = .ok (.iload_n 3, 1) := by decide +kernel
theorem dX12_draw_34 : decode cX12_draw 34 = .ok (.iadd, 1) := by decide +kernel
theorem dX12_draw_35 : decode cX12_draw 35 = .ok (.iload_n 3, 1) := by decide +kernel
theorem dX12_draw_36 : decode cX12_draw 36 = .ok (.aload_n 0, 1) := by decide +kernel
theorem dX12_draw_37 : decode cX12_draw 37 = .ok (.getfield 102, 3) := by decide +kernel
theorem dX12_draw_40 : decode cX12_draw 40 = .ok (.if_icmp .ge 15, 3) := by decide +kernel
theorem dX12_draw_43 : decode cX12_draw 43 = .ok (.aload_n 0, 1) := by decide +kernel
theorem dX12_draw_44 : decode cX12_draw 44 = .ok (.iload_n 3, 1) := by decide +kernel
theorem dX12_draw_45 : decode cX12_draw 45 = .ok (.invokevirtual 146, 3) := by decide +kernel
theorem dX12_draw_48 : decode cX12_draw 48 = .ok (.ifCond .eq 7, 3) := by decide +kernel
theorem dX12_draw_51 : decode cX12_draw 51 = .ok (.iconst 1, 1) := by decide +kernel
theorem dX12_draw_52 : decode cX12_draw 52 = .ok (.goto 4, 3) := by decide +kernel
theorem dX12_draw_55 : decode cX12_draw 55 = .ok (.iconst 0, 1) := by decide +kernel
theorem dX12_draw_56 : decode cX12_draw 56 = .ok (.bastore, 1) := by decide +kernel
theorem dX12_draw_57 : decode cX12_draw 57 = .ok (.aload_n 0, 1) := by decide +kernel
theorem dX12_draw_58 : decode cX12_draw 58 = .ok (.getfield 34, 3) := by decide +kernel
theorem dX12_draw_61 : decode cX12_draw 61 = .ok (.bipush 24, 2) := by decide +kernel
theorem dX12_draw_63 : decode cX12_draw 63 = .ok (.iload_n 1, 1) := by decide +kernel
theorem dX12_draw_64 : decode cX12_draw 64 = .ok (.imul, 1) := by decide +kernel
theorem dX12_draw_65 : decode cX12_draw 65 = .ok (.iload_n 3, 1) := by decide +kernel
theorem dX12_draw_66 : decode cX12_draw 66 = .ok (.iadd, 1) := by decide +kernel
theorem dX12_draw_67 : decode cX12_draw 67 = .ok (.baload, 1) := by decide +kernel
theorem dX12_draw_68 : decode cX12_draw 68 = .ok (.ifCond .eq 38, 3) := by decide +kernel
theorem dX12_draw_71 : decode cX12_draw 71 = .ok (.aload_n 0, 1) := by decide +kernel
theorem dX12_draw_72 : decode cX12_draw 72 = .ok (.getfield 38, 3) := by decide +kernel
theorem dX12_draw_75 : decode cX12_draw 75 = .ok (.bipush 24, 2) := by decide +kernel
theorem dX12_draw_77 : decode cX12_draw 77 = .ok (.iload_n 1, 1) := by decide +kernel
theorem dX12_draw_78 : decode cX12_draw 78 = .ok (.imul, 1) := by decide +kernel
theorem dX12_draw_79 : decode cX12_draw 79 = .ok (.iload_n 3, 1) := by decide +kernel
theorem dX12_draw_80 : decode cX12_draw 80 = .ok (.iadd, 1) := by decide +kernel
theorem dX12_draw_81 : decode cX12_draw 81 = .ok (.aload_n 0, 1) := by decide +kernel
theorem dX12_draw_82 : decode cX12_draw 82 = .ok (.iload_n 3, 1) := by decide +kernel
theorem dX12_draw_83 : decode cX12_draw 83 = .ok (.invokevirtual 129, 3) := by decide +kernel
theorem dX12_draw_86 : decode cX12_draw 86 = .ok (.iastore, 1) := by decide +kernel
theorem dX12_draw_87 : decode cX12_draw 87 = .ok (.aload_n 0, 1) := by decide +kernel
theorem dX12_draw_88 : decode cX12_draw 88 = .ok (.getfield 41, 3) := by decide +kernel
theorem dX12_draw_91 : decode cX12_draw 91 = .ok (.bipush 24, 2) := by decide +kernel
theorem dX12_draw_93 : decode cX12_draw 93 = .ok (.iload_n 1, 1) := by decide +kernel
theorem dX12_draw_94 : decode cX12_draw 94 = .ok (.imul, 1) := by decide +kernel
theorem dX12_draw_95 : decode cX12_draw 95 = .ok (.iload_n 3, 1) := by decide +kernel
theorem dX12_draw_96 : decode cX12_draw 96 = .ok (.iadd, 1) := by decide +kernel
theorem dX12_draw_97 : decode cX12_draw 97 = .ok (.aload_n 0, 1) := by decide +kernel
theorem dX12_draw_98 : decode cX12_draw 98 = .ok (.iload_n 3, 1) := by decide +kernel
theorem dX12_draw_99 : decode cX12_draw 99 = .ok (.invokevirtual 132, 3) := by decide +kernel
theorem dX12_draw_102 : decode cX12_draw 102 = .ok (.iastore, 1) := by decide +kernel
theorem dX12_draw_103 : decode cX12_draw 103 = .ok (.iinc 2 1, 3) := by decide +kernel
theorem dX12_draw_106 : decode cX12_draw 106 = .ok (.iinc 3 1, 3) := by decide +kernel
theorem dX12_draw_109 : decode cX12_draw 109 = .ok (.goto (-90), 3) := by decide +kernel
theorem dX12_draw_112 : decode cX12_draw 112 = .ok (.iload_n 2, 1) := by decide +kernel
theorem dX12_draw_113 : decode cX12_draw 113 = .ok (.ireturn, 1) := by decide +kernel
theorem dX12_marked_0 : decode cX12_marked 0 = .ok (.aload_n 0, 1) := by decide +kernel
theorem dX12_marked_1 : decode cX12_marked 1 = .ok (.iconst 0, 1) := by decide +kernel
theorem dX12_marked_2 : decode cX12_marked 2 = .ok (.putfield 59, 3) := by decide +kernel
theorem dX12_marked_5 : decode cX12_marked 5 = .ok (.iload_n 1, 1) := by decide +kernel
theorem dX12_marked_6 : decode cX12_marked 6 = .ok (.invokestatic 140, 3) := by decide +kernel
theorem dX12_marked_9 : decode cX12_marked 9 = .ok (.ifCond .eq 20, 3) := by decide +kernel
theorem dX12_marked_12 : decode cX12_marked 12 = .ok (.iload_n 2, 1) := by decide +kernel
theorem dX12_marked_13 : decode cX12_marked 13 = .ok (.invokestatic 143, 3) := by decide +kernel
theorem dX12_marked_16 : decode cX12_marked 16 = .ok (.ifCond .eq 13, 3) := by decide +kernel
theorem dX12_marked_19 : decode cX12_marked 19 = .ok (.iload_n 3, 1) := by decide +kernel
theorem dX12_marked_20 : decode cX12_marked 20 = .ok (.i2l, 1) := by decide +kernel
theorem dX12_marked_21 : decode cX12_marked 21 = .ok (.lconst 0, 1) := by decide +kernel
theorem dX12_marked_22 : decode cX12_marked 22 = .ok (.lconst 1, 1) := by decide +kernel
theorem dX12_marked_23 : decode cX12_marked 23 = .ok (.invokestatic 69, 3) := by decide +kernel
theorem dX12_marked_26 : decode cX12_marked 26 = .ok (.ifCond .ne 6, 3) := by decide +kernel
theorem dX12_marked_29 : decode cX12_marked 29 = .ok (.ldc 79, 2) := by decide +kernel
theorem dX12_marked_31 : decode cX12_marked 31 = .ok (.ireturn, 1) := by decide +kernel
theorem dX12_marked_32 : decode cX12_marked 32 = .ok (.aload_n 0, 1) := by decide +kernel
theorem dX12_marked_33 : decode cX12_marked 33 = .ok (.getfield 34, 3) := by decide +kernel
theorem dX12_marked_36 : decode cX12_marked 36 = .ok (.bipush 24, 2) := by decide +kernel
theorem dX12_marked_38 : decode cX12_marked 38 = .ok (.iload_n 1, 1) := by decide +kernel
theorem dX12_marked_39 : decode cX12_marked 39 = .ok (.imul, 1) := by decide +kernel
theorem dX12_marked_40 : decode cX12_marked 40 = .ok (.iload_n 2, 1) := by decide +kernel
theorem dX12_marked_41 : decode cX12_marked 41 = .ok (.iadd, 1) := by decide +kernel
theorem dX12_marked_42 : decode cX12_marked 42 = .ok (.baload, 1) := by decide +kernel
theorem dX12_marked_43 : decode cX12_marked 43 = .ok (.ifCond .ne 8, 3) := by decide +kernel
theorem dX12_marked_46 : decode cX12_marked 46 = .ok (.ldc 149, 2) := by decide +kernel
theorem dX12_marked_48 : decode cX12_marked 48 = .ok (.goto 32, 3) := by decide +kernel
theorem dX12_marked_51 : decode cX12_marked 51 = .ok (.iload_n 3, 1) := by decide +kernel
theorem dX12_marked_52 : decode cX12_marked 52 = .ok (.ifCond .ne 17, 3) := by decide +kernel
theorem dX12_marked_55 : decode cX12_marked 55 = .ok (.aload_n 0, 1) := by decide +kernel
theorem dX12_marked_56 : decode cX12_marked 56 = .ok (.getfield 38, 3) := by decide +kernel
theorem dX12_marked_59 : decode cX12_marked 59 = .ok (.bipush 24, 2) := by decide +kernel
theorem dX12_marked_61 : decode cX12_marked 61 = .ok (.iload_n 1, 1) := by decide +kernel
theorem dX12_marked_62 : decode cX12_marked 62 = .ok (.imul, 1) := by decide +kernel
theorem dX12_marked_63 : decode cX12_marked 63 = .ok (.iload_n 2, 1) := by decide +kernel
theorem dX12_marked_64 : decode cX12_marked 64 = .ok (.iadd, 1) := by decide +kernel
theorem dX12_marked_65 : decode cX12_marked 65 = .ok (.iaload, 1) := by decide +kernel
theorem dX12_marked_66 : decode cX12_marked 66 = .ok (.goto 14, 3) := by decide +kernel
theorem dX12_marked_69 : decode cX12_marked 69 = .ok (.aload_n 0, 1) := by decide +kernel
theorem dX12_marked_70 : decode cX12_marked 70 = .ok (.getfield 41, 3) := by decide +kernel
theorem dX12_marked_73 : decode cX12_marked 73 = .ok (.bipush 24, 2) := by decide +kernel
theorem dX12_marked_75 : decode cX12_marked 75 = .ok (.iload_n 1, 1) := by decide +kernel
theorem dX12_marked_76 : decode cX12_marked 76 = .ok (.imul, 1) := by decide +kernel
theorem dX12_marked_77 : decode cX12_marked 77 = .ok (.iload_n 2, 1) := by decide +kernel
theorem dX12_marked_78 : decode cX12_marked 78 = .ok (.iadd, 1) := by decide +kernel
theorem dX12_marked_79 : decode cX12_marked 79 = .ok (.iaload, 1) := by decide +kernel
theorem dX12_marked_80 : decode cX12_marked 80 = .ok (.ireturn, 1) := by decide +kernel
theorem dX12_middle_0 : decode cX12_middle 0 = .ok (.iconst 1, 1) := by decide +kernel
theorem dX12_middle_1 : decode cX12_middle 1 = .ok (.istore_n 1, 1) := by decide +kernel
theorem dX12_middle_2 : decode cX12_middle 2 = .ok (.iload_n 1, 1) := by decide +kernel
theorem dX12_middle_3 : decode cX12_middle 3 = .ok (.aload_n 0, 1) := by decide +kernel
theorem dX12_middle_4 : decode cX12_middle 4 = .ok (.getfield 150, 3) := by decide +kernel
theorem dX12_middle_7 : decode cX12_middle 7 = .ok (.if_icmp .ge 61, 3) := by decide +kernel
theorem dX12_middle_10 : decode cX12_middle 10 = .ok (.aload_n 0, 1) := by decide +kernel
theorem dX12_middle_11 : decode cX12_middle 11 = .ok (.getfield 44, 3) := by decide +kernel
theorem dX12_middle_14 : decode cX12_middle 14 = .ok (.iload_n 1, 1) := by decide +kernel
theorem dX12_middle_15 : decode cX12_middle 15 = .ok (.iaload, 1) := by decide +kernel
theorem dX12_middle_16 : decode cX12_middle 16 = .ok (.istore_n 2, 1) := by decide +kernel
theorem dX12_middle_17 : decode cX12_middle 17 = .ok (.iload_n 1, 1) := by decide +kernel
theorem dX12_middle_18 : decode cX12_middle 18 = .ok (.istore_n 3, 1) := by decide +kernel
theorem dX12_middle_19 : decode cX12_middle 19 = .ok (.iload_n 3, 1) := by decide +kernel
theorem dX12_middle_20 : decode cX12_middle 20 = .ok (.ifCond .le 35, 3) := by decide +kernel
theorem dX12_middle_23 : decode cX12_middle 23 = .ok (.aload_n 0, 1) := by decide +kernel
theorem dX12_middle_24 : decode cX12_middle 24 = .ok (.getfield 44, 3) := by decide +kernel
theorem dX12_middle_27 : decode cX12_middle 27 = .ok (.iload_n 3, 1) := by decide +kernel
theorem dX12_middle_28 : decode cX12_middle 28 = .ok (.iconst 1, 1) := by decide +kernel
theorem dX12_middle_29 : decode cX12_middle 29 = .ok (.isub, 1) := by decide +kernel
theorem dX12_middle_30 : decode cX12_middle 30 = .ok (.iaload, 1) := by decide +kernel
theorem dX12_middle_31 : decode cX12_middle 31 = .ok (.iload_n 2, 1) := by decide +kernel
theorem dX12_middle_32 : decode cX12_middle 32 = .ok (.if_icmp .le 23, 3) := by decide +kernel
theorem dX12_middle_35 : decode cX12_middle 35 = .ok (.aload_n 0, 1) := by decide +kernel
theorem dX12_middle_36 : decode cX12_middle 36 = .ok (.getfield 44, 3) := by decide +kernel
theorem dX12_middle_39 : decode cX12_middle 39 = .ok (.iload_n 3, 1) := by decide +kernel
theorem dX12_middle_40 : decode cX12_middle 40 = .ok (.aload_n 0, 1) := by decide +kernel
theorem dX12_middle_41 : decode cX12_middle 41 = .ok (.getfield 44, 3) := by decide +kernel
theorem dX12_middle_44 : decode cX12_middle 44 = .ok (.iload_n 3, 1) := by decide +kernel
theorem dX12_middle_45 : decode cX12_middle 45 = .ok (.iconst 1, 1) := by decide +kernel
theorem dX12_middle_46 : decode cX12_middle 46 = .ok (.isub, 1) := by decide +kernel
theorem dX12_middle_47 : decode cX12_middle 47 = .ok (.iaload, 1) := by decide +kernel
theorem dX12_middle_48 : decode cX12_middle 48 = .ok (.iastore, 1) := by decide +kernel
theorem dX12_middle_49 : decode cX12_middle 49 = .ok (.iinc 3 (-1), 3) := by decide +kernel
theorem dX12_middle_52 : decode cX12_middle 52 = .ok (.goto (-33), 3) := by decide +kernel
theorem dX12_middle_55 : decode cX12_middle 55 = .ok (.aload_n 0, 1) := by decide +kernel
theorem dX12_middle_56 : decode cX12_middle 56 = .ok (.getfield 44, 3) := by decide +kernel
theorem dX12_middle_59 : decode cX12_middle 59 = .ok (.iload_n 3, 1) := by decide +kernel
theorem dX12_middle_60 : decode cX12_middle 60 = .ok (.iload_n 2, 1) := by decide +kernel
theorem dX12_middle_61 : decode cX12_middle 61 = .ok (.iastore, 1) := by decide +kernel
theorem dX12_middle_62 : decode cX12_middle 62 = .ok (.iinc 1 1, 3) := by decide +kernel
theorem dX12_middle_65 : decode cX12_middle 65 = .ok (.goto (-63), 3) := by decide +kernel
theorem dX12_middle_68 : decode cX12_middle 68 = .ok (.aload_n 0, 1) := by decide +kernel
theorem dX12_middle_69 : decode cX12_middle 69 = .ok (.getfield 44, 3) := by decide +kernel
theorem dX12_middle_72 : decode cX12_middle 72 = .ok (.aload_n 0, 1) := by decide +kernel
theorem dX12_middle_73 : decode cX12_middle 73 = .ok (.getfield 150, 3) := by decide +kernel
theorem dX12_middle_76 : decode cX12_middle 76 = .ok (.iconst 1, 1) := by decide +kernel
theorem dX12_middle_77 : decode cX12_middle 77 = .ok (.isub, 1) := by decide +kernel
theorem dX12_middle_78 : decode cX12_middle 78 = .ok (.iconst 2, 1) := by decide +kernel
theorem dX12_middle_79 : decode cX12_middle 79 = .ok (.idiv, 1) := by decide +kernel
theorem dX12_middle_80 : decode cX12_middle 80 = .ok (.iaload, 1) := by decide +kernel
theorem dX12_middle_81 : decode cX12_middle 81 = .ok (.ireturn, 1) := by decide +kernel
theorem dX12_sumFrom_0 : decode cX12_sumFrom 0 = .ok (.iconst 0, 1) := by decide +kernel
theorem dX12_sumFrom_1 : decode cX12_sumFrom 1 = .ok (.istore_n 2, 1) := by decide +kernel
theorem dX12_sumFrom_2 : decode cX12_sumFrom 2 = .ok (.iconst 0, 1) := by decide +kernel
theorem dX12_sumFrom_3 : decode cX12_sumFrom 3 = .ok (.istore_n 3, 1) := by decide +kernel
theorem dX12_sumFrom_4 : decode cX12_sumFrom 4 = .ok (.iload_n 3, 1) := by decide +kernel
theorem dX12_sumFrom_5 : decode cX12_sumFrom 5 = .ok (.aload_n 0, 1) := by decide +kernel
theorem dX12_sumFrom_6 : decode cX12_sumFrom 6 = .ok (.getfield 150, 3) := by decide +kernel
theorem dX12_sumFrom_9 : decode cX12_sumFrom 9 = .ok (.if_icmp .ge 23, 3) := by decide +kernel
theorem dX12_sumFrom_12 : decode cX12_sumFrom 12 = .ok (.iload_n 2, 1) := by decide +kernel
theorem dX12_sumFrom_13 : decode cX12_sumFrom 13 = .ok (.aload_n 0, 1) := by decide +kernel
theorem dX12_sumFrom_14 : decode cX12_sumFrom 14 = .ok (.getfield 44, 3) := by decide +kernel
theorem dX12_sumFrom_17 : decode cX12_sumFrom 17 = .ok (.iload_n 3, 1) := by decide +kernel
theorem dX12_sumFrom_18 : decode cX12_sumFrom 18 = .ok (.iaload, 1) := by decide +kernel
theorem dX12_sumFrom_19 : decode cX12_sumFrom 19 = .ok (.iload_n 1, 1) := by decide +kernel
theorem dX12_sumFrom_20 : decode cX12_sumFrom 20 = .ok (.isub, 1) := by decide +kernel
theorem dX12_sumFrom_21 : decode cX12_sumFrom 21 = .ok (.invokestatic 123, 3) := by decide +kernel
theorem dX12_sumFrom_24 : decode cX12_sumFrom 24 = .ok (.iadd, 1) := by decide +kernel
theorem dX12_sumFrom_25 : decode cX12_sumFrom 25 = .ok (.istore_n 2, 1) := by decide +kernel
theorem dX12_sumFrom_26 : decode cX12_sumFrom 26 = .ok (.iinc 3 1, 3) := by decide +kernel
theorem dX12_sumFrom_29 : decode cX12_sumFrom 29 = .ok (.goto (-25), 3) := by decide +kernel
theorem dX12_sumFrom_32 : decode cX12_sumFrom 32 = .ok (.iload_n 2, 1) := by decide +kernel
theorem dX12_sumFrom_33 : decode cX12_sumFrom 33 = .ok (.ireturn, 1) := by decide +kernel
theorem dX12_join_0 : decode cX12_join 0 = .ok (.aload_n 0, 1) := by decide +kernel
theorem dX12_join_1 : decode cX12_join 1 = .ok (.iconst 0, 1) := by decide +kernel
theorem dX12_join_2 : decode cX12_join 2 = .ok (.putfield 150, 3) := by decide +kernel
theorem dX12_join_5 : decode cX12_join 5 = .ok (.aload_n 0, 1) := by decide +kernel
theorem dX12_join_6 : decode cX12_join 6 = .ok (.iconst 0, 1) := by decide +kernel
theorem dX12_join_7 : decode cX12_join 7 = .ok (.putfield 153, 3) := by decide +kernel
theorem dX12_join_10 : decode cX12_join 10 = .ok (.iconst 0, 1) := by decide +kernel
theorem dX12_join_11 : decode cX12_join 11 = .ok (.istore_n 3, 1) := by decide +kernel
theorem dX12_join_12 : decode cX12_join 12 = .ok (.iload_n 3, 1) := by decide +kernel
theorem dX12_join_13 : decode cX12_join 13 = .ok (.iconst 2, 1) := by decide +kernel
theorem dX12_join_14 : decode cX12_join 14 = .ok (.if_icmp .ge 199, 3) := by decide +kernel
theorem dX12_join_17 : decode cX12_join 17 = .ok (.aload_n 0, 1) := by decide +kernel
theorem dX12_join_18 : decode cX12_join 18 = .ok (.iconst 0, 1) := by decide +kernel
theorem dX12_join_19 : decode cX12_join 19 = .ok (.putfield 150, 3) := by decide +kernel
theorem dX12_join_22 : decode cX12_join 22 = .ok (.iconst 0, 1) := by decide +kernel
theorem dX12_join_23 : decode cX12_join 23 = .ok (.istore 4, 2) := by decide +kernel
theorem dX12_join_25 : decode cX12_join 25 = .ok (.iload 4, 2) := by decide +kernel
theorem dX12_join_27 : decode cX12_join 27 = .ok (.bipush 24, 2) := by decide +kernel
theorem dX12_join_29 : decode cX12_join 29 = .ok (.if_icmp .ge 115, 3) := by decide +kernel
theorem dX12_join_32 : decode cX12_join 32 = .ok (.aload_n 0, 1) := by decide +kernel
theorem dX12_join_33 : decode cX12_join 33 = .ok (.getfield 34, 3) := by decide +kernel
theorem dX12_join_36 : decode cX12_join 36 = .ok (.bipush 24, 2) := by decide +kernel
theorem dX12_join_38 : decode cX12_join 38 = .ok (.iload_n 1, 1) := by decide +kernel
theorem dX12_join_39 : decode cX12_join 39 = .ok (.imul, 1) := by decide +kernel
theorem dX12_join_40 : decode cX12_join 40 = .ok (.iload 4, 2) := by decide +kernel
theorem dX12_join_42 : decode cX12_join 42 = .ok (.iadd, 1) := by decide +kernel
theorem dX12_join_43 : decode cX12_join 43 = .ok (.baload, 1) := by decide +kernel
theorem dX12_join_44 : decode cX12_join 44 = .ok (.ifCond .eq 94, 3) := by decide +kernel
theorem dX12_join_47 : decode cX12_join 47 = .ok (.aload_n 0, 1) := by decide +kernel
theorem dX12_join_48 : decode cX12_join 48 = .ok (.getfield 34, 3) := by decide +kernel
theorem dX12_join_51 : decode cX12_join 51 = .ok (.bipush 24, 2) := by decide +kernel
theorem dX12_join_53 : decode cX12_join 53 = .ok (.iload_n 2, 1) := by decide +kernel
theorem dX12_join_54 : decode cX12_join 54 = .ok (.imul, 1) := by decide +kernel
theorem dX12_join_55 : decode cX12_join 55 = .ok (.iload 4, 2) := by decide +kernel
theorem dX12_join_57 : decode cX12_join 57 = .ok (.iadd, 1) := by decide +kernel
theorem dX12_join_58 : decode cX12_join 58 = .ok (.baload, 1) := by decide +kernel
theorem dX12_join_59 : decode cX12_join 59 = .ok (.ifCond .eq 79, 3) := by decide +kernel
theorem dX12_join_62 : decode cX12_join 62 = .ok (.aload_n 0, 1) := by decide +kernel
theorem dX12_join_63 : decode cX12_join 63 = .ok (.getfield 44, 3) := by decide +kernel
theorem dX12_join_66 : decode cX12_join 66 = .ok (.aload_n 0, 1) := by decide +kernel
theorem dX12_join_67 : decode cX12_join 67 = .ok (.getfield 150, 3) := by decide +kernel
theorem dX12_join_70 : decode cX12_join 70 = .ok (.iload_n 3, 1) := by decide +kernel
theorem dX12_join_71 : decode cX12_join 71 = .ok (.ifCond .ne 31, 3) := by decide +kernel
theorem dX12_join_74 : decode cX12_join 74 = .ok (.aload_n 0, 1) := by decide +kernel
theorem dX12_join_75 : decode cX12_join 75 = .ok (.getfield 38, 3) := by decide +kernel
theorem dX12_join_78 : decode cX12_join 78 = .ok (.bipush 24, 2) := by decide +kernel
theorem dX12_join_80 : decode cX12_join 80 = .ok (.iload_n 1, 1) := by decide +kernel
theorem dX12_join_81 : decode cX12_join 81 = .ok (.imul, 1) := by decide +kernel
theorem dX12_join_82 : decode cX12_join 82 = .ok (.iload 4, 2) := by decide +kernel
theorem dX12_join_84 : decode cX12_join 84 = .ok (.iadd, 1) := by decide +kernel
theorem dX12_join_85 : decode cX12_join 85 = .ok (.iaload, 1) := by decide +kernel
theorem dX12_join_86 : decode cX12_join 86 = .ok (.aload_n 0, 1) := by decide +kernel
theorem dX12_join_87 : decode cX12_join 87 = .ok (.getfield 38, 3) := by decide +kernel
theorem dX12_join_90 : decode cX12_join 90 = .ok (.bipush 24, 2) := by decide +kernel
theorem dX12_join_92 : decode cX12_join 92 = .ok (.iload_n 2, 1) := by decide +kernel
theorem dX12_join_93 : decode cX12_join 93 = .ok (.imul, 1) := by decide +kernel
theorem dX12_join_94 : decode cX12_join 94 = .ok (.iload 4, 2) := by decide +kernel
theorem dX12_join_96 : decode cX12_join 96 = .ok (.iadd, 1) := by decide +kernel
theorem dX12_join_97 : decode cX12_join 97 = .ok (.iaload, 1) := by decide +kernel
theorem dX12_join_98 : decode cX12_join 98 = .ok (.isub, 1) := by decide +kernel
theorem dX12_join_99 : decode cX12_join 99 = .ok (.goto 28, 3) := by decide +kernel
theorem dX12_join_102 : decode cX12_join 102 = .ok (.aload_n 0, 1) := by decide +kernel
theorem dX12_join_103 : decode cX12_join 103 = .ok (.getfield 41, 3) := by decide +kernel
theorem dX12_join_106 : decode cX12_join 106 = .ok (.bipush 24, 2) := by decide +kernel
theorem dX12_join_108 : decode cX12_join 108 = .ok (.iload_n 1, 1) := by decide +kernel
theorem dX12_join_109 : decode cX12_join 109 = .ok (.imul, 1) := by decide +kernel
theorem dX12_join_110 : decode cX12_join 110 = .ok (.iload 4, 2) := by decide +kernel
theorem dX12_join_112 : decode cX12_join 112 = .ok (.iadd, 1) := by decide +kernel
theorem dX12_join_113 : decode cX12_join 113 = .ok (.iaload, 1) := by decide +kernel
theorem dX12_join_114 : decode cX12_join 114 = .ok (.aload_n 0, 1) := by decide +kernel
theorem dX12_join_115 : decode cX12_join 115 = .ok (.getfield 41, 3) := by decide +kernel
theorem dX12_join_118 : decode cX12_join 118 = .ok (.bipush 24, 2) := by decide +kernel
theorem dX12_join_120 : decode cX12_join 120 = .ok (.iload_n 2, 1) := by decide +kernel
theorem dX12_join_121 : decode cX12_join 121 = .ok (.imul, 1) := by decide +kernel
theorem dX12_join_122 : decode cX12_join 122 = .ok (.iload 4, 2) := by decide +kernel
theorem dX12_join_124 : decode cX12_join 124 = .ok (.iadd, 1) := by decide +kernel
theorem dX12_join_125 : decode cX12_join 125 = .ok (.iaload, 1) := by decide +kernel
theorem dX12_join_126 : decode cX12_join 126 = .ok (.isub, 1) := by decide +kernel
theorem dX12_join_127 : decode cX12_join 127 = .ok (.iastore, 1) := by decide +kernel
theorem dX12_join_128 : decode cX12_join 128 = .ok (.aload_n 0, 1) := by decide +kernel
theorem dX12_join_129 : decode cX12_join 129 = .ok (.dup, 1) := by decide +kernel
theorem dX12_join_130 : decode cX12_join 130 = .ok (.getfield 150, 3) := by decide +kernel
theorem dX12_join_133 : decode cX12_join 133 = .ok (.iconst 1, 1) := by decide +kernel
theorem dX12_join_134 : decode cX12_join 134 = .ok (.iadd, 1) := by decide +kernel
theorem dX12_join_135 : decode cX12_join 135 = .ok (.putfield 150, 3) := by decide +kernel
theorem dX12_join_138 : decode cX12_join 138 = .ok (.iinc 4 1, 3) := by decide +kernel
theorem dX12_join_141 : decode cX12_join 141 = .ok (.goto (-116), 3) := by decide +kernel
theorem dX12_join_144 : decode cX12_join 144 = .ok (.aload_n 0, 1) := by decide +kernel
theorem dX12_join_145 : decode cX12_join 145 = .ok (.getfield 150, 3) := by decide +kernel
theorem dX12_join_148 : decode cX12_join 148 = .ok (.ifCond .le 59, 3) := by decide +kernel
theorem dX12_join_151 : decode cX12_join 151 = .ok (.aload_n 0, 1) := by decide +kernel
theorem dX12_join_152 : decode cX12_join 152 = .ok (.invokevirtual 156, 3) := by decide +kernel
theorem dX12_join_155 : decode cX12_join 155 = .ok (.istore 4, 2) := by decide +kernel
theorem dX12_join_157 : decode cX12_join 157 = .ok (.aload_n 0, 1) := by decide +kernel
theorem dX12_join_158 : decode cX12_join 158 = .ok (.dup, 1) := by decide +kernel
theorem dX12_join_159 : decode cX12_join 159 = .ok (.getfield 153, 3) := by decide +kernel
theorem dX12_join_162 : decode cX12_join 162 = .ok (.aload_n 0, 1) := by decide +kernel
theorem dX12_join_163 : decode cX12_join 163 = .ok (.iload 4, 2) := by decide +kernel
theorem dX12_join_165 : decode cX12_join 165 = .ok (.invokevirtual 160, 3) := by decide +kernel
theorem dX12_join_168 : decode cX12_join 168 = .ok (.iadd, 1) := by decide +kernel
theorem dX12_join_169 : decode cX12_join 169 = .ok (.putfield 153, 3) := by decide +kernel
theorem dX12_join_172 : decode cX12_join 172 = .ok (.aload_n 0, 1) := by decide +kernel
theorem dX12_join_173 : decode cX12_join 173 = .ok (.iload_n 3, 1) := by decide +kernel
theorem dX12_join_174 : decode cX12_join 174 = .ok (.ifCond .ne 8, 3) := by decide +kernel
theorem dX12_join_177 : decode cX12_join 177 = .ok (.iload 4, 2) := by decide +kernel
theorem dX12_join_179 : decode cX12_join 179 = .ok (.goto 7, 3) := by decide +kernel
theorem dX12_join_182 : decode cX12_join 182 = .ok (.aload_n 0, 1) := by decide +kernel
theorem dX12_join_183 : decode cX12_join 183 = .ok (.getfield 163, 3) := by decide +kernel
theorem dX12_join_186 : decode cX12_join 186 = .ok (.putfield 163, 3) := by decide +kernel
theorem dX12_join_189 : decode cX12_join 189 = .ok (.aload_n 0, 1) := by decide +kernel
theorem dX12_join_190 : decode cX12_join 190 = .ok (.iload_n 3, 1) := by decide +kernel
theorem dX12_join_191 : decode cX12_join 191 = .ok (.iconst 1, 1) := by decide +kernel
theorem dX12_join_192 : decode cX12_join 192 = .ok (.if_icmp .ne 8, 3) := by decide +kernel
theorem dX12_join_195 : decode cX12_join 195 = .ok (.iload 4, 2) := by decide +kernel
theorem dX12_join_197 : decode cX12_join 197 = .ok (.goto 7, 3) := by decide +kernel
theorem dX12_join_200 : decode cX12_join 200 = .ok (.aload_n 0, 1) := by decide +kernel
theorem dX12_join_201 : decode cX12_join 201 = .ok (.getfield 166, 3) := by decide +kernel
theorem dX12_join_204 : decode cX12_join 204 = .ok (.putfield 166, 3) := by decide +kernel
theorem dX12_join_207 : decode cX12_join 207 = .ok (.iinc 3 1, 3) := by decide +kernel
theorem dX12_join_210 : decode cX12_join 210 = .ok (.goto (-198), 3) := by decide +kernel
theorem dX12_join_213 : decode cX12_join 213 = .ok (.return_, 1) := by decide +kernel
theorem dX12_joined_0 : decode cX12_joined 0 = .ok (.aload_n 0, 1) := by decide +kernel
theorem dX12_joined_1 : decode cX12_joined 1 = .ok (.iconst 0, 1) := by decide +kernel
theorem dX12_joined_2 : decode cX12_joined 2 = .ok (.putfield 59, 3) := by decide +kernel
theorem dX12_joined_5 : decode cX12_joined 5 = .ok (.iload_n 1, 1) := by decide +kernel
theorem dX12_joined_6 : decode cX12_joined 6 = .ok (.invokestatic 140, 3) := by decide +kernel
theorem dX12_joined_9 : decode cX12_joined 9 = .ok (.ifCond .eq 22, 3) := by decide +kernel
theorem dX12_joined_12 : decode cX12_joined 12 = .ok (.iload_n 2, 1) := by decide +kernel
theorem dX12_joined_13 : decode cX12_joined 13 = .ok (.invokestatic 140, 3) := by decide +kernel
theorem dX12_joined_16 : decode cX12_joined 16 = .ok (.ifCond .eq 15, 3) := by decide +kernel
theorem dX12_joined_19 : decode cX12_joined 19 = .ok (.iload_n 3, 1) := by decide +kernel
theorem dX12_joined_20 : decode cX12_joined 20 = .ok (.i2l, 1) := by decide +kernel
theorem dX12_joined_21 : decode cX12_joined 21 = .ok (.lconst 0, 1) := by decide +kernel
theorem dX12_joined_22 : decode cX12_joined 22 = .ok (.ldc2_w 169, 3) := by decide +kernel
theorem dX12_joined_25 : decode cX12_joined 25 = .ok (.invokestatic 69, 3) := by decide +kernel
theorem dX12_joined_28 : decode cX12_joined 28 = .ok (.ifCond .ne 6, 3) := by decide +kernel
theorem dX12_joined_31 : decode cX12_joined 31 = .ok (.ldc 79, 2) := by decide +kernel
theorem dX12_joined_33 : decode cX12_joined 33 = .ok (.ireturn, 1) := by decide +kernel
theorem dX12_joined_34 : decode cX12_joined 34 = .ok (.aload_n 0, 1) := by decide +kernel
theorem dX12_joined_35 : decode cX12_joined 35 = .ok (.iload_n 1, 1) := by decide +kernel
theorem dX12_joined_36 : decode cX12_joined 36 = .ok (.iload_n 2, 1) := by decide +kernel
theorem dX12_joined_37 : decode cX12_joined 37 = .ok (.invokevirtual 171, 3) := by decide +kernel
theorem dX12_joined_40 : decode cX12_joined 40 = .ok (.iload_n 3, 1) := by decide +kernel
theorem dX12_joined_41 : decode cX12_joined 41 = .ok (.ifCond .ne 10, 3) := by decide +kernel
theorem dX12_joined_44 : decode cX12_joined 44 = .ok (.aload_n 0, 1) := by decide +kernel
theorem dX12_joined_45 : decode cX12_joined 45 = .ok (.getfield 150, 3) := by decide +kernel
theorem dX12_joined_48 : decode cX12_joined 48 = .ok (.goto 43, 3) := by decide +kernel
theorem dX12_joined_51 : decode cX12_joined 51 = .ok (.aload_n 0, 1) := by decide +kernel
theorem dX12_joined_52 : decode cX12_joined 52 = .ok (.getfield 150, 3) := by decide +kernel
theorem dX12_joined_55 : decode cX12_joined 55 = .ok (.ifCond .ne 8, 3) := by decide +kernel
theorem dX12_joined_58 : decode cX12_joined 58 = .ok (.ldc 149, 2) := by decide +kernel
theorem dX12_joined_60 : decode cX12_joined 60 = .ok (.goto 31, 3) := by decide +kernel
theorem dX12_joined_63 : decode cX12_joined 63 = .ok (.iload_n 3, 1) := by decide +kernel
theorem dX12_joined_64 : decode cX12_joined 64 = .ok (.iconst 1, 1) := by decide +kernel
theorem dX12_joined_65 : decode cX12_joined 65 = .ok (.if_icmp .ne 10, 3) := by decide +kernel
theorem dX12_joined_68 : decode cX12_joined 68 = .ok (.aload_n 0, 1) := by decide +kernel
theorem dX12_joined_69 : decode cX12_joined 69 = .ok (.getfield 163, 3) := by decide +kernel
theorem dX12_joined_72 : decode cX12_joined 72 = .ok (.goto 19, 3) := by decide +kernel
theorem dX12_joined_75 : decode cX12_joined 75 = .ok (.iload_n 3, 1) := by decide +kernel
theorem dX12_joined_76 : decode cX12_joined 76 = .ok (.iconst 2, 1) := by decide +kernel
theorem dX12_joined_77 : decode cX12_joined 77 = .ok (.if_icmp .ne 10, 3) := by decide +kernel
theorem dX12_joined_80 : decode cX12_joined 80 = .ok (.aload_n 0, 1) := by decide +kernel
theorem dX12_joined_81 : decode cX12_joined 81 = .ok (.getfield 166, 3) := by decide +kernel
theorem dX12_joined_84 : decode cX12_joined 84 = .ok (.goto 7, 3) := by decide +kernel
theorem dX12_joined_87 : decode cX12_joined 87 = .ok (.aload_n 0, 1) := by decide +kernel
theorem dX12_joined_88 : decode cX12_joined 88 = .ok (.getfield 153, 3) := by decide +kernel
theorem dX12_joined_91 : decode cX12_joined 91 = .ok (.ireturn, 1) := by decide +kernel
theorem dX12_goRound_0 : decode cX12_goRound 0 = .ok (.aload_n 0, 1) := by decide +kernel
theorem dX12_goRound_1 : decode cX12_goRound 1 = .ok (.iconst 0, 1) := by decide +kernel
end
section
theorem dX12_goRound_2 : decode cX12_goRound 2 = .ok (.putfield 175, 3) := by decide +kernel
theorem dX12_goRound_5 : decode cX12_goRound 5 = .ok (.aload_n 0, 1) := by decide +kernel
theorem dX12_goRound_6 : decode cX12_goRound 6 = .ok (.getfield 47, 3) := by decide +kernel
theorem dX12_goRound_9 : decode cX12_goRound 9 = .ok (.iconst 0, 1) := by decide +kernel
theorem dX12_goRound_10 : decode cX12_goRound 10 = .ok (.iconst 0, 1) := by decide +kernel
theorem dX12_goRound_11 : decode cX12_goRound 11 = .ok (.iastore, 1) := by decide +kernel
theorem dX12_goRound_12 : decode cX12_goRound 12 = .ok (.aload_n 0, 1) := by decide +kernel
theorem dX12_goRound_13 : decode cX12_goRound 13 = .ok (.getfield 50, 3) := by decide +kernel
theorem dX12_goRound_16 : decode cX12_goRound 16 = .ok (.iconst 0, 1) := by decide +kernel
theorem dX12_goRound_17 : decode cX12_goRound 17 = .ok (.iconst 0, 1) := by decide +kernel
theorem dX12_goRound_18 : decode cX12_goRound 18 = .ok (.iastore, 1) := by decide +kernel
theorem dX12_goRound_19 : decode cX12_goRound 19 = .ok (.iconst 0, 1) := by decide +kernel
theorem dX12_goRound_20 : decode cX12_goRound 20 = .ok (.istore_n 2, 1) := by decide +kernel
theorem dX12_goRound_21 : decode cX12_goRound 21 = .ok (.iload_n 2, 1) := by decide +kernel
theorem dX12_goRound_22 : decode cX12_goRound 22 = .ok (.iload_n 1, 1) := by decide +kernel
theorem dX12_goRound_23 : decode cX12_goRound 23 = .ok (.if_icmp .ge 79, 3) := by decide +kernel
theorem dX12_goRound_26 : decode cX12_goRound 26 = .ok (.aload_n 0, 1) := by decide +kernel
theorem dX12_goRound_27 : decode cX12_goRound 27 = .ok (.iload_n 2, 1) := by decide +kernel
theorem dX12_goRound_28 : decode cX12_goRound 28 = .ok (.iload_n 2, 1) := by decide +kernel
theorem dX12_goRound_29 : decode cX12_goRound 29 = .ok (.iconst 1, 1) := by decide +kernel
theorem dX12_goRound_30 : decode cX12_goRound 30 = .ok (.iadd, 1) := by decide +kernel
theorem dX12_goRound_31 : decode cX12_goRound 31 = .ok (.iload_n 1, 1) := by decide +kernel
theorem dX12_goRound_32 : decode cX12_goRound 32 = .ok (.irem, 1) := by decide +kernel
theorem dX12_goRound_33 : decode cX12_goRound 33 = .ok (.invokevirtual 171, 3) := by decide +kernel
theorem dX12_goRound_36 : decode cX12_goRound 36 = .ok (.aload_n 0, 1) := by decide +kernel
theorem dX12_goRound_37 : decode cX12_goRound 37 = .ok (.getfield 150, 3) := by decide +kernel
theorem dX12_goRound_40 : decode cX12_goRound 40 = .ok (.ifCond .ne 5, 3) := by decide +kernel
theorem dX12_goRound_43 : decode cX12_goRound 43 = .ok (.iconst 0, 1) := by decide +kernel
theorem dX12_goRound_44 : decode cX12_goRound 44 = .ok (.ireturn, 1) := by decide +kernel
theorem dX12_goRound_45 : decode cX12_goRound 45 = .ok (.aload_n 0, 1) := by decide +kernel
theorem dX12_goRound_46 : decode cX12_goRound 46 = .ok (.dup, 1) := by decide +kernel
theorem dX12_goRound_47 : decode cX12_goRound 47 = .ok (.getfield 175, 3) := by decide +kernel
theorem dX12_goRound_50 : decode cX12_goRound 50 = .ok (.aload_n 0, 1) := by decide +kernel
theorem dX12_goRound_51 : decode cX12_goRound 51 = .ok (.getfield 153, 3) := by decide +kernel
theorem dX12_goRound_54 : decode cX12_goRound 54 = .ok (.iadd, 1) := by decide +kernel
theorem dX12_goRound_55 : decode cX12_goRound 55 = .ok (.putfield 175, 3) := by decide +kernel
theorem dX12_goRound_58 : decode cX12_goRound 58 = .ok (.aload_n 0, 1) := by decide +kernel
theorem dX12_goRound_59 : decode cX12_goRound 59 = .ok (.getfield 47, 3) := by decide +kernel
theorem dX12_goRound_62 : decode cX12_goRound 62 = .ok (.iload_n 2, 1) := by decide +kernel
theorem dX12_goRound_63 : decode cX12_goRound 63 = .ok (.iconst 1, 1) := by decide +kernel
theorem dX12_goRound_64 : decode cX12_goRound 64 = .ok (.iadd, 1) := by decide +kernel
theorem dX12_goRound_65 : decode cX12_goRound 65 = .ok (.aload_n 0, 1) := by decide +kernel
theorem dX12_goRound_66 : decode cX12_goRound 66 = .ok (.getfield 47, 3) := by decide +kernel
theorem dX12_goRound_69 : decode cX12_goRound 69 = .ok (.iload_n 2, 1) := by decide +kernel
theorem dX12_goRound_70 : decode cX12_goRound 70 = .ok (.iaload, 1) := by decide +kernel
theorem dX12_goRound_71 : decode cX12_goRound 71 = .ok (.aload_n 0, 1) := by decide +kernel
theorem dX12_goRound_72 : decode cX12_goRound 72 = .ok (.getfield 163, 3) := by decide +kernel
theorem dX12_goRound_75 : decode cX12_goRound 75 = .ok (.iadd, 1) := by decide +kernel
theorem dX12_goRound_76 : decode cX12_goRound 76 = .ok (.iastore, 1) := by decide +kernel
theorem dX12_goRound_77 : decode cX12_goRound 77 = .ok (.aload_n 0, 1) := by decide +kernel
theorem dX12_goRound_78 : decode cX12_goRound 78 = .ok (.getfield 50, 3) := by decide +kernel
theorem dX12_goRound_81 : decode cX12_goRound 81 = .ok (.iload_n 2, 1) := by decide +kernel
theorem dX12_goRound_82 : decode cX12_goRound 82 = .ok (.iconst 1, 1) := by decide +kernel
theorem dX12_goRound_83 : decode cX12_goRound 83 = .ok (.iadd, 1) := by decide +kernel
theorem dX12_goRound_84 : decode cX12_goRound 84 = .ok (.aload_n 0, 1) := by decide +kernel
theorem dX12_goRound_85 : decode cX12_goRound 85 = .ok (.getfield 50, 3) := by decide +kernel
theorem dX12_goRound_88 : decode cX12_goRound 88 = .ok (.iload_n 2, 1) := by decide +kernel
theorem dX12_goRound_89 : decode cX12_goRound 89 = .ok (.iaload, 1) := by decide +kernel
theorem dX12_goRound_90 : decode cX12_goRound 90 = .ok (.aload_n 0, 1) := by decide +kernel
theorem dX12_goRound_91 : decode cX12_goRound 91 = .ok (.getfield 166, 3) := by decide +kernel
theorem dX12_goRound_94 : decode cX12_goRound 94 = .ok (.iadd, 1) := by decide +kernel
theorem dX12_goRound_95 : decode cX12_goRound 95 = .ok (.iastore, 1) := by decide +kernel
theorem dX12_goRound_96 : decode cX12_goRound 96 = .ok (.iinc 2 1, 3) := by decide +kernel
theorem dX12_goRound_99 : decode cX12_goRound 99 = .ok (.goto (-78), 3) := by decide +kernel
theorem dX12_goRound_102 : decode cX12_goRound 102 = .ok (.iconst 1, 1) := by decide +kernel
theorem dX12_goRound_103 : decode cX12_goRound 103 = .ok (.ireturn, 1) := by decide +kernel
theorem dX12_round_0 : decode cX12_round 0 = .ok (.aload_n 0, 1) := by decide +kernel
theorem dX12_round_1 : decode cX12_round 1 = .ok (.iconst 0, 1) := by decide +kernel
theorem dX12_round_2 : decode cX12_round 2 = .ok (.putfield 59, 3) := by decide +kernel
theorem dX12_round_5 : decode cX12_round 5 = .ok (.iload_n 1, 1) := by decide +kernel
theorem dX12_round_6 : decode cX12_round 6 = .ok (.i2l, 1) := by decide +kernel
theorem dX12_round_7 : decode cX12_round 7 = .ok (.ldc2_w 77, 3) := by decide +kernel
theorem dX12_round_10 : decode cX12_round 10 = .ok (.ldc2_w 88, 3) := by decide +kernel
theorem dX12_round_13 : decode cX12_round 13 = .ok (.invokestatic 69, 3) := by decide +kernel
theorem dX12_round_16 : decode cX12_round 16 = .ok (.ifCond .eq 15, 3) := by decide +kernel
theorem dX12_round_19 : decode cX12_round 19 = .ok (.iload_n 2, 1) := by decide +kernel
theorem dX12_round_20 : decode cX12_round 20 = .ok (.i2l, 1) := by decide +kernel
theorem dX12_round_21 : decode cX12_round 21 = .ok (.lconst 0, 1) := by decide +kernel
theorem dX12_round_22 : decode cX12_round 22 = .ok (.ldc2_w 77, 3) := by decide +kernel
theorem dX12_round_25 : decode cX12_round 25 = .ok (.invokestatic 69, 3) := by decide +kernel
theorem dX12_round_28 : decode cX12_round 28 = .ok (.ifCond .ne 6, 3) := by decide +kernel
theorem dX12_round_31 : decode cX12_round 31 = .ok (.ldc 79, 2) := by decide +kernel
theorem dX12_round_33 : decode cX12_round 33 = .ok (.ireturn, 1) := by decide +kernel
theorem dX12_round_34 : decode cX12_round 34 = .ok (.aload_n 0, 1) := by decide +kernel
theorem dX12_round_35 : decode cX12_round 35 = .ok (.iload_n 1, 1) := by decide +kernel
theorem dX12_round_36 : decode cX12_round 36 = .ok (.invokevirtual 178, 3) := by decide +kernel
theorem dX12_round_39 : decode cX12_round 39 = .ok (.ifCond .ne 8, 3) := by decide +kernel
theorem dX12_round_42 : decode cX12_round 42 = .ok (.ldc 149, 2) := by decide +kernel
theorem dX12_round_44 : decode cX12_round 44 = .ok (.goto 34, 3) := by decide +kernel
theorem dX12_round_47 : decode cX12_round 47 = .ok (.iload_n 2, 1) := by decide +kernel
theorem dX12_round_48 : decode cX12_round 48 = .ok (.ifCond .ne 12, 3) := by decide +kernel
theorem dX12_round_51 : decode cX12_round 51 = .ok (.aload_n 0, 1) := by decide +kernel
theorem dX12_round_52 : decode cX12_round 52 = .ok (.getfield 47, 3) := by decide +kernel
theorem dX12_round_55 : decode cX12_round 55 = .ok (.iload_n 1, 1) := by decide +kernel
theorem dX12_round_56 : decode cX12_round 56 = .ok (.iaload, 1) := by decide +kernel
theorem dX12_round_57 : decode cX12_round 57 = .ok (.goto 21, 3) := by decide +kernel
theorem dX12_round_60 : decode cX12_round 60 = .ok (.iload_n 2, 1) := by decide +kernel
theorem dX12_round_61 : decode cX12_round 61 = .ok (.iconst 1, 1) := by decide +kernel
theorem dX12_round_62 : decode cX12_round 62 = .ok (.if_icmp .ne 12, 3) := by decide +kernel
theorem dX12_round_65 : decode cX12_round 65 = .ok (.aload_n 0, 1) := by decide +kernel
theorem dX12_round_66 : decode cX12_round 66 = .ok (.getfield 50, 3) := by decide +kernel
theorem dX12_round_69 : decode cX12_round 69 = .ok (.iload_n 1, 1) := by decide +kernel
theorem dX12_round_70 : decode cX12_round 70 = .ok (.iaload, 1) := by decide +kernel
theorem dX12_round_71 : decode cX12_round 71 = .ok (.goto 7, 3) := by decide +kernel
theorem dX12_round_74 : decode cX12_round 74 = .ok (.aload_n 0, 1) := by decide +kernel
theorem dX12_round_75 : decode cX12_round 75 = .ok (.getfield 175, 3) := by decide +kernel
theorem dX12_round_78 : decode cX12_round 78 = .ok (.ireturn, 1) := by decide +kernel
theorem dX12_around_0 : decode cX12_around 0 = .ok (.aload_n 0, 1) := by decide +kernel
theorem dX12_around_1 : decode cX12_around 1 = .ok (.iconst 0, 1) := by decide +kernel
theorem dX12_around_2 : decode cX12_around 2 = .ok (.putfield 59, 3) := by decide +kernel
theorem dX12_around_5 : decode cX12_around 5 = .ok (.iload_n 1, 1) := by decide +kernel
theorem dX12_around_6 : decode cX12_around 6 = .ok (.i2l, 1) := by decide +kernel
theorem dX12_around_7 : decode cX12_around 7 = .ok (.ldc2_w 77, 3) := by decide +kernel
theorem dX12_around_10 : decode cX12_around 10 = .ok (.ldc2_w 88, 3) := by decide +kernel
theorem dX12_around_13 : decode cX12_around 13 = .ok (.invokestatic 69, 3) := by decide +kernel
theorem dX12_around_16 : decode cX12_around 16 = .ok (.ifCond .eq 20, 3) := by decide +kernel
theorem dX12_around_19 : decode cX12_around 19 = .ok (.iload_n 2, 1) := by decide +kernel
theorem dX12_around_20 : decode cX12_around 20 = .ok (.invokestatic 143, 3) := by decide +kernel
theorem dX12_around_23 : decode cX12_around 23 = .ok (.ifCond .eq 13, 3) := by decide +kernel
theorem dX12_around_26 : decode cX12_around 26 = .ok (.iload_n 3, 1) := by decide +kernel
theorem dX12_around_27 : decode cX12_around 27 = .ok (.i2l, 1) := by decide +kernel
theorem dX12_around_28 : decode cX12_around 28 = .ok (.lconst 0, 1) := by decide +kernel
theorem dX12_around_29 : decode cX12_around 29 = .ok (.lconst 1, 1) := by decide +kernel
theorem dX12_around_30 : decode cX12_around 30 = .ok (.invokestatic 69, 3) := by decide +kernel
theorem dX12_around_33 : decode cX12_around 33 = .ok (.ifCond .ne 6, 3) := by decide +kernel
theorem dX12_around_36 : decode cX12_around 36 = .ok (.ldc 79, 2) := by decide +kernel
theorem dX12_around_38 : decode cX12_around 38 = .ok (.ireturn, 1) := by decide +kernel
theorem dX12_around_39 : decode cX12_around 39 = .ok (.aload_n 0, 1) := by decide +kernel
theorem dX12_around_40 : decode cX12_around 40 = .ok (.iload_n 1, 1) := by decide +kernel
theorem dX12_around_41 : decode cX12_around 41 = .ok (.invokevirtual 178, 3) := by decide +kernel
theorem dX12_around_44 : decode cX12_around 44 = .ok (.ifCond .ne 6, 3) := by decide +kernel
theorem dX12_around_47 : decode cX12_around 47 = .ok (.ldc 149, 2) := by decide +kernel
theorem dX12_around_49 : decode cX12_around 49 = .ok (.ireturn, 1) := by decide +kernel
theorem dX12_around_50 : decode cX12_around 50 = .ok (.iconst 0, 1) := by decide +kernel
theorem dX12_around_51 : decode cX12_around 51 = .ok (.istore 4, 2) := by decide +kernel
theorem dX12_around_53 : decode cX12_around 53 = .ok (.iconst 0, 1) := by decide +kernel
theorem dX12_around_54 : decode cX12_around 54 = .ok (.istore 5, 2) := by decide +kernel
theorem dX12_around_56 : decode cX12_around 56 = .ok (.iconst 0, 1) := by decide +kernel
theorem dX12_around_57 : decode cX12_around 57 = .ok (.istore 6, 2) := by decide +kernel
theorem dX12_around_59 : decode cX12_around 59 = .ok (.iload 6, 2) := by decide +kernel
theorem dX12_around_61 : decode cX12_around 61 = .ok (.iload_n 1, 1) := by decide +kernel
theorem dX12_around_62 : decode cX12_around 62 = .ok (.if_icmp .ge 97, 3) := by decide +kernel
theorem dX12_around_65 : decode cX12_around 65 = .ok (.bipush 24, 2) := by decide +kernel
theorem dX12_around_67 : decode cX12_around 67 = .ok (.iload 6, 2) := by decide +kernel
theorem dX12_around_69 : decode cX12_around 69 = .ok (.imul, 1) := by decide +kernel
theorem dX12_around_70 : decode cX12_around 70 = .ok (.iload_n 2, 1) := by decide +kernel
theorem dX12_around_71 : decode cX12_around 71 = .ok (.iadd, 1) := by decide +kernel
theorem dX12_around_72 : decode cX12_around 72 = .ok (.istore 7, 2) := by decide +kernel
theorem dX12_around_74 : decode cX12_around 74 = .ok (.aload_n 0, 1) := by decide +kernel
theorem dX12_around_75 : decode cX12_around 75 = .ok (.getfield 34, 3) := by decide +kernel
theorem dX12_around_78 : decode cX12_around 78 = .ok (.iload 7, 2) := by decide +kernel
theorem dX12_around_80 : decode cX12_around 80 = .ok (.baload, 1) := by decide +kernel
theorem dX12_around_81 : decode cX12_around 81 = .ok (.ifCond .eq 72, 3) := by decide +kernel
theorem dX12_around_84 : decode cX12_around 84 = .ok (.iinc 4 1, 3) := by decide +kernel
theorem dX12_around_87 : decode cX12_around 87 = .ok (.iload 5, 2) := by decide +kernel
theorem dX12_around_89 : decode cX12_around 89 = .ok (.iload_n 3, 1) := by decide +kernel
theorem dX12_around_90 : decode cX12_around 90 = .ok (.ifCond .ne 33, 3) := by decide +kernel
theorem dX12_around_93 : decode cX12_around 93 = .ok (.aload_n 0, 1) := by decide +kernel
theorem dX12_around_94 : decode cX12_around 94 = .ok (.getfield 38, 3) := by decide +kernel
theorem dX12_around_97 : decode cX12_around 97 = .ok (.iload 7, 2) := by decide +kernel
theorem dX12_around_99 : decode cX12_around 99 = .ok (.iaload, 1) := by decide +kernel
theorem dX12_around_100 : decode cX12_around 100 = .ok (.aload_n 0, 1) := by decide +kernel
theorem dX12_around_101 : decode cX12_around 101 = .ok (.getfield 47, 3) := by decide +kernel
theorem dX12_around_104 : decode cX12_around 104 = .ok (.iload 6, 2) := by decide +kernel
theorem dX12_around_106 : decode cX12_around 106 = .ok (.iaload, 1) := by decide +kernel
theorem dX12_around_107 : decode cX12_around 107 = .ok (.iadd, 1) := by decide +kernel
theorem dX12_around_108 : decode cX12_around 108 = .ok (.aload_n 0, 1) := by decide +kernel
theorem dX12_around_109 : decode cX12_around 109 = .ok (.getfield 47, 3) := by decide +kernel
theorem dX12_around_112 : decode cX12_around 112 = .ok (.iload_n 1, 1) := by decide +kernel
theorem dX12_around_113 : decode cX12_around 113 = .ok (.iaload, 1) := by decide +kernel
theorem dX12_around_114 : decode cX12_around 114 = .ok (.iload 6, 2) := by decide +kernel
theorem dX12_around_116 : decode cX12_around 116 = .ok (.imul, 1) := by decide +kernel
theorem dX12_around_117 : decode cX12_around 117 = .ok (.iload_n 1, 1) := by decide +kernel
theorem dX12_around_118 : decode cX12_around 118 = .ok (.idiv, 1) := by decide +kernel
theorem dX12_around_119 : decode cX12_around 119 = .ok (.isub, 1) := by decide +kernel
theorem dX12_around_120 : decode cX12_around 120 = .ok (.goto 30, 3) := by decide +kernel
theorem dX12_around_123 : decode cX12_around 123 = .ok (.aload_n 0, 1) := by decide +kernel
theorem dX12_around_124 : decode cX12_around 124 = .ok (.getfield 41, 3) := by decide +kernel
theorem dX12_around_127 : decode cX12_around 127 = .ok (.iload 7, 2) := by decide +kernel
theorem dX12_around_129 : decode cX12_around 129 = .ok (.iaload, 1) := by decide +kernel
theorem dX12_around_130 : decode cX12_around 130 = .ok (.aload_n 0, 1) := by decide +kernel
theorem dX12_around_131 : decode cX12_around 131 = .ok (.getfield 50, 3) := by decide +kernel
theorem dX12_around_134 : decode cX12_around 134 = .ok (.iload 6, 2) := by decide +kernel
theorem dX12_around_136 : decode cX12_around 136 = .ok (.iaload, 1) := by decide +kernel
theorem dX12_around_137 : decode cX12_around 137 = .ok (.iadd, 1) := by decide +kernel
theorem dX12_around_138 : decode cX12_around 138 = .ok (.aload_n 0, 1) := by decide +kernel
theorem dX12_around_139 : decode cX12_around 139 = .ok (.getfield 50, 3) := by decide +kernel
theorem dX12_around_142 : decode cX12_around 142 = .ok (.iload_n 1, 1) := by decide +kernel
theorem dX12_around_143 : decode cX12_around 143 = .ok (.iaload, 1) := by decide +kernel
theorem dX12_around_144 : decode cX12_around 144 = .ok (.iload 6, 2) := by decide +kernel
theorem dX12_around_146 : decode cX12_around 146 = .ok (.imul, 1) := by decide +kernel
theorem dX12_around_147 : decode cX12_around 147 = .ok (.iload_n 1, 1) := by decide +kernel
theorem dX12_around_148 : decode cX12_around 148 = .ok (.idiv, 1) := by decide +kernel
theorem dX12_around_149 : decode cX12_around 149 = .ok (.isub, 1) := by decide +kernel
theorem dX12_around_150 : decode cX12_around 150 = .ok (.iadd, 1) := by decide +kernel
theorem dX12_around_151 : decode cX12_around 151 = .ok (.istore 5, 2) := by decide +kernel
theorem dX12_around_153 : decode cX12_around 153 = .ok (.iinc 6 1, 3) := by decide +kernel
theorem dX12_around_156 : decode cX12_around 156 = .ok (.goto (-97), 3) := by decide +kernel
theorem dX12_around_159 : decode cX12_around 159 = .ok (.iload 4, 2) := by decide +kernel
theorem dX12_around_161 : decode cX12_around 161 = .ok (.ifCond .ne 8, 3) := by decide +kernel
theorem dX12_around_164 : decode cX12_around 164 = .ok (.ldc 149, 2) := by decide +kernel
theorem dX12_around_166 : decode cX12_around 166 = .ok (.goto 8, 3) := by decide +kernel
theorem dX12_around_169 : decode cX12_around 169 = .ok (.iload 5, 2) := by decide +kernel
theorem dX12_around_171 : decode cX12_around 171 = .ok (.iload 4, 2) := by decide +kernel
theorem dX12_around_173 : decode cX12_around 173 = .ok (.idiv, 1) := by decide +kernel
theorem dX12_around_174 : decode cX12_around 174 = .ok (.ireturn, 1) := by decide +kernel
theorem dX12_stand_0 : decode cX12_stand 0 = .ok (.aload_n 0, 1) := by decide +kernel
theorem dX12_stand_1 : decode cX12_stand 1 = .ok (.iconst 0, 1) := by decide +kernel
theorem dX12_stand_2 : decode cX12_stand 2 = .ok (.putfield 59, 3) := by decide +kernel
theorem dX12_stand_5 : decode cX12_stand 5 = .ok (.iload_n 1, 1) := by decide +kernel
theorem dX12_stand_6 : decode cX12_stand 6 = .ok (.i2l, 1) := by decide +kernel
theorem dX12_stand_7 : decode cX12_stand 7 = .ok (.lconst 0, 1) := by decide +kernel
theorem dX12_stand_8 : decode cX12_stand 8 = .ok (.lconst 1, 1) := by decide +kernel
theorem dX12_stand_9 : decode cX12_stand 9 = .ok (.invokestatic 69, 3) := by decide +kernel
theorem dX12_stand_12 : decode cX12_stand 12 = .ok (.ifCond .eq 57, 3) := by decide +kernel
theorem dX12_stand_15 : decode cX12_stand 15 = .ok (.iload_n 2, 1) := by decide +kernel
theorem dX12_stand_16 : decode cX12_stand 16 = .ok (.i2l, 1) := by decide +kernel
theorem dX12_stand_17 : decode cX12_stand 17 = .ok (.ldc2_w 96, 3) := by decide +kernel
theorem dX12_stand_20 : decode cX12_stand 20 = .ok (.ldc2_w 98, 3) := by decide +kernel
theorem dX12_stand_23 : decode cX12_stand 23 = .ok (.invokestatic 69, 3) := by decide +kernel
theorem dX12_stand_26 : decode cX12_stand 26 = .ok (.ifCond .eq 43, 3) := by decide +kernel
theorem dX12_stand_29 : decode cX12_stand 29 = .ok (.iload_n 3, 1) := by decide +kernel
theorem dX12_stand_30 : decode cX12_stand 30 = .ok (.i2l, 1) := by decide +kernel
theorem dX12_stand_31 : decode cX12_stand 31 = .ok (.ldc2_w 96, 3) := by decide +kernel
theorem dX12_stand_34 : decode cX12_stand 34 = .ok (.ldc2_w 98, 3) := by decide +kernel
theorem dX12_stand_37 : decode cX12_stand 37 = .ok (.invokestatic 69, 3) := by decide +kernel
theorem dX12_stand_40 : decode cX12_stand 40 = .ok (.ifCond .eq 29, 3) := by decide +kernel
theorem dX12_stand_43 : decode cX12_stand 43 = .ok (.iload 4, 2) := by decide +kernel
theorem dX12_stand_45 : decode cX12_stand 45 = .ok (.i2l, 1) := by decide +kernel
theorem dX12_stand_46 : decode cX12_stand 46 = .ok (.lconst 0, 1) := by decide +kernel
theorem dX12_stand_47 : decode cX12_stand 47 = .ok (.ldc2_w 98, 3) := by decide +kernel
theorem dX12_stand_50 : decode cX12_stand 50 = .ok (.invokestatic 69, 3) := by decide +kernel
theorem dX12_stand_53 : decode cX12_stand 53 = .ok (.ifCond .eq 16, 3) := by decide +kernel
theorem dX12_stand_56 : decode cX12_stand 56 = .ok (.iload 5, 2) := by decide +kernel
theorem dX12_stand_58 : decode cX12_stand 58 = .ok (.i2l, 1) := by decide +kernel
theorem dX12_stand_59 : decode cX12_stand 59 = .ok (.lconst 1, 1) := by decide +kernel
theorem dX12_stand_60 : decode cX12_stand 60 = .ok (.ldc2_w 98, 3) := by decide +kernel
theorem dX12_stand_63 : decode cX12_stand 63 = .ok (.invokestatic 69, 3) := by decide +kernel
theorem dX12_stand_66 : decode cX12_stand 66 = .ok (.ifCond .ne 6, 3) := by decide +kernel
theorem dX12_stand_69 : decode cX12_stand 69 = .ok (.ldc 79, 2) := by decide +kernel
theorem dX12_stand_71 : decode cX12_stand 71 = .ok (.ireturn, 1) := by decide +kernel
theorem dX12_stand_72 : decode cX12_stand 72 = .ok (.aload_n 0, 1) := by decide +kernel
theorem dX12_stand_73 : decode cX12_stand 73 = .ok (.getfield 53, 3) := by decide +kernel
theorem dX12_stand_76 : decode cX12_stand 76 = .ok (.iconst 4, 1) := by decide +kernel
theorem dX12_stand_77 : decode cX12_stand 77 = .ok (.iload_n 1, 1) := by decide +kernel
theorem dX12_stand_78 : decode cX12_stand 78 = .ok (.imul, 1) := by decide +kernel
theorem dX12_stand_79 : decode cX12_stand 79 = .ok (.iload_n 2, 1) := by decide +kernel
theorem dX12_stand_80 : decode cX12_stand 80 = .ok (.iastore, 1) := by decide +kernel
theorem dX12_stand_81 : decode cX12_stand 81 = .ok (.aload_n 0, 1) := by decide +kernel
theorem dX12_stand_82 : decode cX12_stand 82 = .ok (.getfield 53, 3) := by decide +kernel
theorem dX12_stand_85 : decode cX12_stand 85 = .ok (.iconst 4, 1) := by decide +kernel
theorem dX12_stand_86 : decode cX12_stand 86 = .ok (.iload_n 1, 1) := by decide +kernel
theorem dX12_stand_87 : decode cX12_stand 87 = .ok (.imul, 1) := by decide +kernel
theorem dX12_stand_88 : decode cX12_stand 88 = .ok (.iconst 1, 1) := by decide +kernel
theorem dX12_stand_89 : decode cX12_stand 89 = .ok (.iadd, 1) := by decide +kernel
theorem dX12_stand_90 : decode cX12_stand 90 = .ok (.iload_n 3, 1) := by decide +kernel
theorem dX12_stand_91 : decode cX12_stand 91 = .ok (.iastore, 1) := by decide +kernel
theorem dX12_stand_92 : decode cX12_stand 92 = .ok (.aload_n 0, 1) := by decide +kernel
theorem dX12_stand_93 : decode cX12_stand 93 = .ok (.getfield 53, 3) := by decide +kernel
theorem dX12_stand_96 : decode cX12_stand 96 = .ok (.iconst 4, 1) := by decide +kernel
theorem dX12_stand_97 : decode cX12_stand 97 = .ok (.iload_n 1, 1) := by decide +kernel
theorem dX12_stand_98 : decode cX12_stand 98 = .ok (.imul, 1) := by decide +kernel
theorem dX12_stand_99 : decode cX12_stand 99 = .ok (.iconst 2, 1) := by decide +kernel
theorem dX12_stand_100 : decode cX12_stand 100 = .ok (.iadd, 1) := by decide +kernel
theorem dX12_stand_101 : decode cX12_stand 101 = .ok (.iload 4, 2) := by decide +kernel
theorem dX12_stand_103 : decode cX12_stand 103 = .ok (.iastore, 1) := by decide +kernel
theorem dX12_stand_104 : decode cX12_stand 104 = .ok (.aload_n 0, 1) := by decide +kernel
theorem dX12_stand_105 : decode cX12_stand 105 = .ok (.getfield 53, 3) := by decide +kernel
theorem dX12_stand_108 : decode cX12_stand 108 = .ok (.iconst 4, 1) := by decide +kernel
theorem dX12_stand_109 : decode cX12_stand 109 = .ok (.iload_n 1, 1) := by decide +kernel
theorem dX12_stand_110 : decode cX12_stand 110 = .ok (.imul, 1) := by decide +kernel
theorem dX12_stand_111 : decode cX12_stand 111 = .ok (.iconst 3, 1) := by decide +kernel
theorem dX12_stand_112 : decode cX12_stand 112 = .ok (.iadd, 1) := by decide +kernel
theorem dX12_stand_113 : decode cX12_stand 113 = .ok (.iload 5, 2) := by decide +kernel
theorem dX12_stand_115 : decode cX12_stand 115 = .ok (.iastore, 1) := by decide +kernel
theorem dX12_stand_116 : decode cX12_stand 116 = .ok (.iconst 1, 1) := by decide +kernel
theorem dX12_stand_117 : decode cX12_stand 117 = .ok (.ireturn, 1) := by decide +kernel
theorem dX12_see_0 : decode cX12_see 0 = .ok (.aload_n 0, 1) := by decide +kernel
theorem dX12_see_1 : decode cX12_see 1 = .ok (.getfield 53, 3) := by decide +kernel
theorem dX12_see_4 : decode cX12_see 4 = .ok (.iconst 3, 1) := by decide +kernel
theorem dX12_see_5 : decode cX12_see 5 = .ok (.iaload, 1) := by decide +kernel
theorem dX12_see_6 : decode cX12_see 6 = .ok (.i2l, 1) := by decide +kernel
theorem dX12_see_7 : decode cX12_see 7 = .ok (.lstore_n 3, 1) := by decide +kernel
theorem dX12_see_8 : decode cX12_see 8 = .ok (.aload_n 0, 1) := by decide +kernel
theorem dX12_see_9 : decode cX12_see 9 = .ok (.getfield 53, 3) := by decide +kernel
theorem dX12_see_12 : decode cX12_see 12 = .ok (.bipush 7, 2) := by decide +kernel
theorem dX12_see_14 : decode cX12_see 14 = .ok (.iaload, 1) := by decide +kernel
theorem dX12_see_15 : decode cX12_see 15 = .ok (.i2l, 1) := by decide +kernel
theorem dX12_see_16 : decode cX12_see 16 = .ok (.lstore 5, 2) := by decide +kernel
theorem dX12_see_18 : decode cX12_see 18 = .ok (.aload_n 0, 1) := by decide +kernel
theorem dX12_see_19 : decode cX12_see 19 = .ok (.iload_n 2, 1) := by decide +kernel
theorem dX12_see_20 : decode cX12_see 20 = .ok (.i2l, 1) := by decide +kernel
theorem dX12_see_21 : decode cX12_see 21 = .ok (.lload_n 3, 1) := by decide +kernel
theorem dX12_see_22 : decode cX12_see 22 = .ok (.lmul, 1) := by decide +kernel
theorem dX12_see_23 : decode cX12_see 23 = .ok (.iload_n 1, 1) := by decide +kernel
theorem dX12_see_24 : decode cX12_see 24 = .ok (.i2l, 1) := by decide +kernel
theorem dX12_see_25 : decode cX12_see 25 = .ok (.lload 5, 2) := by decide +kernel
theorem dX12_see_27 : decode cX12_see 27 = .ok (.lmul, 1) := by decide +kernel
theorem dX12_see_28 : decode cX12_see 28 = .ok (.lsub, 1) := by decide +kernel
theorem dX12_see_29 : decode cX12_see 29 = .ok (.putfield 181, 3) := by decide +kernel
theorem dX12_see_32 : decode cX12_see 32 = .ok (.aload_n 0, 1) := by decide +kernel
theorem dX12_see_33 : decode cX12_see 33 = .ok (.aload_n 0, 1) := by decide +kernel
theorem dX12_see_34 : decode cX12_see 34 = .ok (.getfield 53, 3) := by decide +kernel
theorem dX12_see_37 : decode cX12_see 37 = .ok (.iconst 4, 1) := by decide +kernel
theorem dX12_see_38 : decode cX12_see 38 = .ok (.iaload, 1) := by decide +kernel
theorem dX12_see_39 : decode cX12_see 39 = .ok (.aload_n 0, 1) := by decide +kernel
theorem dX12_see_40 : decode cX12_see 40 = .ok (.getfield 53, 3) := by decide +kernel
theorem dX12_see_43 : decode cX12_see 43 = .ok (.iconst 0, 1) := by decide +kernel
theorem dX12_see_44 : decode cX12_see 44 = .ok (.iaload, 1) := by decide +kernel
theorem dX12_see_45 : decode cX12_see 45 = .ok (.isub, 1) := by decide +kernel
theorem dX12_see_46 : decode cX12_see 46 = .ok (.i2l, 1) := by decide +kernel
theorem dX12_see_47 : decode cX12_see 47 = .ok (.lload_n 3, 1) := by decide +kernel
theorem dX12_see_48 : decode cX12_see 48 = .ok (.lmul, 1) := by decide +kernel
theorem dX12_see_49 : decode cX12_see 49 = .ok (.lload 5, 2) := by decide +kernel
theorem dX12_see_51 : decode cX12_see 51 = .ok (.lmul, 1) := by decide +kernel
theorem dX12_see_52 : decode cX12_see 52 = .ok (.iload_n 1, 1) := by decide +kernel
theorem dX12_see_53 : decode cX12_see 53 = .ok (.aload_n 0, 1) := by decide +kernel
theorem dX12_see_54 : decode cX12_see 54 = .ok (.getfield 53, 3) := by decide +kernel
theorem dX12_see_57 : decode cX12_see 57 = .ok (.iconst 2, 1) := by decide +kernel
theorem dX12_see_58 : decode cX12_see 58 = .ok (.iaload, 1) := by decide +kernel
theorem dX12_see_59 : decode cX12_see 59 = .ok (.imul, 1) := by decide +kernel
theorem dX12_see_60 : decode cX12_see 60 = .ok (.i2l, 1) := by decide +kernel
theorem dX12_see_61 : decode cX12_see 61 = .ok (.lload 5, 2) := by decide +kernel
theorem dX12_see_63 : decode cX12_see 63 = .ok (.lmul, 1) := by decide +kernel
theorem dX12_see_64 : decode cX12_see 64 = .ok (.lsub, 1) := by decide +kernel
theorem dX12_see_65 : decode cX12_see 65 = .ok (.iload_n 2, 1) := by decide +kernel
theorem dX12_see_66 : decode cX12_see 66 = .ok (.aload_n 0, 1) := by decide +kernel
theorem dX12_see_67 : decode cX12_see 67 = .ok (.getfield 53, 3) := by decide +kernel
theorem dX12_see_70 : decode cX12_see 70 = .ok (.bipush 6, 2) := by decide +kernel
theorem dX12_see_72 : decode cX12_see 72 = .ok (.iaload, 1) := by decide +kernel
theorem dX12_see_73 : decode cX12_see 73 = .ok (.imul, 1) := by decide +kernel
theorem dX12_see_74 : decode cX12_see 74 = .ok (.i2l, 1) := by decide +kernel
theorem dX12_see_75 : decode cX12_see 75 = .ok (.lload_n 3, 1) := by decide +kernel
theorem dX12_see_76 : decode cX12_see 76 = .ok (.lmul, 1) := by decide +kernel
theorem dX12_see_77 : decode cX12_see 77 = .ok (.ladd, 1) := by decide +kernel
theorem dX12_see_78 : decode cX12_see 78 = .ok (.putfield 185, 3) := by decide +kernel
theorem dX12_see_81 : decode cX12_see 81 = .ok (.aload_n 0, 1) := by decide +kernel
theorem dX12_see_82 : decode cX12_see 82 = .ok (.getfield 181, 3) := by decide +kernel
theorem dX12_see_85 : decode cX12_see 85 = .ok (.lconst 0, 1) := by decide +kernel
theorem dX12_see_86 : decode cX12_see 86 = .ok (.lcmp, 1) := by decide +kernel
theorem dX12_see_87 : decode cX12_see 87 = .ok (.ifCond .ge 21, 3) := by decide +kernel
theorem dX12_see_90 : decode cX12_see 90 = .ok (.aload_n 0, 1) := by decide +kernel
theorem dX12_see_91 : decode cX12_see 91 = .ok (.aload_n 0, 1) := by decide +kernel
theorem dX12_see_92 : decode cX12_see 92 = .ok (.getfield 181, 3) := by decide +kernel
theorem dX12_see_95 : decode cX12_see 95 = .ok (.lneg, 1) := by decide +kernel
theorem dX12_see_96 : decode cX12_see 96 = .ok (.putfield 181, 3) := by decide +kernel
theorem dX12_see_99 : decode cX12_see 99 = .ok (.aload_n 0, 1) := by decide +kernel
theorem dX12_see_100 : decode cX12_see 100 = .ok (.aload_n 0, 1) := by decide +kernel
theorem dX12_see_101 : decode cX12_see 101 = .ok (.getfield 185, 3) := by decide +kernel
theorem dX12_see_104 : decode cX12_see 104 = .ok (.lneg, 1) := by decide +kernel
theorem dX12_see_105 : decode cX12_see 105 = .ok (.putfield 185, 3) := by decide +kernel
theorem dX12_see_108 : decode cX12_see 108 = .ok (.aload_n 0, 1) := by decide +kernel
theorem dX12_see_109 : decode cX12_see 109 = .ok (.getfield 53, 3) := by decide +kernel
theorem dX12_see_112 : decode cX12_see 112 = .ok (.iconst 2, 1) := by decide +kernel
theorem dX12_see_113 : decode cX12_see 113 = .ok (.iaload, 1) := by decide +kernel
theorem dX12_see_114 : decode cX12_see 114 = .ok (.aload_n 0, 1) := by decide +kernel
theorem dX12_see_115 : decode cX12_see 115 = .ok (.getfield 53, 3) := by decide +kernel
theorem dX12_see_118 : decode cX12_see 118 = .ok (.bipush 6, 2) := by decide +kernel
theorem dX12_see_120 : decode cX12_see 120 = .ok (.iaload, 1) := by decide +kernel
theorem dX12_see_121 : decode cX12_see 121 = .ok (.if_icmp .le 12, 3) := by decide +kernel
theorem dX12_see_124 : decode cX12_see 124 = .ok (.aload_n 0, 1) := by decide +kernel
theorem dX12_see_125 : decode cX12_see 125 = .ok (.getfield 53, 3) := by decide +kernel
theorem dX12_see_128 : decode cX12_see 128 = .ok (.iconst 2, 1) := by decide +kernel
theorem dX12_see_129 : decode cX12_see 129 = .ok (.iaload, 1) := by decide +kernel
theorem dX12_see_130 : decode cX12_see 130 = .ok (.goto 10, 3) := by decide +kernel
theorem dX12_see_133 : decode cX12_see 133 = .ok (.aload_n 0, 1) := by decide +kernel
theorem dX12_see_134 : decode cX12_see 134 = .ok (.getfield 53, 3) := by decide +kernel
theorem dX12_see_137 : decode cX12_see 137 = .ok (.bipush 6, 2) := by decide +kernel
theorem dX12_see_139 : decode cX12_see 139 = .ok (.iaload, 1) := by decide +kernel
theorem dX12_see_140 : decode cX12_see 140 = .ok (.istore 7, 2) := by decide +kernel
theorem dX12_see_142 : decode cX12_see 142 = .ok (.aload_n 0, 1) := by decide +kernel
theorem dX12_see_143 : decode cX12_see 143 = .ok (.getfield 181, 3) := by decide +kernel
theorem dX12_see_146 : decode cX12_see 146 = .ok (.lconst 0, 1) := by decide +kernel
theorem dX12_see_147 : decode cX12_see 147 = .ok (.lcmp, 1) := by decide +kernel
theorem dX12_see_148 : decode cX12_see 148 = .ok (.ifCond .eq 23, 3) := by decide +kernel
theorem dX12_see_151 : decode cX12_see 151 = .ok (.aload_n 0, 1) := by decide +kernel
theorem dX12_see_152 : decode cX12_see 152 = .ok (.getfield 185, 3) := by decide +kernel
theorem dX12_see_155 : decode cX12_see 155 = .ok (.aload_n 0, 1) := by decide +kernel
theorem dX12_see_156 : decode cX12_see 156 = .ok (.getfield 181, 3) := by decide +kernel
theorem dX12_see_159 : decode cX12_see 159 = .ok (.iload 7, 2) := by decide +kernel
theorem dX12_see_161 : decode cX12_see 161 = .ok (.i2l, 1) := by decide +kernel
theorem dX12_see_162 : decode cX12_see 162 = .ok (.lmul, 1) := by decide +kernel
theorem dX12_see_163 : decode cX12_see 163 = .ok (.lcmp, 1) := by decide +kernel
theorem dX12_see_164 : decode cX12_see 164 = .ok (.ifCond .le 7, 3) := by decide +kernel
theorem dX12_see_167 : decode cX12_see 167 = .ok (.iconst 1, 1) := by decide +kernel
theorem dX12_see_168 : decode cX12_see 168 = .ok (.goto 4, 3) := by decide +kernel
theorem dX12_see_171 : decode cX12_see 171 = .ok (.iconst 0, 1) := by decide +kernel
theorem dX12_see_172 : decode cX12_see 172 = .ok (.ireturn, 1) := by decide +kernel
theorem dX12_isSight_0 : decode cX12_isSight 0 = .ok (.iload_n 0, 1) := by decide +kernel
theorem dX12_isSight_1 : decode cX12_isSight 1 = .ok (.i2l, 1) := by decide +kernel
theorem dX12_isSight_2 : decode cX12_isSight 2 = .ok (.ldc2_w 96, 3) := by decide +kernel
theorem dX12_isSight_5 : decode cX12_isSight 5 = .ok (.ldc2_w 98, 3) := by decide +kernel
theorem dX12_isSight_8 : decode cX12_isSight 8 = .ok (.invokestatic 69, 3) := by decide +kernel
theorem dX12_isSight_11 : decode cX12_isSight 11 = .ok (.ireturn, 1) := by decide +kernel
theorem dX12_far_0 : decode cX12_far 0 = .ok (.aload_n 0, 1) := by decide +kernel
theorem dX12_far_1 : decode cX12_far 1 = .ok (.iconst 0, 1) := by decide +kernel
theorem dX12_far_2 : decode cX12_far 2 = .ok (.putfield 59, 3) := by decide +kernel
theorem dX12_far_5 : decode cX12_far 5 = .ok (.iload_n 1, 1) := by decide +kernel
theorem dX12_far_6 : decode cX12_far 6 = .ok (.invokestatic 188, 3) := by decide +kernel
theorem dX12_far_9 : decode cX12_far 9 = .ok (.ifCond .eq 20, 3) := by decide +kernel
theorem dX12_far_12 : decode cX12_far 12 = .ok (.iload_n 2, 1) := by decide +kernel
theorem dX12_far_13 : decode cX12_far 13 = .ok (.invokestatic 188, 3) := by decide +kernel
theorem dX12_far_16 : decode cX12_far 16 = .ok (.ifCond .eq 13, 3) := by decide +kernel
theorem dX12_far_19 : decode cX12_far 19 = .ok (.iload_n 3, 1) := by decide +kernel
theorem dX12_far_20 : decode cX12_far 20 = .ok (.i2l, 1) := by decide +kernel
theorem dX12_far_21 : decode cX12_far 21 = .ok (.lconst 0, 1) := by decide +kernel
theorem dX12_far_22 : decode cX12_far 22 = .ok (.lconst 1, 1) := by decide +kernel
theorem dX12_far_23 : decode cX12_far 23 = .ok (.invokestatic 69, 3) := by decide +kernel
theorem dX12_far_26 : decode cX12_far 26 = .ok (.ifCond .ne 7, 3) := by decide +kernel
theorem dX12_far_29 : decode cX12_far 29 = .ok (.ldc2_w 191, 3) := by decide +kernel
theorem dX12_far_32 : decode cX12_far 32 = .ok (.lreturn, 1) := by decide +kernel
theorem dX12_far_33 : decode cX12_far 33 = .ok (.aload_n 0, 1) := by decide +kernel
theorem dX12_far_34 : decode cX12_far 34 = .ok (.iload_n 1, 1) := by decide +kernel
theorem dX12_far_35 : decode cX12_far 35 = .ok (.iload_n 2, 1) := by decide +kernel
theorem dX12_far_36 : decode cX12_far 36 = .ok (.invokevirtual 193, 3) := by decide +kernel
theorem dX12_far_39 : decode cX12_far 39 = .ok (.ifCond .ne 9, 3) := by decide +kernel
theorem dX12_far_42 : decode cX12_far 42 = .ok (.ldc2_w 197, 3) := by decide +kernel
theorem dX12_far_45 : decode cX12_far 45 = .ok (.goto 18, 3) := by decide +kernel
theorem dX12_far_48 : decode cX12_far 48 = .ok (.iload_n 3, 1) := by decide +kernel
theorem dX12_far_49 : decode cX12_far 49 = .ok (.ifCond .ne 10, 3) := by decide +kernel
theorem dX12_far_52 : decode cX12_far 52 = .ok (.aload_n 0, 1) := by decide +kernel
theorem dX12_far_53 : decode cX12_far 53 = .ok (.getfield 185, 3) := by decide +kernel
theorem dX12_far_56 : decode cX12_far 56 = .ok (.goto 7, 3) := by decide +kernel
theorem dX12_far_59 : decode cX12_far 59 = .ok (.aload_n 0, 1) := by decide +kernel
theorem dX12_far_60 : decode cX12_far 60 = .ok (.getfield 181, 3) := by decide +kernel
theorem dX12_far_63 : decode cX12_far 63 = .ok (.lreturn, 1) := by decide +kernel
theorem dX12_high_0 : decode cX12_high 0 = .ok (.aload_n 0, 1) := by decide +kernel
theorem dX12_high_1 : decode cX12_high 1 = .ok (.iconst 0, 1) := by decide +kernel
theorem dX12_high_2 : decode cX12_high 2 = .ok (.putfield 59, 3) := by decide +kernel
theorem dX12_high_5 : decode cX12_high 5 = .ok (.iload_n 1, 1) := by decide +kernel
theorem dX12_high_6 : decode cX12_high 6 = .ok (.invokestatic 188, 3) := by decide +kernel
theorem dX12_high_9 : decode cX12_high 9 = .ok (.ifCond .eq 17, 3) := by decide +kernel
theorem dX12_high_12 : decode cX12_high 12 = .ok (.iload_n 2, 1) := by decide +kernel
theorem dX12_high_13 : decode cX12_high 13 = .ok (.invokestatic 188, 3) := by decide +kernel
theorem dX12_high_16 : decode cX12_high 16 = .ok (.ifCond .eq 10, 3) := by decide +kernel
theorem dX12_high_19 : decode cX12_high 19 = .ok (.iload_n 3, 1) := by decide +kernel
theorem dX12_high_20 : decode cX12_high 20 = .ok (.invokestatic 188, 3) := by decide +kernel
theorem dX12_high_23 : decode cX12_high 23 = .ok (.ifCond .ne 7, 3) := by decide +kernel
theorem dX12_high_26 : decode cX12_high 26 = .ok (.ldc2_w 191, 3) := by decide +kernel
theorem dX12_high_29 : decode cX12_high 29 = .ok (.lreturn, 1) := by decide +kernel
theorem dX12_high_30 : decode cX12_high 30 = .ok (.aload_n 0, 1) := by decide +kernel
theorem dX12_high_31 : decode cX12_high 31 = .ok (.iload_n 1, 1) := by decide +kernel
theorem dX12_high_32 : decode cX12_high 32 = .ok (.iload_n 2, 1) := by decide +kernel
theorem dX12_high_33 : decode cX12_high 33 = .ok (.invokevirtual 193, 3) := by decide +kernel
theorem dX12_high_36 : decode cX12_high 36 = .ok (.ifCond .ne 7, 3) := by decide +kernel
theorem dX12_high_39 : decode cX12_high 39 = .ok (.ldc2_w 197, 3) := by decide +kernel
theorem dX12_high_42 : decode cX12_high 42 = .ok (.lreturn, 1) := by decide +kernel
theorem dX12_high_43 : decode cX12_high 43 = .ok (.aload_n 0, 1) := by decide +kernel
theorem dX12_high_44 : decode cX12_high 44 = .ok (.getfield 53, 3) := by decide +kernel
theorem dX12_high_47 : decode cX12_high 47 = .ok (.iconst 3, 1) := by decide +kernel
theorem dX12_high_48 : decode cX12_high 48 = .ok (.iaload, 1) := by decide +kernel
theorem dX12_high_49 : decode cX12_high 49 = .ok (.i2l, 1) := by decide +kernel
theorem dX12_high_50 : decode cX12_high 50 = .ok (.lstore 4, 2) := by decide +kernel
theorem dX12_high_52 : decode cX12_high 52 = .ok (.aload_n 0, 1) := by decide +kernel
theorem dX12_high_53 : decode cX12_high 53 = .ok (.getfield 53, 3) := by decide +kernel
theorem dX12_high_56 : decode cX12_high 56 = .ok (.iconst 1, 1) := by decide +kernel
theorem dX12_high_57 : decode cX12_high 57 = .ok (.iaload, 1) := by decide +kernel
theorem dX12_high_58 : decode cX12_high 58 = .ok (.i2l, 1) := by decide +kernel
theorem dX12_high_59 : decode cX12_high 59 = .ok (.aload_n 0, 1) := by decide +kernel
theorem dX12_high_60 : decode cX12_high 60 = .ok (.getfield 181, 3) := by decide +kernel
theorem dX12_high_63 : decode cX12_high 63 = .ok (.lmul, 1) := by decide +kernel
theorem dX12_high_64 : decode cX12_high 64 = .ok (.lload 4, 2) := by decide +kernel
theorem dX12_high_66 : decode cX12_high 66 = .ok (.lmul, 1) := by decide +kernel
theorem dX12_high_67 : decode cX12_high 67 = .ok (.iload_n 3, 1) := by decide +kernel
theorem dX12_high_68 : decode cX12_high 68 = .ok (.i2l, 1) := by decide +kernel
theorem dX12_high_69 : decode cX12_high 69 = .ok (.aload_n 0, 1) := by decide +kernel
theorem dX12_high_70 : decode cX12_high 70 = .ok (.getfield 185, 3) := by decide +kernel
theorem dX12_high_73 : decode cX12_high 73 = .ok (.aload_n 0, 1) := by decide +kernel
theorem dX12_high_74 : decode cX12_high 74 = .ok (.getfield 53, 3) := by decide +kernel
theorem dX12_high_77 : decode cX12_high 77 = .ok (.iconst 2, 1) := by decide +kernel
theorem dX12_high_78 : decode cX12_high 78 = .ok (.iaload, 1) := by decide +kernel
theorem dX12_high_79 : decode cX12_high 79 = .ok (.i2l, 1) := by decide +kernel
theorem dX12_high_80 : decode cX12_high 80 = .ok (.aload_n 0, 1) := by decide +kernel
theorem dX12_high_81 : decode cX12_high 81 = .ok (.getfield 181, 3) := by decide +kernel
theorem dX12_high_84 : decode cX12_high 84 = .ok (.lmul, 1) := by decide +kernel
theorem dX12_high_85 : decode cX12_high 85 = .ok (.lsub, 1) := by decide +kernel
theorem dX12_high_86 : decode cX12_high 86 = .ok (.lmul, 1) := by decide +kernel
theorem dX12_high_87 : decode cX12_high 87 = .ok (.lsub, 1) := by decide +kernel
theorem dX12_high_88 : decode cX12_high 88 = .ok (.aload_n 0, 1) := by decide +kernel
theorem dX12_high_89 : decode cX12_high 89 = .ok (.getfield 181, 3) := by decide +kernel
theorem dX12_high_92 : decode cX12_high 92 = .ok (.lload 4, 2) := by decide +kernel
theorem dX12_high_94 : decode cX12_high 94 = .ok (.lmul, 1) := by decide +kernel
theorem dX12_high_95 : decode cX12_high 95 = .ok (.ldiv, 1) := by decide +kernel
theorem dX12_high_96 : decode cX12_high 96 = .ok (.lreturn, 1) := by decide +kernel
theorem dX12_span_0 : decode cX12_span 0 = .ok (.aload_n 0, 1) := by decide +kernel
theorem dX12_span_1 : decode cX12_span 1 = .ok (.iconst 0, 1) := by decide +kernel
theorem dX12_span_2 : decode cX12_span 2 = .ok (.putfield 59, 3) := by decide +kernel
theorem dX12_span_5 : decode cX12_span 5 = .ok (.iload_n 1, 1) := by decide +kernel
theorem dX12_span_6 : decode cX12_span 6 = .ok (.invokestatic 188, 3) := by decide +kernel
theorem dX12_span_9 : decode cX12_span 9 = .ok (.ifCond .eq 33, 3) := by decide +kernel
theorem dX12_span_12 : decode cX12_span 12 = .ok (.iload_n 2, 1) := by decide +kernel
theorem dX12_span_13 : decode cX12_span 13 = .ok (.invokestatic 188, 3) := by decide +kernel
theorem dX12_span_16 : decode cX12_span 16 = .ok (.ifCond .eq 26, 3) := by decide +kernel
theorem dX12_span_19 : decode cX12_span 19 = .ok (.iload_n 3, 1) := by decide +kernel
theorem dX12_span_20 : decode cX12_span 20 = .ok (.i2l, 1) := by decide +kernel
theorem dX12_span_21 : decode cX12_span 21 = .ok (.lconst 0, 1) := by decide +kernel
theorem dX12_span_22 : decode cX12_span 22 = .ok (.ldc2_w 199, 3) := by decide +kernel
theorem dX12_span_25 : decode cX12_span 25 = .ok (.invokestatic 69, 3) := by decide +kernel
theorem dX12_span_28 : decode cX12_span 28 = .ok (.ifCond .eq 14, 3) := by decide +kernel
theorem dX12_span_31 : decode cX12_span 31 = .ok (.iload 4, 2) := by decide +kernel
theorem dX12_span_33 : decode cX12_span 33 = .ok (.i2l, 1) := by decide +kernel
theorem dX12_span_34 : decode cX12_span 34 = .ok (.lconst 0, 1) := by decide +kernel
theorem dX12_span_35 : decode cX12_span 35 = .ok (.lconst 1, 1) := by decide +kernel
theorem dX12_span_36 : decode cX12_span 36 = .ok (.invokestatic 69, 3) := by decide +kernel
theorem dX12_span_39 : decode cX12_span 39 = .ok (.ifCond .ne 7, 3) := by decide +kernel
theorem dX12_span_42 : decode cX12_span 42 = .ok (.ldc2_w 191, 3) := by decide +kernel
theorem dX12_span_45 : decode cX12_span 45 = .ok (.lreturn, 1) := by decide +kernel
theorem dX12_span_46 : decode cX12_span 46 = .ok (.lconst 0, 1) := by decide +kernel
theorem dX12_span_47 : decode cX12_span 47 = .ok (.lstore 5, 2) := by decide +kernel
theorem dX12_span_49 : decode cX12_span 49 = .ok (.lconst 0, 1) := by decide +kernel
theorem dX12_span_50 : decode cX12_span 50 = .ok (.lstore 7, 2) := by decide +kernel
theorem dX12_span_52 : decode cX12_span 52 = .ok (.iconst 0, 1) := by decide +kernel
theorem dX12_span_53 : decode cX12_span 53 = .ok (.istore 9, 2) := by decide +kernel
theorem dX12_span_55 : decode cX12_span 55 = .ok (.iload 9, 2) := by decide +kernel
theorem dX12_span_57 : decode cX12_span 57 = .ok (.bipush 9, 2) := by decide +kernel
theorem dX12_span_59 : decode cX12_span 59 = .ok (.if_icmp .ge 95, 3) := by decide +kernel
theorem dX12_span_62 : decode cX12_span 62 = .ok (.aload_n 0, 1) := by decide +kernel
theorem dX12_span_63 : decode cX12_span 63 = .ok (.iload_n 1, 1) := by decide +kernel
theorem dX12_span_64 : decode cX12_span 64 = .ok (.iload 9, 2) := by decide +kernel
theorem dX12_span_66 : decode cX12_span 66 = .ok (.iconst 3, 1) := by decide +kernel
theorem dX12_span_67 : decode cX12_span 67 = .ok (.idiv, 1) := by decide +kernel
theorem dX12_span_68 : decode cX12_span 68 = .ok (.iconst 1, 1) := by decide +kernel
theorem dX12_span_69 : decode cX12_span 69 = .ok (.isub, 1) := by decide +kernel
theorem dX12_span_70 : decode cX12_span 70 = .ok (.iload_n 3, 1) := by decide +kernel
theorem dX12_span_71 : decode cX12_span 71 = .ok (.imul, 1) := by decide +kernel
theorem dX12_span_72 : decode cX12_span 72 = .ok (.iadd, 1) := by decide +kernel
theorem dX12_span_73 : decode cX12_span 73 = .ok (.iload_n 2, 1) := by decide +kernel
theorem dX12_span_74 : decode cX12_span 74 = .ok (.iload 9, 2) := by decide +kernel
theorem dX12_span_76 : decode cX12_span 76 = .ok (.iconst 3, 1) := by decide +kernel
theorem dX12_span_77 : decode cX12_span 77 = .ok (.irem, 1) := by decide +kernel
theorem dX12_span_78 : decode cX12_span 78 = .ok (.iconst 1, 1) := by decide +kernel
theorem dX12_span_79 : decode cX12_span 79 = .ok (.isub, 1) := by decide +kernel
theorem dX12_span_80 : decode cX12_span 80 = .ok (.iload_n 3, 1) := by decide +kernel
theorem dX12_span_81 : decode cX12_span 81 = .ok (.imul, 1) := by decide +kernel
theorem dX12_span_82 : decode cX12_span 82 = .ok (.iadd, 1) := by decide +kernel
theorem dX12_span_83 : decode cX12_span 83 = .ok (.invokevirtual 193, 3) := by decide +kernel
theorem dX12_span_86 : decode cX12_span 86 = .ok (.ifCond .ne 7, 3) := by decide +kernel
theorem dX12_span_89 : decode cX12_span 89 = .ok (.ldc2_w 197, 3) := by decide +kernel
theorem dX12_span_92 : decode cX12_span 92 = .ok (.lreturn, 1) := by decide +kernel
theorem dX12_span_93 : decode cX12_span 93 = .ok (.aload_n 0, 1) := by decide +kernel
theorem dX12_span_94 : decode cX12_span 94 = .ok (.getfield 185, 3) := by decide +kernel
theorem dX12_span_97 : decode cX12_span 97 = .ok (.aload_n 0, 1) := by decide +kernel
theorem dX12_span_98 : decode cX12_span 98 = .ok (.getfield 181, 3) := by decide +kernel
theorem dX12_span_101 : decode cX12_span 101 = .ok (.ldiv, 1) := by decide +kernel
theorem dX12_span_102 : decode cX12_span 102 = .ok (.lstore 10, 2) := by decide +kernel
theorem dX12_span_104 : decode cX12_span 104 = .ok (.iload 9, 2) := by decide +kernel
theorem dX12_span_106 : decode cX12_span 106 = .ok (.ifCond .eq 11, 3) := by decide +kernel
theorem dX12_span_109 : decode cX12_span 109 = .ok (.lload 10, 2) := by decide +kernel
theorem dX12_span_111 : decode cX12_span 111 = .ok (.lload 5, 2) := by decide +kernel
theorem dX12_span_113 : decode cX12_span 113 = .ok (.lcmp, 1) := by decide +kernel
theorem dX12_span_114 : decode cX12_span 114 = .ok (.ifCond .ge 8, 3) := by decide +kernel
theorem dX12_span_117 : decode cX12_span 117 = .ok (.lload 10, 2) := by decide +kernel
theorem dX12_span_119 : decode cX12_span 119 = .ok (.goto 5, 3) := by decide +kernel
theorem dX12_span_122 : decode cX12_span 122 = .ok (.lload 5, 2) := by decide +kernel
theorem dX12_span_124 : decode cX12_span 124 = .ok (.lstore 5, 2) := by decide +kernel
theorem dX12_span_126 : decode cX12_span 126 = .ok (.iload 9, 2) := by decide +kernel
theorem dX12_span_128 : decode cX12_span 128 = .ok (.ifCond .eq 11, 3) := by decide +kernel
theorem dX12_span_131 : decode cX12_span 131 = .ok (.lload 10, 2) := by decide +kernel
theorem dX12_span_133 : decode cX12_span 133 = .ok (.lload 7, 2) := by decide +kernel
theorem dX12_span_135 : decode cX12_span 135 = .ok (.lcmp, 1) := by decide +kernel
theorem dX12_span_136 : decode cX12_span 136 = .ok (.ifCond .le 8, 3) := by decide +kernel
theorem dX12_span_139 : decode cX12_span 139 = .ok (.lload 10, 2) := by decide +kernel
theorem dX12_span_141 : decode cX12_span 141 = .ok (.goto 5, 3) := by decide +kernel
theorem dX12_span_144 : decode cX12_span 144 = .ok (.lload 7, 2) := by decide +kernel
theorem dX12_span_146 : decode cX12_span 146 = .ok (.lstore 7, 2) := by decide +kernel
theorem dX12_span_148 : decode cX12_span 148 = .ok (.iinc 9 1, 3) := by decide +kernel
theorem dX12_span_151 : decode cX12_span 151 = .ok (.goto (-96), 3) := by decide +kernel
theorem dX12_span_154 : decode cX12_span 154 = .ok (.iload 4, 2) := by decide +kernel
theorem dX12_span_156 : decode cX12_span 156 = .ok (.ifCond .ne 8, 3) := by decide +kernel
theorem dX12_span_159 : decode cX12_span 159 = .ok (.lload 5, 2) := by decide +kernel
theorem dX12_span_161 : decode cX12_span 161 = .ok (.goto 5, 3) := by decide +kernel
theorem dX12_span_164 : decode cX12_span 164 = .ok (.lload 7, 2) := by decide +kernel
theorem dX12_span_166 : decode cX12_span 166 = .ok (.lreturn, 1) := by decide +kernel
theorem dX12_lookStudios_0 : decode cX12_lookStudios 0 = .ok (.aload_n 0, 1) := by decide +kernel
theorem dX12_lookStudios_1 : decode cX12_lookStudios 1 = .ok (.getfield 7, 3) := by decide +kernel
theorem dX12_lookStudios_4 : decode cX12_lookStudios 4 = .ok (.iload_n 2, 1) := by decide +kernel
theorem dX12_lookStudios_5 : decode cX12_lookStudios 5 = .ok (.iaload, 1) := by decide +kernel
theorem dX12_lookStudios_6 : decode cX12_lookStudios 6 = .ok (.ifCond .ge 9, 3) := by decide +kernel
theorem dX12_lookStudios_9 : decode cX12_lookStudios 9 = .ok (.aload_n 0, 1) := by decide +kernel
theorem dX12_lookStudios_10 : decode cX12_lookStudios 10 = .ok (.iconst 1, 1) := by decide +kernel
theorem dX12_lookStudios_11 : decode cX12_lookStudios 11 = .ok (.invokevirtual 80, 3) := by decide +kernel
theorem dX12_lookStudios_14 : decode cX12_lookStudios 14 = .ok (.ireturn, 1) := by decide +kernel
theorem dX12_lookStudios_15 : decode cX12_lookStudios 15 = .ok (.iload_n 3, 1) := by decide +kernel
theorem dX12_lookStudios_16 : decode cX12_lookStudios 16 = .ok (.ifCond .lt 22, 3) := by decide +kernel
theorem dX12_lookStudios_19 : decode cX12_lookStudios 19 = .ok (.iload_n 3, 1) := by decide +kernel
theorem dX12_lookStudios_20 : decode cX12_lookStudios 20 = .ok (.i2l, 1) := by decide +kernel
theorem dX12_lookStudios_21 : decode cX12_lookStudios 21 = .ok (.iconst 4, 1) := by decide +kernel
theorem dX12_lookStudios_22 : decode cX12_lookStudios 22 = .ok (.iload 4, 2) := by decide +kernel
theorem dX12_lookStudios_24 : decode cX12_lookStudios 24 = .ok (.imul, 1) := by decide +kernel
theorem dX12_lookStudios_25 : decode cX12_lookStudios 25 = .ok (.i2l, 1) := by decide +kernel
theorem dX12_lookStudios_26 : decode cX12_lookStudios 26 = .ok (.ladd, 1) := by decide +kernel
theorem dX12_lookStudios_27 : decode cX12_lookStudios 27 = .ok (.aload_n 0, 1) := by decide +kernel
theorem dX12_lookStudios_28 : decode cX12_lookStudios 28 = .ok (.getfield 13, 3) := by decide +kernel
theorem dX12_lookStudios_31 : decode cX12_lookStudios 31 = .ok (.iload_n 2, 1) := by decide +kernel
theorem dX12_lookStudios_32 : decode cX12_lookStudios 32 = .ok (.iaload, 1) := by decide +kernel
theorem dX12_lookStudios_33 : decode cX12_lookStudios 33 = .ok (.i2l, 1) := by decide +kernel
theorem dX12_lookStudios_34 : decode cX12_lookStudios 34 = .ok (.lcmp, 1) := by decide +kernel
theorem dX12_lookStudios_35 : decode cX12_lookStudios 35 = .ok (.ifCond .le 9, 3) := by decide +kernel
theorem dX12_lookStudios_38 : decode cX12_lookStudios 38 = .ok (.aload_n 0, 1) := by decide +kernel
theorem dX12_lookStudios_39 : decode cX12_lookStudios 39 = .ok (.iconst 2, 1) := by decide +kernel
theorem dX12_lookStudios_40 : decode cX12_lookStudios 40 = .ok (.invokevirtual 80, 3) := by decide +kernel
theorem dX12_lookStudios_43 : decode cX12_lookStudios 43 = .ok (.ireturn, 1) := by decide +kernel
theorem dX12_lookStudios_44 : decode cX12_lookStudios 44 = .ok (.iconst 0, 1) := by decide +kernel
theorem dX12_lookStudios_45 : decode cX12_lookStudios 45 = .ok (.istore 5, 2) := by decide +kernel
theorem dX12_lookStudios_47 : decode cX12_lookStudios 47 = .ok (.iload 5, 2) := by decide +kernel
theorem dX12_lookStudios_49 : decode cX12_lookStudios 49 = .ok (.iconst 4, 1) := by decide +kernel
theorem dX12_lookStudios_50 : decode cX12_lookStudios 50 = .ok (.iload 4, 2) := by decide +kernel
theorem dX12_lookStudios_52 : decode cX12_lookStudios 52 = .ok (.imul, 1) := by decide +kernel
theorem dX12_lookStudios_53 : decode cX12_lookStudios 53 = .ok (.if_icmp .ge 67, 3) := by decide +kernel
theorem dX12_lookStudios_56 : decode cX12_lookStudios 56 = .ok (.aload_n 0, 1) := by decide +kernel
theorem dX12_lookStudios_57 : decode cX12_lookStudios 57 = .ok (.getfield 16, 3) := by decide +kernel
theorem dX12_lookStudios_60 : decode cX12_lookStudios 60 = .ok (.bipush 80, 2) := by decide +kernel
theorem dX12_lookStudios_62 : decode cX12_lookStudios 62 = .ok (.iload_n 2, 1) := by decide +kernel
theorem dX12_lookStudios_63 : decode cX12_lookStudios 63 = .ok (.imul, 1) := by decide +kernel
theorem dX12_lookStudios_64 : decode cX12_lookStudios 64 = .ok (.iload_n 3, 1) := by decide +kernel
theorem dX12_lookStudios_65 : decode cX12_lookStudios 65 = .ok (.iadd, 1) := by decide +kernel
theorem dX12_lookStudios_66 : decode cX12_lookStudios 66 = .ok (.iload 5, 2) := by decide +kernel
theorem dX12_lookStudios_68 : decode cX12_lookStudios 68 = .ok (.iadd, 1) := by decide +kernel
theorem dX12_lookStudios_69 : decode cX12_lookStudios 69 = .ok (.iaload, 1) := by decide +kernel
theorem dX12_lookStudios_70 : decode cX12_lookStudios 70 = .ok (.istore 6, 2) := by decide +kernel
theorem dX12_lookStudios_72 : decode cX12_lookStudios 72 = .ok (.iload 5, 2) := by decide +kernel
theorem dX12_lookStudios_74 : decode cX12_lookStudios 74 = .ok (.iconst 4, 1) := by decide +kernel
theorem dX12_lookStudios_75 : decode cX12_lookStudios 75 = .ok (.irem, 1) := by decide +kernel
theorem dX12_lookStudios_76 : decode cX12_lookStudios 76 = .ok (.iconst 3, 1) := by decide +kernel
theorem dX12_lookStudios_77 : decode cX12_lookStudios 77 = .ok (.if_icmp .ne 19, 3) := by decide +kernel
theorem dX12_lookStudios_80 : decode cX12_lookStudios 80 = .ok (.iload 6, 2) := by decide +kernel
theorem dX12_lookStudios_82 : decode cX12_lookStudios 82 = .ok (.i2l, 1) := by decide +kernel
theorem dX12_lookStudios_83 : decode cX12_lookStudios 83 = .ok (.lconst 1, 1) := by decide +kernel
theorem dX12_lookStudios_84 : decode cX12_lookStudios 84 = .ok (.ldc2_w 98, 3) := by decide +kernel
theorem dX12_lookStudios_87 : decode cX12_lookStudios 87 = .ok (.invokestatic 69, 3) := by decide +kernel
theorem dX12_lookStudios_90 : decode cX12_lookStudios 90 = .ok (.ifCond .ne 24, 3) := by decide +kernel
theorem dX12_lookStudios_93 : decode cX12_lookStudios 93 = .ok (.goto 18, 3) := by decide +kernel
theorem dX12_lookStudios_96 : decode cX12_lookStudios 96 = .ok (.iload 6, 2) := by decide +kernel
theorem dX12_lookStudios_98 : decode cX12_lookStudios 98 = .ok (.i2l, 1) := by decide +kernel
theorem dX12_lookStudios_99 : decode cX12_lookStudios 99 = .ok (.ldc2_w 96, 3) := by decide +kernel
theorem dX12_lookStudios_102 : decode cX12_lookStudios 102 = .ok (.ldc2_w 98, 3) := by decide +kernel
theorem dX12_lookStudios_105 : decode cX12_lookStudios 105 = .ok (.invokestatic 69, 3) := by decide +kernel
theorem dX12_lookStudios_108 : decode cX12_lookStudios 108 = .ok (.ifCond .ne 6, 3) := by decide +kernel
theorem dX12_lookStudios_111 : decode cX12_lookStudios 111 = .ok (.ldc 79, 2) := by decide +kernel
theorem dX12_lookStudios_113 : decode cX12_lookStudios 113 = .ok (.ireturn, 1) := by decide +kernel
theorem dX12_lookStudios_114 : decode cX12_lookStudios 114 = .ok (.iinc 5 1, 3) := by decide +kernel
theorem dX12_lookStudios_117 : decode cX12_lookStudios 117 = .ok (.goto (-70), 3) := by decide +kernel
theorem dX12_lookStudios_120 : decode cX12_lookStudios 120 = .ok (.aload_n 0, 1) := by decide +kernel
theorem dX12_lookStudios_121 : decode cX12_lookStudios 121 = .ok (.iconst 0, 1) := by decide +kernel
theorem dX12_lookStudios_122 : decode cX12_lookStudios 122 = .ok (.putfield 63, 3) := by decide +kernel
theorem dX12_lookStudios_125 : decode cX12_lookStudios 125 = .ok (.iconst 0, 1) := by decide +kernel
theorem dX12_lookStudios_126 : decode cX12_lookStudios 126 = .ok (.ireturn, 1) := by decide +kernel
theorem dX12_puts_0 : decode cX12_puts 0 = .ok (.aload_n 0, 1) := by decide +kernel
theorem dX12_puts_1 : decode cX12_puts 1 = .ok (.getfield 31, 3) := by decide +kernel
theorem dX12_puts_4 : decode cX12_puts 4 = .ok (.iload_n 3, 1) := by decide +kernel
theorem dX12_puts_5 : decode cX12_puts 5 = .ok (.iaload, 1) := by decide +kernel
theorem dX12_puts_6 : decode cX12_puts 6 = .ok (.aload_n 0, 1) := by decide +kernel
theorem dX12_puts_7 : decode cX12_puts 7 = .ok (.getfield 16, 3) := by decide +kernel
theorem dX12_puts_10 : decode cX12_puts 10 = .ok (.iload_n 1, 1) := by decide +kernel
theorem dX12_puts_11 : decode cX12_puts 11 = .ok (.iconst 2, 1) := by decide +kernel
theorem dX12_puts_12 : decode cX12_puts 12 = .ok (.iadd, 1) := by decide +kernel
theorem dX12_puts_13 : decode cX12_puts 13 = .ok (.iaload, 1) := by decide +kernel
theorem dX12_puts_14 : decode cX12_puts 14 = .ok (.isub, 1) := by decide +kernel
theorem dX12_puts_15 : decode cX12_puts 15 = .ok (.istore 4, 2) := by decide +kernel
theorem dX12_puts_17 : decode cX12_puts 17 = .ok (.iload 4, 2) := by decide +kernel
theorem dX12_puts_19 : decode cX12_puts 19 = .ok (.ifCond .gt 5, 3) := by decide +kernel
theorem dX12_puts_22 : decode cX12_puts 22 = .ok (.iconst 0, 1) := by decide +kernel
theorem dX12_puts_23 : decode cX12_puts 23 = .ok (.ireturn, 1) := by decide +kernel
theorem dX12_puts_24 : decode cX12_puts 24 = .ok (.aload_n 0, 1) := by decide +kernel
theorem dX12_puts_25 : decode cX12_puts 25 = .ok (.getfield 16, 3) := by decide +kernel
theorem dX12_puts_28 : decode cX12_puts 28 = .ok (.iload_n 1, 1) := by decide +kernel
theorem dX12_puts_29 : decode cX12_puts 29 = .ok (.iconst 3, 1) := by decide +kernel
theorem dX12_puts_30 : decode cX12_puts 30 = .ok (.iadd, 1) := by decide +kernel
theorem dX12_puts_31 : decode cX12_puts 31 = .ok (.iaload, 1) := by decide +kernel
theorem dX12_puts_32 : decode cX12_puts 32 = .ok (.istore 5, 2) := by decide +kernel
theorem dX12_puts_34 : decode cX12_puts 34 = .ok (.aload_n 0, 1) := by decide +kernel
theorem dX12_puts_35 : decode cX12_puts 35 = .ok (.aload_n 0, 1) := by decide +kernel
theorem dX12_puts_36 : decode cX12_puts 36 = .ok (.getfield 38, 3) := by decide +kernel
theorem dX12_puts_39 : decode cX12_puts 39 = .ok (.bipush 24, 2) := by decide +kernel
theorem dX12_puts_41 : decode cX12_puts 41 = .ok (.iload_n 2, 1) := by decide +kernel
theorem dX12_puts_42 : decode cX12_puts 42 = .ok (.imul, 1) := by decide +kernel
theorem dX12_puts_43 : decode cX12_puts 43 = .ok (.iload_n 3, 1) := by decide +kernel
theorem dX12_puts_44 : decode cX12_puts 44 = .ok (.iadd, 1) := by decide +kernel
theorem dX12_puts_45 : decode cX12_puts 45 = .ok (.iaload, 1) := by decide +kernel
theorem dX12_puts_46 : decode cX12_puts 46 = .ok (.aload_n 0, 1) := by decide +kernel
theorem dX12_puts_47 : decode cX12_puts 47 = .ok (.getfield 25, 3) := by decide +kernel
theorem dX12_puts_50 : decode cX12_puts 50 = .ok (.iload_n 3, 1) := by decide +kernel
theorem dX12_puts_51 : decode cX12_puts 51 = .ok (.iaload, 1) := by decide +kernel
theorem dX12_puts_52 : decode cX12_puts 52 = .ok (.aload_n 0, 1) := by decide +kernel
theorem dX12_puts_53 : decode cX12_puts 53 = .ok (.getfield 16, 3) := by decide +kernel
theorem dX12_puts_56 : decode cX12_puts 56 = .ok (.iload_n 1, 1) := by decide +kernel
theorem dX12_puts_57 : decode cX12_puts 57 = .ok (.iaload, 1) := by decide +kernel
theorem dX12_puts_58 : decode cX12_puts 58 = .ok (.isub, 1) := by decide +kernel
theorem dX12_puts_59 : decode cX12_puts 59 = .ok (.iload 5, 2) := by decide +kernel
theorem dX12_puts_61 : decode cX12_puts 61 = .ok (.imul, 1) := by decide +kernel
theorem dX12_puts_62 : decode cX12_puts 62 = .ok (.iload 4, 2) := by decide +kernel
theorem dX12_puts_64 : decode cX12_puts 64 = .ok (.idiv, 1) := by decide +kernel
theorem dX12_puts_65 : decode cX12_puts 65 = .ok (.iadd, 1) := by decide +kernel
theorem dX12_puts_66 : decode cX12_puts 66 = .ok (.invokestatic 123, 3) := by decide +kernel
theorem dX12_puts_69 : decode cX12_puts 69 = .ok (.putfield 201, 3) := by decide +kernel
theorem dX12_puts_72 : decode cX12_puts 72 = .ok (.aload_n 0, 1) := by decide +kernel
theorem dX12_puts_73 : decode cX12_puts 73 = .ok (.aload_n 0, 1) := by decide +kernel
theorem dX12_puts_74 : decode cX12_puts 74 = .ok (.getfield 41, 3) := by decide +kernel
theorem dX12_puts_77 : decode cX12_puts 77 = .ok (.bipush 24, 2) := by decide +kernel
theorem dX12_puts_79 : decode cX12_puts 79 = .ok (.iload_n 2, 1) := by decide +kernel
theorem dX12_puts_80 : decode cX12_puts 80 = .ok (.imul, 1) := by decide +kernel
theorem dX12_puts_81 : decode cX12_puts 81 = .ok (.iload_n 3, 1) := by decide +kernel
theorem dX12_puts_82 : decode cX12_puts 82 = .ok (.iadd, 1) := by decide +kernel
theorem dX12_puts_83 : decode cX12_puts 83 = .ok (.iaload, 1) := by decide +kernel
theorem dX12_puts_84 : decode cX12_puts 84 = .ok (.aload_n 0, 1) := by decide +kernel
theorem dX12_puts_85 : decode cX12_puts 85 = .ok (.getfield 28, 3) := by decide +kernel
theorem dX12_puts_88 : decode cX12_puts 88 = .ok (.iload_n 3, 1) := by decide +kernel
theorem dX12_puts_89 : decode cX12_puts 89 = .ok (.iaload, 1) := by decide +kernel
theorem dX12_puts_90 : decode cX12_puts 90 = .ok (.aload_n 0, 1) := by decide +kernel
theorem dX12_puts_91 : decode cX12_puts 91 = .ok (.getfield 16, 3) := by decide +kernel
theorem dX12_puts_94 : decode cX12_puts 94 = .ok (.iload_n 1, 1) := by decide +kernel
theorem dX12_puts_95 : decode cX12_puts 95 = .ok (.iconst 1, 1) := by decide +kernel
theorem dX12_puts_96 : decode cX12_puts 96 = .ok (.iadd, 1) := by decide +kernel
theorem dX12_puts_97 : decode cX12_puts 97 = .ok (.iaload, 1) := by decide +kernel
theorem dX12_puts_98 : decode cX12_puts 98 = .ok (.isub, 1) := by decide +kernel
theorem dX12_puts_99 : decode cX12_puts 99 = .ok (.iload 5, 2) := by decide +kernel
theorem dX12_puts_101 : decode cX12_puts 101 = .ok (.imul, 1) := by decide +kernel
theorem dX12_puts_102 : decode cX12_puts 102 = .ok (.iload 4, 2) := by decide +kernel
theorem dX12_puts_104 : decode cX12_puts 104 = .ok (.idiv, 1) := by decide +kernel
theorem dX12_puts_105 : decode cX12_puts 105 = .ok (.iadd, 1) := by decide +kernel
theorem dX12_puts_106 : decode cX12_puts 106 = .ok (.invokestatic 123, 3) := by decide +kernel
theorem dX12_puts_109 : decode cX12_puts 109 = .ok (.putfield 204, 3) := by decide +kernel
theorem dX12_puts_112 : decode cX12_puts 112 = .ok (.iconst 1, 1) := by decide +kernel
theorem dX12_puts_113 : decode cX12_puts 113 = .ok (.ireturn, 1) := by decide +kernel
theorem dX12_misfitOf_0 : decode cX12_misfitOf 0 = .ok (.iconst 0, 1) := by decide +kernel
theorem dX12_misfitOf_1 : decode cX12_misfitOf 1 = .ok (.istore_n 3, 1) := by decide +kernel
theorem dX12_misfitOf_2 : decode cX12_misfitOf 2 = .ok (.iconst 0, 1) := by decide +kernel
theorem dX12_misfitOf_3 : decode cX12_misfitOf 3 = .ok (.istore 4, 2) := by decide +kernel
theorem dX12_misfitOf_5 : decode cX12_misfitOf 5 = .ok (.iload 4, 2) := by decide +kernel
theorem dX12_misfitOf_7 : decode cX12_misfitOf 7 = .ok (.aload_n 0, 1) := by decide +kernel
theorem dX12_misfitOf_8 : decode cX12_misfitOf 8 = .ok (.getfield 102, 3) := by decide +kernel
theorem dX12_misfitOf_11 : decode cX12_misfitOf 11 = .ok (.if_icmp .ge 85, 3) := by decide +kernel
theorem dX12_misfitOf_14 : decode cX12_misfitOf 14 = .ok (.aload_n 0, 1) := by decide +kernel
theorem dX12_misfitOf_15 : decode cX12_misfitOf 15 = .ok (.getfield 34, 3) := by decide +kernel
theorem dX12_misfitOf_18 : decode cX12_misfitOf 18 = .ok (.bipush 24, 2) := by decide +kernel
theorem dX12_misfitOf_20 : decode cX12_misfitOf 20 = .ok (.iload_n 2, 1) := by decide +kernel
theorem dX12_misfitOf_21 : decode cX12_misfitOf 21 = .ok (.imul, 1) := by decide +kernel
theorem dX12_misfitOf_22 : decode cX12_misfitOf 22 = .ok (.iload 4, 2) := by decide +kernel
theorem dX12_misfitOf_24 : decode cX12_misfitOf 24 = .ok (.iadd, 1) := by decide +kernel
theorem dX12_misfitOf_25 : decode cX12_misfitOf 25 = .ok (.baload, 1) := by decide +kernel
theorem dX12_misfitOf_26 : decode cX12_misfitOf 26 = .ok (.ifCond .eq 64, 3) := by decide +kernel
theorem dX12_misfitOf_29 : decode cX12_misfitOf 29 = .ok (.iload_n 3, 1) := by decide +kernel
theorem dX12_misfitOf_30 : decode cX12_misfitOf 30 = .ok (.aload_n 0, 1) := by decide +kernel
theorem dX12_misfitOf_31 : decode cX12_misfitOf 31 = .ok (.iload_n 1, 1) := by decide +kernel
theorem dX12_misfitOf_32 : decode cX12_misfitOf 32 = .ok (.iload_n 2, 1) := by decide +kernel
theorem dX12_misfitOf_33 : decode cX12_misfitOf 33 = .ok (.iload 4, 2) := by decide +kernel
theorem dX12_misfitOf_35 : decode cX12_misfitOf 35 = .ok (.invokevirtual 207, 3) := by decide +kernel
theorem dX12_misfitOf_38 : decode cX12_misfitOf 38 = .ok (.ifCond .ne 9, 3) := by decide +kernel
theorem dX12_misfitOf_41 : decode cX12_misfitOf 41 = .ok (.sipush 1000, 3) := by decide +kernel
theorem dX12_misfitOf_44 : decode cX12_misfitOf 44 = .ok (.goto 44, 3) := by decide +kernel
theorem dX12_misfitOf_47 : decode cX12_misfitOf 47 = .ok (.aload_n 0, 1) := by decide +kernel
theorem dX12_misfitOf_48 : decode cX12_misfitOf 48 = .ok (.getfield 201, 3) := by decide +kernel
theorem dX12_misfitOf_51 : decode cX12_misfitOf 51 = .ok (.sipush 500, 3) := by decide +kernel
theorem dX12_misfitOf_54 : decode cX12_misfitOf 54 = .ok (.if_icmp .le 9, 3) := by decide +kernel
theorem dX12_misfitOf_57 : decode cX12_misfitOf 57 = .ok (.sipush 500, 3) := by decide +kernel
theorem dX12_misfitOf_60 : decode cX12_misfitOf 60 = .ok (.goto 7, 3) := by decide +kernel
theorem dX12_misfitOf_63 : decode cX12_misfitOf 63 = .ok (.aload_n 0, 1) := by decide +kernel
theorem dX12_misfitOf_64 : decode cX12_misfitOf 64 = .ok (.getfield 201, 3) := by decide +kernel
theorem dX12_misfitOf_67 : decode cX12_misfitOf 67 = .ok (.aload_n 0, 1) := by decide +kernel
theorem dX12_misfitOf_68 : decode cX12_misfitOf 68 = .ok (.getfield 204, 3) := by decide +kernel
theorem dX12_misfitOf_71 : decode cX12_misfitOf 71 = .ok (.sipush 500, 3) := by decide +kernel
theorem dX12_misfitOf_74 : decode cX12_misfitOf 74 = .ok (.if_icmp .le 9, 3) := by decide +kernel
theorem dX12_misfitOf_77 : decode cX12_misfitOf 77 = .ok (.sipush 500, 3) := by decide +kernel
theorem dX12_misfitOf_80 : decode cX12_misfitOf 80 = .ok (.goto 7, 3) := by decide +kernel
theorem dX12_misfitOf_83 : decode cX12_misfitOf 83 = .ok (.aload_n 0, 1) := by decide +kernel
theorem dX12_misfitOf_84 : decode cX12_misfitOf 84 = .ok (.getfield 204, 3) := by decide +kernel
theorem dX12_misfitOf_87 : decode cX12_misfitOf 87 = .ok (.iadd, 1) := by decide +kernel
theorem dX12_misfitOf_88 : decode cX12_misfitOf 88 = .ok (.iadd, 1) := by decide +kernel
theorem dX12_misfitOf_89 : decode cX12_misfitOf 89 = .ok (.istore_n 3, 1) := by decide +kernel
theorem dX12_misfitOf_90 : decode cX12_misfitOf 90 = .ok (.iinc 4 1, 3) := by decide +kernel
theorem dX12_misfitOf_93 : decode cX12_misfitOf 93 = .ok (.goto (-88), 3) := by decide +kernel
theorem dX12_misfitOf_96 : decode cX12_misfitOf 96 = .ok (.iload_n 3, 1) := by decide +kernel
theorem dX12_misfitOf_97 : decode cX12_misfitOf 97 = .ok (.ireturn, 1) := by decide +kernel
theorem dX12_isMade_0 : decode cX12_isMade 0 = .ok (.iconst 1, 1) := by decide +kernel
theorem dX12_isMade_1 : decode cX12_isMade 1 = .ok (.istore 4, 2) := by decide +kernel
theorem dX12_isMade_3 : decode cX12_isMade 3 = .ok (.iconst 0, 1) := by decide +kernel
theorem dX12_isMade_4 : decode cX12_isMade 4 = .ok (.istore 5, 2) := by decide +kernel
theorem dX12_isMade_6 : decode cX12_isMade 6 = .ok (.iload 5, 2) := by decide +kernel
theorem dX12_isMade_8 : decode cX12_isMade 8 = .ok (.aload_n 0, 1) := by decide +kernel
theorem dX12_isMade_9 : decode cX12_isMade 9 = .ok (.getfield 102, 3) := by decide +kernel
theorem dX12_isMade_12 : decode cX12_isMade 12 = .ok (.if_icmp .ge 63, 3) := by decide +kernel
theorem dX12_isMade_15 : decode cX12_isMade 15 = .ok (.iload 4, 2) := by decide +kernel
theorem dX12_isMade_17 : decode cX12_isMade 17 = .ok (.ifCond .eq 49, 3) := by decide +kernel
theorem dX12_isMade_20 : decode cX12_isMade 20 = .ok (.aload_n 0, 1) := by decide +kernel
theorem dX12_isMade_21 : decode cX12_isMade 21 = .ok (.getfield 34, 3) := by decide +kernel
theorem dX12_isMade_24 : decode cX12_isMade 24 = .ok (.bipush 24, 2) := by decide +kernel
theorem dX12_isMade_26 : decode cX12_isMade 26 = .ok (.iload_n 2, 1) := by decide +kernel
theorem dX12_isMade_27 : decode cX12_isMade 27 = .ok (.imul, 1) := by decide +kernel
theorem dX12_isMade_28 : decode cX12_isMade 28 = .ok (.iload 5, 2) := by decide +kernel
theorem dX12_isMade_30 : decode cX12_isMade 30 = .ok (.iadd, 1) := by decide +kernel
theorem dX12_isMade_31 : decode cX12_isMade 31 = .ok (.baload, 1) := by decide +kernel
theorem dX12_isMade_32 : decode cX12_isMade 32 = .ok (.ifCond .eq 30, 3) := by decide +kernel
theorem dX12_isMade_35 : decode cX12_isMade 35 = .ok (.aload_n 0, 1) := by decide +kernel
theorem dX12_isMade_36 : decode cX12_isMade 36 = .ok (.iload_n 1, 1) := by decide +kernel
theorem dX12_isMade_37 : decode cX12_isMade 37 = .ok (.iload_n 2, 1) := by decide +kernel
theorem dX12_isMade_38 : decode cX12_isMade 38 = .ok (.iload 5, 2) := by decide +kernel
theorem dX12_isMade_40 : decode cX12_isMade 40 = .ok (.invokevirtual 207, 3) := by decide +kernel
theorem dX12_isMade_43 : decode cX12_isMade 43 = .ok (.ifCond .eq 23, 3) := by decide +kernel
theorem dX12_isMade_46 : decode cX12_isMade 46 = .ok (.aload_n 0, 1) := by decide +kernel
theorem dX12_isMade_47 : decode cX12_isMade 47 = .ok (.getfield 201, 3) := by decide +kernel
end
section
theorem dX12_isMade_50 : decode cX12_isMade 50 = .ok (.iload_n 3, 1) := by decide +kernel
theorem dX12_isMade_51 : decode cX12_isMade 51 = .ok (.if_icmp .gt 15, 3) := by decide +kernel
theorem dX12_isMade_54 : decode cX12_isMade 54 = .ok (.aload_n 0, 1) := by decide +kernel
theorem dX12_isMade_55 : decode cX12_isMade 55 = .ok (.getfield 204, 3) := by decide +kernel
theorem dX12_isMade_58 : decode cX12_isMade 58 = .ok (.iload_n 3, 1) := by decide +kernel
theorem dX12_isMade_59 : decode cX12_isMade 59 = .ok (.if_icmp .gt 7, 3) := by decide +kernel
theorem dX12_isMade_62 : decode cX12_isMade 62 = .ok (.iconst 1, 1) := by decide +kernel
theorem dX12_isMade_63 : decode cX12_isMade 63 = .ok (.goto 4, 3) := by decide +kernel
theorem dX12_isMade_66 : decode cX12_isMade 66 = .ok (.iconst 0, 1) := by decide +kernel
theorem dX12_isMade_67 : decode cX12_isMade 67 = .ok (.istore 4, 2) := by decide +kernel
theorem dX12_isMade_69 : decode cX12_isMade 69 = .ok (.iinc 5 1, 3) := by decide +kernel
theorem dX12_isMade_72 : decode cX12_isMade 72 = .ok (.goto (-66), 3) := by decide +kernel
theorem dX12_isMade_75 : decode cX12_isMade 75 = .ok (.iload 4, 2) := by decide +kernel
theorem dX12_isMade_77 : decode cX12_isMade 77 = .ok (.ireturn, 1) := by decide +kernel
theorem dX12_studio_0 : decode cX12_studio 0 = .ok (.aload_n 0, 1) := by decide +kernel
theorem dX12_studio_1 : decode cX12_studio 1 = .ok (.iconst 0, 1) := by decide +kernel
theorem dX12_studio_2 : decode cX12_studio 2 = .ok (.putfield 59, 3) := by decide +kernel
theorem dX12_studio_5 : decode cX12_studio 5 = .ok (.iload_n 1, 1) := by decide +kernel
theorem dX12_studio_6 : decode cX12_studio 6 = .ok (.invokestatic 140, 3) := by decide +kernel
theorem dX12_studio_9 : decode cX12_studio 9 = .ok (.ifCond .eq 62, 3) := by decide +kernel
theorem dX12_studio_12 : decode cX12_studio 12 = .ok (.iload_n 2, 1) := by decide +kernel
theorem dX12_studio_13 : decode cX12_studio 13 = .ok (.invokestatic 73, 3) := by decide +kernel
theorem dX12_studio_16 : decode cX12_studio 16 = .ok (.ifCond .eq 55, 3) := by decide +kernel
theorem dX12_studio_19 : decode cX12_studio 19 = .ok (.iload 4, 2) := by decide +kernel
theorem dX12_studio_21 : decode cX12_studio 21 = .ok (.i2l, 1) := by decide +kernel
theorem dX12_studio_22 : decode cX12_studio 22 = .ok (.lconst 1, 1) := by decide +kernel
theorem dX12_studio_23 : decode cX12_studio 23 = .ok (.ldc2_w 199, 3) := by decide +kernel
theorem dX12_studio_26 : decode cX12_studio 26 = .ok (.invokestatic 69, 3) := by decide +kernel
theorem dX12_studio_29 : decode cX12_studio 29 = .ok (.ifCond .eq 42, 3) := by decide +kernel
theorem dX12_studio_32 : decode cX12_studio 32 = .ok (.iload 5, 2) := by decide +kernel
theorem dX12_studio_34 : decode cX12_studio 34 = .ok (.i2l, 1) := by decide +kernel
theorem dX12_studio_35 : decode cX12_studio 35 = .ok (.lconst 0, 1) := by decide +kernel
theorem dX12_studio_36 : decode cX12_studio 36 = .ok (.iload 4, 2) := by decide +kernel
theorem dX12_studio_38 : decode cX12_studio 38 = .ok (.iconst 1, 1) := by decide +kernel
theorem dX12_studio_39 : decode cX12_studio 39 = .ok (.isub, 1) := by decide +kernel
theorem dX12_studio_40 : decode cX12_studio 40 = .ok (.i2l, 1) := by decide +kernel
theorem dX12_studio_41 : decode cX12_studio 41 = .ok (.invokestatic 69, 3) := by decide +kernel
theorem dX12_studio_44 : decode cX12_studio 44 = .ok (.ifCond .eq 27, 3) := by decide +kernel
theorem dX12_studio_47 : decode cX12_studio 47 = .ok (.iload 6, 2) := by decide +kernel
theorem dX12_studio_49 : decode cX12_studio 49 = .ok (.i2l, 1) := by decide +kernel
theorem dX12_studio_50 : decode cX12_studio 50 = .ok (.lconst 0, 1) := by decide +kernel
theorem dX12_studio_51 : decode cX12_studio 51 = .ok (.ldc2_w 199, 3) := by decide +kernel
theorem dX12_studio_54 : decode cX12_studio 54 = .ok (.invokestatic 69, 3) := by decide +kernel
theorem dX12_studio_57 : decode cX12_studio 57 = .ok (.ifCond .eq 14, 3) := by decide +kernel
theorem dX12_studio_60 : decode cX12_studio 60 = .ok (.iload 7, 2) := by decide +kernel
theorem dX12_studio_62 : decode cX12_studio 62 = .ok (.i2l, 1) := by decide +kernel
theorem dX12_studio_63 : decode cX12_studio 63 = .ok (.lconst 0, 1) := by decide +kernel
theorem dX12_studio_64 : decode cX12_studio 64 = .ok (.lconst 1, 1) := by decide +kernel
theorem dX12_studio_65 : decode cX12_studio 65 = .ok (.invokestatic 69, 3) := by decide +kernel
theorem dX12_studio_68 : decode cX12_studio 68 = .ok (.ifCond .ne 6, 3) := by decide +kernel
theorem dX12_studio_71 : decode cX12_studio 71 = .ok (.ldc 79, 2) := by decide +kernel
theorem dX12_studio_73 : decode cX12_studio 73 = .ok (.ireturn, 1) := by decide +kernel
theorem dX12_studio_74 : decode cX12_studio 74 = .ok (.aload_n 0, 1) := by decide +kernel
theorem dX12_studio_75 : decode cX12_studio 75 = .ok (.iload_n 1, 1) := by decide +kernel
theorem dX12_studio_76 : decode cX12_studio 76 = .ok (.iload_n 2, 1) := by decide +kernel
theorem dX12_studio_77 : decode cX12_studio 77 = .ok (.iload_n 3, 1) := by decide +kernel
theorem dX12_studio_78 : decode cX12_studio 78 = .ok (.iload 4, 2) := by decide +kernel
theorem dX12_studio_80 : decode cX12_studio 80 = .ok (.invokevirtual 210, 3) := by decide +kernel
theorem dX12_studio_83 : decode cX12_studio 83 = .ok (.istore 8, 2) := by decide +kernel
theorem dX12_studio_85 : decode cX12_studio 85 = .ok (.iload 8, 2) := by decide +kernel
theorem dX12_studio_87 : decode cX12_studio 87 = .ok (.ifCond .ge 6, 3) := by decide +kernel
theorem dX12_studio_90 : decode cX12_studio 90 = .ok (.iload 8, 2) := by decide +kernel
theorem dX12_studio_92 : decode cX12_studio 92 = .ok (.ireturn, 1) := by decide +kernel
theorem dX12_studio_93 : decode cX12_studio 93 = .ok (.bipush 80, 2) := by decide +kernel
theorem dX12_studio_95 : decode cX12_studio 95 = .ok (.iload_n 2, 1) := by decide +kernel
theorem dX12_studio_96 : decode cX12_studio 96 = .ok (.imul, 1) := by decide +kernel
theorem dX12_studio_97 : decode cX12_studio 97 = .ok (.iload_n 3, 1) := by decide +kernel
theorem dX12_studio_98 : decode cX12_studio 98 = .ok (.iadd, 1) := by decide +kernel
theorem dX12_studio_99 : decode cX12_studio 99 = .ok (.iconst 4, 1) := by decide +kernel
theorem dX12_studio_100 : decode cX12_studio 100 = .ok (.iload 5, 2) := by decide +kernel
theorem dX12_studio_102 : decode cX12_studio 102 = .ok (.imul, 1) := by decide +kernel
theorem dX12_studio_103 : decode cX12_studio 103 = .ok (.iadd, 1) := by decide +kernel
theorem dX12_studio_104 : decode cX12_studio 104 = .ok (.istore 9, 2) := by decide +kernel
theorem dX12_studio_106 : decode cX12_studio 106 = .ok (.iload 7, 2) := by decide +kernel
theorem dX12_studio_108 : decode cX12_studio 108 = .ok (.ifCond .ne 13, 3) := by decide +kernel
theorem dX12_studio_111 : decode cX12_studio 111 = .ok (.aload_n 0, 1) := by decide +kernel
theorem dX12_studio_112 : decode cX12_studio 112 = .ok (.iload 9, 2) := by decide +kernel
theorem dX12_studio_114 : decode cX12_studio 114 = .ok (.iload_n 1, 1) := by decide +kernel
theorem dX12_studio_115 : decode cX12_studio 115 = .ok (.invokevirtual 214, 3) := by decide +kernel
theorem dX12_studio_118 : decode cX12_studio 118 = .ok (.goto 20, 3) := by decide +kernel
theorem dX12_studio_121 : decode cX12_studio 121 = .ok (.aload_n 0, 1) := by decide +kernel
theorem dX12_studio_122 : decode cX12_studio 122 = .ok (.iload 9, 2) := by decide +kernel
theorem dX12_studio_124 : decode cX12_studio 124 = .ok (.iload_n 1, 1) := by decide +kernel
theorem dX12_studio_125 : decode cX12_studio 125 = .ok (.iload 6, 2) := by decide +kernel
theorem dX12_studio_127 : decode cX12_studio 127 = .ok (.invokevirtual 217, 3) := by decide +kernel
theorem dX12_studio_130 : decode cX12_studio 130 = .ok (.ifCond .eq 7, 3) := by decide +kernel
theorem dX12_studio_133 : decode cX12_studio 133 = .ok (.iconst 1, 1) := by decide +kernel
theorem dX12_studio_134 : decode cX12_studio 134 = .ok (.goto 4, 3) := by decide +kernel
theorem dX12_studio_137 : decode cX12_studio 137 = .ok (.iconst 0, 1) := by decide +kernel
theorem dX12_studio_138 : decode cX12_studio 138 = .ok (.ireturn, 1) := by decide +kernel
theorem dX12_studios_0 : decode cX12_studios 0 = .ok (.aload_n 0, 1) := by decide +kernel
theorem dX12_studios_1 : decode cX12_studios 1 = .ok (.iconst 0, 1) := by decide +kernel
theorem dX12_studios_2 : decode cX12_studios 2 = .ok (.putfield 59, 3) := by decide +kernel
theorem dX12_studios_5 : decode cX12_studios 5 = .ok (.iload_n 1, 1) := by decide +kernel
theorem dX12_studios_6 : decode cX12_studios 6 = .ok (.invokestatic 140, 3) := by decide +kernel
theorem dX12_studios_9 : decode cX12_studios 9 = .ok (.ifCond .eq 49, 3) := by decide +kernel
theorem dX12_studios_12 : decode cX12_studios 12 = .ok (.iload_n 2, 1) := by decide +kernel
theorem dX12_studios_13 : decode cX12_studios 13 = .ok (.invokestatic 73, 3) := by decide +kernel
theorem dX12_studios_16 : decode cX12_studios 16 = .ok (.ifCond .eq 42, 3) := by decide +kernel
theorem dX12_studios_19 : decode cX12_studios 19 = .ok (.iload 4, 2) := by decide +kernel
theorem dX12_studios_21 : decode cX12_studios 21 = .ok (.i2l, 1) := by decide +kernel
theorem dX12_studios_22 : decode cX12_studios 22 = .ok (.lconst 1, 1) := by decide +kernel
theorem dX12_studios_23 : decode cX12_studios 23 = .ok (.ldc2_w 199, 3) := by decide +kernel
theorem dX12_studios_26 : decode cX12_studios 26 = .ok (.invokestatic 69, 3) := by decide +kernel
theorem dX12_studios_29 : decode cX12_studios 29 = .ok (.ifCond .eq 29, 3) := by decide +kernel
theorem dX12_studios_32 : decode cX12_studios 32 = .ok (.iload 5, 2) := by decide +kernel
theorem dX12_studios_34 : decode cX12_studios 34 = .ok (.i2l, 1) := by decide +kernel
theorem dX12_studios_35 : decode cX12_studios 35 = .ok (.lconst 0, 1) := by decide +kernel
theorem dX12_studios_36 : decode cX12_studios 36 = .ok (.ldc2_w 199, 3) := by decide +kernel
theorem dX12_studios_39 : decode cX12_studios 39 = .ok (.invokestatic 69, 3) := by decide +kernel
theorem dX12_studios_42 : decode cX12_studios 42 = .ok (.ifCond .eq 16, 3) := by decide +kernel
theorem dX12_studios_45 : decode cX12_studios 45 = .ok (.iload 6, 2) := by decide +kernel
theorem dX12_studios_47 : decode cX12_studios 47 = .ok (.i2l, 1) := by decide +kernel
theorem dX12_studios_48 : decode cX12_studios 48 = .ok (.lconst 0, 1) := by decide +kernel
theorem dX12_studios_49 : decode cX12_studios 49 = .ok (.ldc2_w 77, 3) := by decide +kernel
theorem dX12_studios_52 : decode cX12_studios 52 = .ok (.invokestatic 69, 3) := by decide +kernel
theorem dX12_studios_55 : decode cX12_studios 55 = .ok (.ifCond .ne 6, 3) := by decide +kernel
theorem dX12_studios_58 : decode cX12_studios 58 = .ok (.ldc 79, 2) := by decide +kernel
theorem dX12_studios_60 : decode cX12_studios 60 = .ok (.ireturn, 1) := by decide +kernel
theorem dX12_studios_61 : decode cX12_studios 61 = .ok (.aload_n 0, 1) := by decide +kernel
theorem dX12_studios_62 : decode cX12_studios 62 = .ok (.iload_n 1, 1) := by decide +kernel
theorem dX12_studios_63 : decode cX12_studios 63 = .ok (.iload_n 2, 1) := by decide +kernel
theorem dX12_studios_64 : decode cX12_studios 64 = .ok (.iload_n 3, 1) := by decide +kernel
theorem dX12_studios_65 : decode cX12_studios 65 = .ok (.iload 4, 2) := by decide +kernel
theorem dX12_studios_67 : decode cX12_studios 67 = .ok (.invokevirtual 210, 3) := by decide +kernel
theorem dX12_studios_70 : decode cX12_studios 70 = .ok (.istore 7, 2) := by decide +kernel
theorem dX12_studios_72 : decode cX12_studios 72 = .ok (.iload 7, 2) := by decide +kernel
theorem dX12_studios_74 : decode cX12_studios 74 = .ok (.ifCond .ge 6, 3) := by decide +kernel
theorem dX12_studios_77 : decode cX12_studios 77 = .ok (.iload 7, 2) := by decide +kernel
theorem dX12_studios_79 : decode cX12_studios 79 = .ok (.ireturn, 1) := by decide +kernel
theorem dX12_studios_80 : decode cX12_studios 80 = .ok (.bipush 80, 2) := by decide +kernel
theorem dX12_studios_82 : decode cX12_studios 82 = .ok (.iload_n 2, 1) := by decide +kernel
theorem dX12_studios_83 : decode cX12_studios 83 = .ok (.imul, 1) := by decide +kernel
theorem dX12_studios_84 : decode cX12_studios 84 = .ok (.iload_n 3, 1) := by decide +kernel
theorem dX12_studios_85 : decode cX12_studios 85 = .ok (.iadd, 1) := by decide +kernel
theorem dX12_studios_86 : decode cX12_studios 86 = .ok (.istore 8, 2) := by decide +kernel
theorem dX12_studios_88 : decode cX12_studios 88 = .ok (.iconst 0, 1) := by decide +kernel
theorem dX12_studios_89 : decode cX12_studios 89 = .ok (.istore 9, 2) := by decide +kernel
theorem dX12_studios_91 : decode cX12_studios 91 = .ok (.iconst 0, 1) := by decide +kernel
theorem dX12_studios_92 : decode cX12_studios 92 = .ok (.istore 10, 2) := by decide +kernel
theorem dX12_studios_94 : decode cX12_studios 94 = .ok (.iconst 0, 1) := by decide +kernel
theorem dX12_studios_95 : decode cX12_studios 95 = .ok (.istore 11, 2) := by decide +kernel
theorem dX12_studios_97 : decode cX12_studios 97 = .ok (.iload 11, 2) := by decide +kernel
theorem dX12_studios_99 : decode cX12_studios 99 = .ok (.iload 4, 2) := by decide +kernel
theorem dX12_studios_101 : decode cX12_studios 101 = .ok (.if_icmp .ge 72, 3) := by decide +kernel
theorem dX12_studios_104 : decode cX12_studios 104 = .ok (.aload_n 0, 1) := by decide +kernel
theorem dX12_studios_105 : decode cX12_studios 105 = .ok (.iload 8, 2) := by decide +kernel
theorem dX12_studios_107 : decode cX12_studios 107 = .ok (.iconst 4, 1) := by decide +kernel
theorem dX12_studios_108 : decode cX12_studios 108 = .ok (.iload 11, 2) := by decide +kernel
theorem dX12_studios_110 : decode cX12_studios 110 = .ok (.imul, 1) := by decide +kernel
theorem dX12_studios_111 : decode cX12_studios 111 = .ok (.iadd, 1) := by decide +kernel
theorem dX12_studios_112 : decode cX12_studios 112 = .ok (.iload_n 1, 1) := by decide +kernel
theorem dX12_studios_113 : decode cX12_studios 113 = .ok (.invokevirtual 214, 3) := by decide +kernel
theorem dX12_studios_116 : decode cX12_studios 116 = .ok (.aload_n 0, 1) := by decide +kernel
theorem dX12_studios_117 : decode cX12_studios 117 = .ok (.iload 8, 2) := by decide +kernel
theorem dX12_studios_119 : decode cX12_studios 119 = .ok (.iconst 4, 1) := by decide +kernel
theorem dX12_studios_120 : decode cX12_studios 120 = .ok (.iload 9, 2) := by decide +kernel
theorem dX12_studios_122 : decode cX12_studios 122 = .ok (.imul, 1) := by decide +kernel
theorem dX12_studios_123 : decode cX12_studios 123 = .ok (.iadd, 1) := by decide +kernel
theorem dX12_studios_124 : decode cX12_studios 124 = .ok (.iload_n 1, 1) := by decide +kernel
theorem dX12_studios_125 : decode cX12_studios 125 = .ok (.invokevirtual 214, 3) := by decide +kernel
theorem dX12_studios_128 : decode cX12_studios 128 = .ok (.if_icmp .ge 8, 3) := by decide +kernel
theorem dX12_studios_131 : decode cX12_studios 131 = .ok (.iload 11, 2) := by decide +kernel
theorem dX12_studios_133 : decode cX12_studios 133 = .ok (.goto 5, 3) := by decide +kernel
theorem dX12_studios_136 : decode cX12_studios 136 = .ok (.iload 9, 2) := by decide +kernel
theorem dX12_studios_138 : decode cX12_studios 138 = .ok (.istore 9, 2) := by decide +kernel
theorem dX12_studios_140 : decode cX12_studios 140 = .ok (.iload 10, 2) := by decide +kernel
theorem dX12_studios_142 : decode cX12_studios 142 = .ok (.aload_n 0, 1) := by decide +kernel
theorem dX12_studios_143 : decode cX12_studios 143 = .ok (.iload 8, 2) := by decide +kernel
theorem dX12_studios_145 : decode cX12_studios 145 = .ok (.iconst 4, 1) := by decide +kernel
theorem dX12_studios_146 : decode cX12_studios 146 = .ok (.iload 11, 2) := by decide +kernel
theorem dX12_studios_148 : decode cX12_studios 148 = .ok (.imul, 1) := by decide +kernel
theorem dX12_studios_149 : decode cX12_studios 149 = .ok (.iadd, 1) := by decide +kernel
theorem dX12_studios_150 : decode cX12_studios 150 = .ok (.iload_n 1, 1) := by decide +kernel
theorem dX12_studios_151 : decode cX12_studios 151 = .ok (.iload 5, 2) := by decide +kernel
theorem dX12_studios_153 : decode cX12_studios 153 = .ok (.invokevirtual 217, 3) := by decide +kernel
theorem dX12_studios_156 : decode cX12_studios 156 = .ok (.ifCond .eq 7, 3) := by decide +kernel
theorem dX12_studios_159 : decode cX12_studios 159 = .ok (.iconst 1, 1) := by decide +kernel
theorem dX12_studios_160 : decode cX12_studios 160 = .ok (.goto 4, 3) := by decide +kernel
theorem dX12_studios_163 : decode cX12_studios 163 = .ok (.iconst 0, 1) := by decide +kernel
theorem dX12_studios_164 : decode cX12_studios 164 = .ok (.iadd, 1) := by decide +kernel
theorem dX12_studios_165 : decode cX12_studios 165 = .ok (.istore 10, 2) := by decide +kernel
theorem dX12_studios_167 : decode cX12_studios 167 = .ok (.iinc 11 1, 3) := by decide +kernel
theorem dX12_studios_170 : decode cX12_studios 170 = .ok (.goto (-73), 3) := by decide +kernel
theorem dX12_studios_173 : decode cX12_studios 173 = .ok (.iconst 0, 1) := by decide +kernel
theorem dX12_studios_174 : decode cX12_studios 174 = .ok (.istore 11, 2) := by decide +kernel
theorem dX12_studios_176 : decode cX12_studios 176 = .ok (.iconst 0, 1) := by decide +kernel
theorem dX12_studios_177 : decode cX12_studios 177 = .ok (.istore 12, 2) := by decide +kernel
theorem dX12_studios_179 : decode cX12_studios 179 = .ok (.iload 12, 2) := by decide +kernel
theorem dX12_studios_181 : decode cX12_studios 181 = .ok (.aload_n 0, 1) := by decide +kernel
theorem dX12_studios_182 : decode cX12_studios 182 = .ok (.getfield 102, 3) := by decide +kernel
theorem dX12_studios_185 : decode cX12_studios 185 = .ok (.if_icmp .ge 109, 3) := by decide +kernel
theorem dX12_studios_188 : decode cX12_studios 188 = .ok (.aload_n 0, 1) := by decide +kernel
theorem dX12_studios_189 : decode cX12_studios 189 = .ok (.getfield 34, 3) := by decide +kernel
theorem dX12_studios_192 : decode cX12_studios 192 = .ok (.bipush 24, 2) := by decide +kernel
theorem dX12_studios_194 : decode cX12_studios 194 = .ok (.iload_n 1, 1) := by decide +kernel
theorem dX12_studios_195 : decode cX12_studios 195 = .ok (.imul, 1) := by decide +kernel
theorem dX12_studios_196 : decode cX12_studios 196 = .ok (.iload 12, 2) := by decide +kernel
theorem dX12_studios_198 : decode cX12_studios 198 = .ok (.iadd, 1) := by decide +kernel
theorem dX12_studios_199 : decode cX12_studios 199 = .ok (.baload, 1) := by decide +kernel
theorem dX12_studios_200 : decode cX12_studios 200 = .ok (.ifCond .ne 7, 3) := by decide +kernel
theorem dX12_studios_203 : decode cX12_studios 203 = .ok (.iconst 1, 1) := by decide +kernel
theorem dX12_studios_204 : decode cX12_studios 204 = .ok (.goto 4, 3) := by decide +kernel
theorem dX12_studios_207 : decode cX12_studios 207 = .ok (.iconst 0, 1) := by decide +kernel
theorem dX12_studios_208 : decode cX12_studios 208 = .ok (.istore 13, 2) := by decide +kernel
theorem dX12_studios_210 : decode cX12_studios 210 = .ok (.iconst 0, 1) := by decide +kernel
theorem dX12_studios_211 : decode cX12_studios 211 = .ok (.istore 14, 2) := by decide +kernel
theorem dX12_studios_213 : decode cX12_studios 213 = .ok (.iload 14, 2) := by decide +kernel
theorem dX12_studios_215 : decode cX12_studios 215 = .ok (.iload 4, 2) := by decide +kernel
theorem dX12_studios_217 : decode cX12_studios 217 = .ok (.if_icmp .ge 56, 3) := by decide +kernel
theorem dX12_studios_220 : decode cX12_studios 220 = .ok (.iload 13, 2) := by decide +kernel
theorem dX12_studios_222 : decode cX12_studios 222 = .ok (.ifCond .ne 38, 3) := by decide +kernel
theorem dX12_studios_225 : decode cX12_studios 225 = .ok (.aload_n 0, 1) := by decide +kernel
theorem dX12_studios_226 : decode cX12_studios 226 = .ok (.iload 8, 2) := by decide +kernel
theorem dX12_studios_228 : decode cX12_studios 228 = .ok (.iconst 4, 1) := by decide +kernel
theorem dX12_studios_229 : decode cX12_studios 229 = .ok (.iload 14, 2) := by decide +kernel
theorem dX12_studios_231 : decode cX12_studios 231 = .ok (.imul, 1) := by decide +kernel
theorem dX12_studios_232 : decode cX12_studios 232 = .ok (.iadd, 1) := by decide +kernel
theorem dX12_studios_233 : decode cX12_studios 233 = .ok (.iload_n 1, 1) := by decide +kernel
theorem dX12_studios_234 : decode cX12_studios 234 = .ok (.iload 12, 2) := by decide +kernel
theorem dX12_studios_236 : decode cX12_studios 236 = .ok (.invokevirtual 207, 3) := by decide +kernel
theorem dX12_studios_239 : decode cX12_studios 239 = .ok (.ifCond .eq 25, 3) := by decide +kernel
theorem dX12_studios_242 : decode cX12_studios 242 = .ok (.aload_n 0, 1) := by decide +kernel
theorem dX12_studios_243 : decode cX12_studios 243 = .ok (.getfield 201, 3) := by decide +kernel
theorem dX12_studios_246 : decode cX12_studios 246 = .ok (.iload 5, 2) := by decide +kernel
theorem dX12_studios_248 : decode cX12_studios 248 = .ok (.if_icmp .gt 16, 3) := by decide +kernel
theorem dX12_studios_251 : decode cX12_studios 251 = .ok (.aload_n 0, 1) := by decide +kernel
theorem dX12_studios_252 : decode cX12_studios 252 = .ok (.getfield 204, 3) := by decide +kernel
theorem dX12_studios_255 : decode cX12_studios 255 = .ok (.iload 5, 2) := by decide +kernel
theorem dX12_studios_257 : decode cX12_studios 257 = .ok (.if_icmp .gt 7, 3) := by decide +kernel
theorem dX12_studios_260 : decode cX12_studios 260 = .ok (.iconst 1, 1) := by decide +kernel
theorem dX12_studios_261 : decode cX12_studios 261 = .ok (.goto 4, 3) := by decide +kernel
theorem dX12_studios_264 : decode cX12_studios 264 = .ok (.iconst 0, 1) := by decide +kernel
theorem dX12_studios_265 : decode cX12_studios 265 = .ok (.istore 13, 2) := by decide +kernel
theorem dX12_studios_267 : decode cX12_studios 267 = .ok (.iinc 14 1, 3) := by decide +kernel
theorem dX12_studios_270 : decode cX12_studios 270 = .ok (.goto (-57), 3) := by decide +kernel
theorem dX12_studios_273 : decode cX12_studios 273 = .ok (.iload 11, 2) := by decide +kernel
theorem dX12_studios_275 : decode cX12_studios 275 = .ok (.iload 13, 2) := by decide +kernel
theorem dX12_studios_277 : decode cX12_studios 277 = .ok (.ifCond .eq 7, 3) := by decide +kernel
theorem dX12_studios_280 : decode cX12_studios 280 = .ok (.iconst 0, 1) := by decide +kernel
theorem dX12_studios_281 : decode cX12_studios 281 = .ok (.goto 4, 3) := by decide +kernel
theorem dX12_studios_284 : decode cX12_studios 284 = .ok (.iconst 1, 1) := by decide +kernel
theorem dX12_studios_285 : decode cX12_studios 285 = .ok (.iadd, 1) := by decide +kernel
theorem dX12_studios_286 : decode cX12_studios 286 = .ok (.istore 11, 2) := by decide +kernel
theorem dX12_studios_288 : decode cX12_studios 288 = .ok (.iinc 12 1, 3) := by decide +kernel
theorem dX12_studios_291 : decode cX12_studios 291 = .ok (.goto (-112), 3) := by decide +kernel
theorem dX12_studios_294 : decode cX12_studios 294 = .ok (.iload 6, 2) := by decide +kernel
theorem dX12_studios_296 : decode cX12_studios 296 = .ok (.ifCond .ne 8, 3) := by decide +kernel
theorem dX12_studios_299 : decode cX12_studios 299 = .ok (.iload 9, 2) := by decide +kernel
theorem dX12_studios_301 : decode cX12_studios 301 = .ok (.goto 16, 3) := by decide +kernel
theorem dX12_studios_304 : decode cX12_studios 304 = .ok (.iload 6, 2) := by decide +kernel
theorem dX12_studios_306 : decode cX12_studios 306 = .ok (.iconst 1, 1) := by decide +kernel
theorem dX12_studios_307 : decode cX12_studios 307 = .ok (.if_icmp .ne 8, 3) := by decide +kernel
theorem dX12_studios_310 : decode cX12_studios 310 = .ok (.iload 10, 2) := by decide +kernel
theorem dX12_studios_312 : decode cX12_studios 312 = .ok (.goto 5, 3) := by decide +kernel
theorem dX12_studios_315 : decode cX12_studios 315 = .ok (.iload 11, 2) := by decide +kernel
theorem dX12_studios_317 : decode cX12_studios 317 = .ok (.ireturn, 1) := by decide +kernel
theorem dX12_spotOf_0 : decode cX12_spotOf 0 = .ok (.iload_n 0, 1) := by decide +kernel
theorem dX12_spotOf_1 : decode cX12_spotOf 1 = .ok (.sipush 172, 3) := by decide +kernel
theorem dX12_spotOf_4 : decode cX12_spotOf 4 = .ok (.if_icmp .le 11, 3) := by decide +kernel
theorem dX12_spotOf_7 : decode cX12_spotOf 7 = .ok (.iload_n 0, 1) := by decide +kernel
theorem dX12_spotOf_8 : decode cX12_spotOf 8 = .ok (.sipush 172, 3) := by decide +kernel
theorem dX12_spotOf_11 : decode cX12_spotOf 11 = .ok (.isub, 1) := by decide +kernel
theorem dX12_spotOf_12 : decode cX12_spotOf 12 = .ok (.goto 8, 3) := by decide +kernel
theorem dX12_spotOf_15 : decode cX12_spotOf 15 = .ok (.sipush 172, 3) := by decide +kernel
theorem dX12_spotOf_18 : decode cX12_spotOf 18 = .ok (.iload_n 0, 1) := by decide +kernel
theorem dX12_spotOf_19 : decode cX12_spotOf 19 = .ok (.isub, 1) := by decide +kernel
theorem dX12_spotOf_20 : decode cX12_spotOf 20 = .ok (.istore 4, 2) := by decide +kernel
theorem dX12_spotOf_22 : decode cX12_spotOf 22 = .ok (.iload 4, 2) := by decide +kernel
theorem dX12_spotOf_24 : decode cX12_spotOf 24 = .ok (.sipush 182, 3) := by decide +kernel
theorem dX12_spotOf_27 : decode cX12_spotOf 27 = .ok (.if_icmp .le 12, 3) := by decide +kernel
theorem dX12_spotOf_30 : decode cX12_spotOf 30 = .ok (.sipush 365, 3) := by decide +kernel
theorem dX12_spotOf_33 : decode cX12_spotOf 33 = .ok (.iload 4, 2) := by decide +kernel
theorem dX12_spotOf_35 : decode cX12_spotOf 35 = .ok (.isub, 1) := by decide +kernel
theorem dX12_spotOf_36 : decode cX12_spotOf 36 = .ok (.goto 5, 3) := by decide +kernel
theorem dX12_spotOf_39 : decode cX12_spotOf 39 = .ok (.iload 4, 2) := by decide +kernel
theorem dX12_spotOf_41 : decode cX12_spotOf 41 = .ok (.istore 4, 2) := by decide +kernel
theorem dX12_spotOf_43 : decode cX12_spotOf 43 = .ok (.iload_n 3, 1) := by decide +kernel
theorem dX12_spotOf_44 : decode cX12_spotOf 44 = .ok (.ifCond .ne 17, 3) := by decide +kernel
theorem dX12_spotOf_47 : decode cX12_spotOf 47 = .ok (.iload_n 2, 1) := by decide +kernel
theorem dX12_spotOf_48 : decode cX12_spotOf 48 = .ok (.iload_n 1, 1) := by decide +kernel
theorem dX12_spotOf_49 : decode cX12_spotOf 49 = .ok (.imul, 1) := by decide +kernel
theorem dX12_spotOf_50 : decode cX12_spotOf 50 = .ok (.sipush 200, 3) := by decide +kernel
theorem dX12_spotOf_53 : decode cX12_spotOf 53 = .ok (.imul, 1) := by decide +kernel
theorem dX12_spotOf_54 : decode cX12_spotOf 54 = .ok (.sipush 1000, 3) := by decide +kernel
theorem dX12_spotOf_57 : decode cX12_spotOf 57 = .ok (.idiv, 1) := by decide +kernel
theorem dX12_spotOf_58 : decode cX12_spotOf 58 = .ok (.goto 30, 3) := by decide +kernel
theorem dX12_spotOf_61 : decode cX12_spotOf 61 = .ok (.iload_n 2, 1) := by decide +kernel
theorem dX12_spotOf_62 : decode cX12_spotOf 62 = .ok (.sipush 500, 3) := by decide +kernel
theorem dX12_spotOf_65 : decode cX12_spotOf 65 = .ok (.sipush 1500, 3) := by decide +kernel
theorem dX12_spotOf_68 : decode cX12_spotOf 68 = .ok (.iload 4, 2) := by decide +kernel
theorem dX12_spotOf_70 : decode cX12_spotOf 70 = .ok (.imul, 1) := by decide +kernel
theorem dX12_spotOf_71 : decode cX12_spotOf 71 = .ok (.sipush 182, 3) := by decide +kernel
theorem dX12_spotOf_74 : decode cX12_spotOf 74 = .ok (.idiv, 1) := by decide +kernel
theorem dX12_spotOf_75 : decode cX12_spotOf 75 = .ok (.iadd, 1) := by decide +kernel
theorem dX12_spotOf_76 : decode cX12_spotOf 76 = .ok (.bipush 30, 2) := by decide +kernel
theorem dX12_spotOf_78 : decode cX12_spotOf 78 = .ok (.iload_n 1, 1) := by decide +kernel
theorem dX12_spotOf_79 : decode cX12_spotOf 79 = .ok (.imul, 1) := by decide +kernel
theorem dX12_spotOf_80 : decode cX12_spotOf 80 = .ok (.iload_n 1, 1) := by decide +kernel
theorem dX12_spotOf_81 : decode cX12_spotOf 81 = .ok (.imul, 1) := by decide +kernel
theorem dX12_spotOf_82 : decode cX12_spotOf 82 = .ok (.iadd, 1) := by decide +kernel
theorem dX12_spotOf_83 : decode cX12_spotOf 83 = .ok (.imul, 1) := by decide +kernel
theorem dX12_spotOf_84 : decode cX12_spotOf 84 = .ok (.sipush 1000, 3) := by decide +kernel
theorem dX12_spotOf_87 : decode cX12_spotOf 87 = .ok (.idiv, 1) := by decide +kernel
theorem dX12_spotOf_88 : decode cX12_spotOf 88 = .ok (.ireturn, 1) := by decide +kernel
theorem dX12_spot_0 : decode cX12_spot 0 = .ok (.aload_n 0, 1) := by decide +kernel
theorem dX12_spot_1 : decode cX12_spot 1 = .ok (.iconst 0, 1) := by decide +kernel
theorem dX12_spot_2 : decode cX12_spot 2 = .ok (.putfield 59, 3) := by decide +kernel
theorem dX12_spot_5 : decode cX12_spot 5 = .ok (.iload_n 1, 1) := by decide +kernel
theorem dX12_spot_6 : decode cX12_spot 6 = .ok (.i2l, 1) := by decide +kernel
theorem dX12_spot_7 : decode cX12_spot 7 = .ok (.lconst 0, 1) := by decide +kernel
theorem dX12_spot_8 : decode cX12_spot 8 = .ok (.ldc2_w 220, 3) := by decide +kernel
theorem dX12_spot_11 : decode cX12_spot 11 = .ok (.invokestatic 69, 3) := by decide +kernel
theorem dX12_spot_14 : decode cX12_spot 14 = .ok (.ifCond .eq 40, 3) := by decide +kernel
theorem dX12_spot_17 : decode cX12_spot 17 = .ok (.iload_n 2, 1) := by decide +kernel
theorem dX12_spot_18 : decode cX12_spot 18 = .ok (.i2l, 1) := by decide +kernel
theorem dX12_spot_19 : decode cX12_spot 19 = .ok (.ldc2_w 222, 3) := by decide +kernel
theorem dX12_spot_22 : decode cX12_spot 22 = .ok (.ldc2_w 84, 3) := by decide +kernel
theorem dX12_spot_25 : decode cX12_spot 25 = .ok (.invokestatic 69, 3) := by decide +kernel
theorem dX12_spot_28 : decode cX12_spot 28 = .ok (.ifCond .eq 26, 3) := by decide +kernel
theorem dX12_spot_31 : decode cX12_spot 31 = .ok (.iload_n 3, 1) := by decide +kernel
theorem dX12_spot_32 : decode cX12_spot 32 = .ok (.i2l, 1) := by decide +kernel
theorem dX12_spot_33 : decode cX12_spot 33 = .ok (.lconst 1, 1) := by decide +kernel
theorem dX12_spot_34 : decode cX12_spot 34 = .ok (.ldc2_w 98, 3) := by decide +kernel
theorem dX12_spot_37 : decode cX12_spot 37 = .ok (.invokestatic 69, 3) := by decide +kernel
theorem dX12_spot_40 : decode cX12_spot 40 = .ok (.ifCond .eq 14, 3) := by decide +kernel
theorem dX12_spot_43 : decode cX12_spot 43 = .ok (.iload 4, 2) := by decide +kernel
theorem dX12_spot_45 : decode cX12_spot 45 = .ok (.i2l, 1) := by decide +kernel
theorem dX12_spot_46 : decode cX12_spot 46 = .ok (.lconst 0, 1) := by decide +kernel
theorem dX12_spot_47 : decode cX12_spot 47 = .ok (.lconst 1, 1) := by decide +kernel
theorem dX12_spot_48 : decode cX12_spot 48 = .ok (.invokestatic 69, 3) := by decide +kernel
theorem dX12_spot_51 : decode cX12_spot 51 = .ok (.ifCond .ne 8, 3) := by decide +kernel
theorem dX12_spot_54 : decode cX12_spot 54 = .ok (.ldc 79, 2) := by decide +kernel
theorem dX12_spot_56 : decode cX12_spot 56 = .ok (.goto 11, 3) := by decide +kernel
theorem dX12_spot_59 : decode cX12_spot 59 = .ok (.iload_n 1, 1) := by decide +kernel
theorem dX12_spot_60 : decode cX12_spot 60 = .ok (.iload_n 2, 1) := by decide +kernel
theorem dX12_spot_61 : decode cX12_spot 61 = .ok (.iload_n 3, 1) := by decide +kernel
theorem dX12_spot_62 : decode cX12_spot 62 = .ok (.iload 4, 2) := by decide +kernel
theorem dX12_spot_64 : decode cX12_spot 64 = .ok (.invokestatic 224, 3) := by decide +kernel
theorem dX12_spot_67 : decode cX12_spot 67 = .ok (.ireturn, 1) := by decide +kernel
theorem dX12_days_0 : decode cX12_days 0 = .ok (.aload_n 0, 1) := by decide +kernel
theorem dX12_days_1 : decode cX12_days 1 = .ok (.iconst 0, 1) := by decide +kernel
theorem dX12_days_2 : decode cX12_days 2 = .ok (.putfield 59, 3) := by decide +kernel
theorem dX12_days_5 : decode cX12_days 5 = .ok (.iload_n 3, 1) := by decide +kernel
theorem dX12_days_6 : decode cX12_days 6 = .ok (.i2l, 1) := by decide +kernel
theorem dX12_days_7 : decode cX12_days 7 = .ok (.lconst 1, 1) := by decide +kernel
theorem dX12_days_8 : decode cX12_days 8 = .ok (.ldc2_w 98, 3) := by decide +kernel
theorem dX12_days_11 : decode cX12_days 11 = .ok (.invokestatic 69, 3) := by decide +kernel
theorem dX12_days_14 : decode cX12_days 14 = .ok (.ifCond .ne 6, 3) := by decide +kernel
theorem dX12_days_17 : decode cX12_days 17 = .ok (.ldc 79, 2) := by decide +kernel
theorem dX12_days_19 : decode cX12_days 19 = .ok (.ireturn, 1) := by decide +kernel
theorem dX12_days_20 : decode cX12_days 20 = .ok (.iconst 0, 1) := by decide +kernel
theorem dX12_days_21 : decode cX12_days 21 = .ok (.istore 5, 2) := by decide +kernel
theorem dX12_days_23 : decode cX12_days 23 = .ok (.iconst 0, 1) := by decide +kernel
theorem dX12_days_24 : decode cX12_days 24 = .ok (.istore 6, 2) := by decide +kernel
theorem dX12_days_26 : decode cX12_days 26 = .ok (.iload 6, 2) := by decide +kernel
theorem dX12_days_28 : decode cX12_days 28 = .ok (.sipush 365, 3) := by decide +kernel
theorem dX12_days_31 : decode cX12_days 31 = .ok (.if_icmp .ge 74, 3) := by decide +kernel
theorem dX12_days_34 : decode cX12_days 34 = .ok (.bipush (-6), 2) := by decide +kernel
theorem dX12_days_36 : decode cX12_days 36 = .ok (.istore 7, 2) := by decide +kernel
theorem dX12_days_38 : decode cX12_days 38 = .ok (.iload 7, 2) := by decide +kernel
theorem dX12_days_40 : decode cX12_days 40 = .ok (.bipush 7, 2) := by decide +kernel
theorem dX12_days_42 : decode cX12_days 42 = .ok (.if_icmp .ge 57, 3) := by decide +kernel
theorem dX12_days_45 : decode cX12_days 45 = .ok (.iload 6, 2) := by decide +kernel
theorem dX12_days_47 : decode cX12_days 47 = .ok (.iload 7, 2) := by decide +kernel
theorem dX12_days_49 : decode cX12_days 49 = .ok (.iload_n 3, 1) := by decide +kernel
theorem dX12_days_50 : decode cX12_days 50 = .ok (.iconst 0, 1) := by decide +kernel
theorem dX12_days_51 : decode cX12_days 51 = .ok (.invokestatic 224, 3) := by decide +kernel
theorem dX12_days_54 : decode cX12_days 54 = .ok (.iload_n 1, 1) := by decide +kernel
theorem dX12_days_55 : decode cX12_days 55 = .ok (.if_icmp .ne 38, 3) := by decide +kernel
theorem dX12_days_58 : decode cX12_days 58 = .ok (.iload 6, 2) := by decide +kernel
theorem dX12_days_60 : decode cX12_days 60 = .ok (.iload 7, 2) := by decide +kernel
theorem dX12_days_62 : decode cX12_days 62 = .ok (.iload_n 3, 1) := by decide +kernel
theorem dX12_days_63 : decode cX12_days 63 = .ok (.iconst 1, 1) := by decide +kernel
theorem dX12_days_64 : decode cX12_days 64 = .ok (.invokestatic 224, 3) := by decide +kernel
theorem dX12_days_67 : decode cX12_days 67 = .ok (.iload_n 2, 1) := by decide +kernel
theorem dX12_days_68 : decode cX12_days 68 = .ok (.if_icmp .ne 25, 3) := by decide +kernel
theorem dX12_days_71 : decode cX12_days 71 = .ok (.iload 5, 2) := by decide +kernel
theorem dX12_days_73 : decode cX12_days 73 = .ok (.iload 4, 2) := by decide +kernel
theorem dX12_days_75 : decode cX12_days 75 = .ok (.if_icmp .ne 15, 3) := by decide +kernel
theorem dX12_days_78 : decode cX12_days 78 = .ok (.bipush 100, 2) := by decide +kernel
theorem dX12_days_80 : decode cX12_days 80 = .ok (.iload 6, 2) := by decide +kernel
theorem dX12_days_82 : decode cX12_days 82 = .ok (.imul, 1) := by decide +kernel
theorem dX12_days_83 : decode cX12_days 83 = .ok (.iload 7, 2) := by decide +kernel
theorem dX12_days_85 : decode cX12_days 85 = .ok (.iadd, 1) := by decide +kernel
theorem dX12_days_86 : decode cX12_days 86 = .ok (.bipush 50, 2) := by decide +kernel
theorem dX12_days_88 : decode cX12_days 88 = .ok (.iadd, 1) := by decide +kernel
theorem dX12_days_89 : decode cX12_days 89 = .ok (.ireturn, 1) := by decide +kernel
theorem dX12_days_90 : decode cX12_days 90 = .ok (.iinc 5 1, 3) := by decide +kernel
theorem dX12_days_93 : decode cX12_days 93 = .ok (.iinc 7 1, 3) := by decide +kernel
theorem dX12_days_96 : decode cX12_days 96 = .ok (.goto (-58), 3) := by decide +kernel
theorem dX12_days_99 : decode cX12_days 99 = .ok (.iinc 6 1, 3) := by decide +kernel
theorem dX12_days_102 : decode cX12_days 102 = .ok (.goto (-76), 3) := by decide +kernel
theorem dX12_days_105 : decode cX12_days 105 = .ok (.iload 4, 2) := by decide +kernel
theorem dX12_days_107 : decode cX12_days 107 = .ok (.ldc 149, 2) := by decide +kernel
theorem dX12_days_109 : decode cX12_days 109 = .ok (.if_icmp .ne 8, 3) := by decide +kernel
theorem dX12_days_112 : decode cX12_days 112 = .ok (.iload 5, 2) := by decide +kernel
theorem dX12_days_114 : decode cX12_days 114 = .ok (.goto 5, 3) := by decide +kernel
theorem dX12_days_117 : decode cX12_days 117 = .ok (.ldc 149, 2) := by decide +kernel
theorem dX12_days_119 : decode cX12_days 119 = .ok (.ireturn, 1) := by decide +kernel
theorem dX12_kindOf_0 : decode cX12_kindOf 0 = .ok (.aload_n 0, 1) := by decide +kernel
theorem dX12_kindOf_1 : decode cX12_kindOf 1 = .ok (.iload_n 1, 1) := by decide +kernel
theorem dX12_kindOf_2 : decode cX12_kindOf 2 = .ok (.invokevirtual 146, 3) := by decide +kernel
theorem dX12_kindOf_5 : decode cX12_kindOf 5 = .ok (.ifCond .ne 7, 3) := by decide +kernel
theorem dX12_kindOf_8 : decode cX12_kindOf 8 = .ok (.iconst 3, 1) := by decide +kernel
theorem dX12_kindOf_9 : decode cX12_kindOf 9 = .ok (.goto 22, 3) := by decide +kernel
theorem dX12_kindOf_12 : decode cX12_kindOf 12 = .ok (.aload_n 0, 1) := by decide +kernel
theorem dX12_kindOf_13 : decode cX12_kindOf 13 = .ok (.iload_n 1, 1) := by decide +kernel
theorem dX12_kindOf_14 : decode cX12_kindOf 14 = .ok (.invokevirtual 135, 3) := by decide +kernel
theorem dX12_kindOf_17 : decode cX12_kindOf 17 = .ok (.aload_n 0, 1) := by decide +kernel
theorem dX12_kindOf_18 : decode cX12_kindOf 18 = .ok (.getfield 19, 3) := by decide +kernel
theorem dX12_kindOf_21 : decode cX12_kindOf 21 = .ok (.iconst 4, 1) := by decide +kernel
theorem dX12_kindOf_22 : decode cX12_kindOf 22 = .ok (.iaload, 1) := by decide +kernel
theorem dX12_kindOf_23 : decode cX12_kindOf 23 = .ok (.if_icmp .gt 7, 3) := by decide +kernel
theorem dX12_kindOf_26 : decode cX12_kindOf 26 = .ok (.iconst 2, 1) := by decide +kernel
theorem dX12_kindOf_27 : decode cX12_kindOf 27 = .ok (.goto 4, 3) := by decide +kernel
theorem dX12_kindOf_30 : decode cX12_kindOf 30 = .ok (.iconst 1, 1) := by decide +kernel
theorem dX12_kindOf_31 : decode cX12_kindOf 31 = .ok (.ireturn, 1) := by decide +kernel
theorem dX12_isOf_0 : decode cX12_isOf 0 = .ok (.iload_n 1, 1) := by decide +kernel
theorem dX12_isOf_1 : decode cX12_isOf 1 = .ok (.ifCond .eq 18, 3) := by decide +kernel
theorem dX12_isOf_4 : decode cX12_isOf 4 = .ok (.iload_n 0, 1) := by decide +kernel
theorem dX12_isOf_5 : decode cX12_isOf 5 = .ok (.iload_n 1, 1) := by decide +kernel
theorem dX12_isOf_6 : decode cX12_isOf 6 = .ok (.if_icmp .eq 13, 3) := by decide +kernel
theorem dX12_isOf_9 : decode cX12_isOf 9 = .ok (.iload_n 1, 1) := by decide +kernel
theorem dX12_isOf_10 : decode cX12_isOf 10 = .ok (.iconst 1, 1) := by decide +kernel
theorem dX12_isOf_11 : decode cX12_isOf 11 = .ok (.if_icmp .ne 12, 3) := by decide +kernel
theorem dX12_isOf_14 : decode cX12_isOf 14 = .ok (.iload_n 0, 1) := by decide +kernel
theorem dX12_isOf_15 : decode cX12_isOf 15 = .ok (.iconst 2, 1) := by decide +kernel
theorem dX12_isOf_16 : decode cX12_isOf 16 = .ok (.if_icmp .ne 7, 3) := by decide +kernel
theorem dX12_isOf_19 : decode cX12_isOf 19 = .ok (.iconst 1, 1) := by decide +kernel
theorem dX12_isOf_20 : decode cX12_isOf 20 = .ok (.goto 4, 3) := by decide +kernel
theorem dX12_isOf_23 : decode cX12_isOf 23 = .ok (.iconst 0, 1) := by decide +kernel
theorem dX12_isOf_24 : decode cX12_isOf 24 = .ok (.ireturn, 1) := by decide +kernel
theorem dX12_kind_0 : decode cX12_kind 0 = .ok (.aload_n 0, 1) := by decide +kernel
theorem dX12_kind_1 : decode cX12_kind 1 = .ok (.iconst 0, 1) := by decide +kernel
theorem dX12_kind_2 : decode cX12_kind 2 = .ok (.putfield 59, 3) := by decide +kernel
theorem dX12_kind_5 : decode cX12_kind 5 = .ok (.aload_n 0, 1) := by decide +kernel
theorem dX12_kind_6 : decode cX12_kind 6 = .ok (.iload_n 1, 1) := by decide +kernel
theorem dX12_kind_7 : decode cX12_kind 7 = .ok (.invokevirtual 110, 3) := by decide +kernel
theorem dX12_kind_10 : decode cX12_kind 10 = .ok (.ifCond .eq 11, 3) := by decide +kernel
theorem dX12_kind_13 : decode cX12_kind 13 = .ok (.aload_n 0, 1) := by decide +kernel
theorem dX12_kind_14 : decode cX12_kind 14 = .ok (.iload_n 1, 1) := by decide +kernel
theorem dX12_kind_15 : decode cX12_kind 15 = .ok (.invokevirtual 227, 3) := by decide +kernel
theorem dX12_kind_18 : decode cX12_kind 18 = .ok (.goto 5, 3) := by decide +kernel
theorem dX12_kind_21 : decode cX12_kind 21 = .ok (.ldc 79, 2) := by decide +kernel
theorem dX12_kind_23 : decode cX12_kind 23 = .ok (.ireturn, 1) := by decide +kernel
theorem dX12_as_0 : decode cX12_as 0 = .ok (.aload_n 0, 1) := by decide +kernel
theorem dX12_as_1 : decode cX12_as 1 = .ok (.iconst 0, 1) := by decide +kernel
theorem dX12_as_2 : decode cX12_as 2 = .ok (.putfield 59, 3) := by decide +kernel
theorem dX12_as_5 : decode cX12_as 5 = .ok (.aload_n 0, 1) := by decide +kernel
theorem dX12_as_6 : decode cX12_as 6 = .ok (.iload_n 1, 1) := by decide +kernel
theorem dX12_as_7 : decode cX12_as 7 = .ok (.invokevirtual 110, 3) := by decide +kernel
theorem dX12_as_10 : decode cX12_as 10 = .ok (.ifCond .eq 15, 3) := by decide +kernel
theorem dX12_as_13 : decode cX12_as 13 = .ok (.iload_n 2, 1) := by decide +kernel
theorem dX12_as_14 : decode cX12_as 14 = .ok (.i2l, 1) := by decide +kernel
theorem dX12_as_15 : decode cX12_as 15 = .ok (.lconst 0, 1) := by decide +kernel
theorem dX12_as_16 : decode cX12_as 16 = .ok (.ldc2_w 169, 3) := by decide +kernel
theorem dX12_as_19 : decode cX12_as 19 = .ok (.invokestatic 69, 3) := by decide +kernel
theorem dX12_as_22 : decode cX12_as 22 = .ok (.ifCond .ne 6, 3) := by decide +kernel
theorem dX12_as_25 : decode cX12_as 25 = .ok (.ldc 79, 2) := by decide +kernel
theorem dX12_as_27 : decode cX12_as 27 = .ok (.ireturn, 1) := by decide +kernel
theorem dX12_as_28 : decode cX12_as 28 = .ok (.aload_n 0, 1) := by decide +kernel
theorem dX12_as_29 : decode cX12_as 29 = .ok (.iconst 0, 1) := by decide +kernel
theorem dX12_as_30 : decode cX12_as 30 = .ok (.putfield 63, 3) := by decide +kernel
theorem dX12_as_33 : decode cX12_as 33 = .ok (.aload_n 0, 1) := by decide +kernel
theorem dX12_as_34 : decode cX12_as 34 = .ok (.iload_n 1, 1) := by decide +kernel
theorem dX12_as_35 : decode cX12_as 35 = .ok (.invokevirtual 227, 3) := by decide +kernel
theorem dX12_as_38 : decode cX12_as 38 = .ok (.iload_n 2, 1) := by decide +kernel
theorem dX12_as_39 : decode cX12_as 39 = .ok (.invokestatic 230, 3) := by decide +kernel
theorem dX12_as_42 : decode cX12_as 42 = .ok (.ifCond .eq 12, 3) := by decide +kernel
theorem dX12_as_45 : decode cX12_as 45 = .ok (.aload_n 0, 1) := by decide +kernel
theorem dX12_as_46 : decode cX12_as 46 = .ok (.getfield 31, 3) := by decide +kernel
theorem dX12_as_49 : decode cX12_as 49 = .ok (.iload_n 1, 1) := by decide +kernel
theorem dX12_as_50 : decode cX12_as 50 = .ok (.iaload, 1) := by decide +kernel
theorem dX12_as_51 : decode cX12_as 51 = .ok (.goto 8, 3) := by decide +kernel
theorem dX12_as_54 : decode cX12_as 54 = .ok (.aload_n 0, 1) := by decide +kernel
theorem dX12_as_55 : decode cX12_as 55 = .ok (.iconst 3, 1) := by decide +kernel
theorem dX12_as_56 : decode cX12_as 56 = .ok (.invokevirtual 80, 3) := by decide +kernel
theorem dX12_as_59 : decode cX12_as 59 = .ok (.ireturn, 1) := by decide +kernel
theorem dX12_began_0 : decode cX12_began 0 = .ok (.aload_n 0, 1) := by decide +kernel
theorem dX12_began_1 : decode cX12_began 1 = .ok (.getfield 233, 3) := by decide +kernel
theorem dX12_began_4 : decode cX12_began 4 = .ok (.bipush 16, 2) := by decide +kernel
theorem dX12_began_6 : decode cX12_began 6 = .ok (.if_icmp .ge 23, 3) := by decide +kernel
theorem dX12_began_9 : decode cX12_began 9 = .ok (.aload_n 0, 1) := by decide +kernel
theorem dX12_began_10 : decode cX12_began 10 = .ok (.getfield 56, 3) := by decide +kernel
theorem dX12_began_13 : decode cX12_began 13 = .ok (.aload_n 0, 1) := by decide +kernel
theorem dX12_began_14 : decode cX12_began 14 = .ok (.getfield 233, 3) := by decide +kernel
theorem dX12_began_17 : decode cX12_began 17 = .ok (.iload_n 1, 1) := by decide +kernel
theorem dX12_began_18 : decode cX12_began 18 = .ok (.iastore, 1) := by decide +kernel
theorem dX12_began_19 : decode cX12_began 19 = .ok (.aload_n 0, 1) := by decide +kernel
theorem dX12_began_20 : decode cX12_began 20 = .ok (.dup, 1) := by decide +kernel
theorem dX12_began_21 : decode cX12_began 21 = .ok (.getfield 233, 3) := by decide +kernel
theorem dX12_began_24 : decode cX12_began 24 = .ok (.iconst 1, 1) := by decide +kernel
theorem dX12_began_25 : decode cX12_began 25 = .ok (.iadd, 1) := by decide +kernel
theorem dX12_began_26 : decode cX12_began 26 = .ok (.putfield 233, 3) := by decide +kernel
theorem dX12_began_29 : decode cX12_began 29 = .ok (.return_, 1) := by decide +kernel
theorem dX12_seenSize_0 : decode cX12_seenSize 0 = .ok (.iload_n 2, 1) := by decide +kernel
theorem dX12_seenSize_1 : decode cX12_seenSize 1 = .ok (.iconst 2, 1) := by decide +kernel
theorem dX12_seenSize_2 : decode cX12_seenSize 2 = .ok (.if_icmp .ne 9, 3) := by decide +kernel
theorem dX12_seenSize_5 : decode cX12_seenSize 5 = .ok (.aload_n 0, 1) := by decide +kernel
theorem dX12_seenSize_6 : decode cX12_seenSize 6 = .ok (.bipush 12, 2) := by decide +kernel
theorem dX12_seenSize_8 : decode cX12_seenSize 8 = .ok (.invokevirtual 236, 3) := by decide +kernel
theorem dX12_seenSize_11 : decode cX12_seenSize 11 = .ok (.aload_n 0, 1) := by decide +kernel
theorem dX12_seenSize_12 : decode cX12_seenSize 12 = .ok (.bipush 11, 2) := by decide +kernel
theorem dX12_seenSize_14 : decode cX12_seenSize 14 = .ok (.invokevirtual 236, 3) := by decide +kernel
theorem dX12_seenSize_17 : decode cX12_seenSize 17 = .ok (.aload_n 0, 1) := by decide +kernel
theorem dX12_seenSize_18 : decode cX12_seenSize 18 = .ok (.bipush 10, 2) := by decide +kernel
theorem dX12_seenSize_20 : decode cX12_seenSize 20 = .ok (.invokevirtual 236, 3) := by decide +kernel
theorem dX12_seenSize_23 : decode cX12_seenSize 23 = .ok (.aload_n 0, 1) := by decide +kernel
theorem dX12_seenSize_24 : decode cX12_seenSize 24 = .ok (.getfield 31, 3) := by decide +kernel
theorem dX12_seenSize_27 : decode cX12_seenSize 27 = .ok (.iload_n 1, 1) := by decide +kernel
theorem dX12_seenSize_28 : decode cX12_seenSize 28 = .ok (.iaload, 1) := by decide +kernel
theorem dX12_seenSize_29 : decode cX12_seenSize 29 = .ok (.aload_n 0, 1) := by decide +kernel
theorem dX12_seenSize_30 : decode cX12_seenSize 30 = .ok (.iload_n 1, 1) := by decide +kernel
theorem dX12_seenSize_31 : decode cX12_seenSize 31 = .ok (.invokevirtual 135, 3) := by decide +kernel
theorem dX12_seenSize_34 : decode cX12_seenSize 34 = .ok (.iadd, 1) := by decide +kernel
theorem dX12_seenSize_35 : decode cX12_seenSize 35 = .ok (.istore_n 3, 1) := by decide +kernel
theorem dX12_seenSize_36 : decode cX12_seenSize 36 = .ok (.iload_n 2, 1) := by decide +kernel
theorem dX12_seenSize_37 : decode cX12_seenSize 37 = .ok (.iconst 2, 1) := by decide +kernel
theorem dX12_seenSize_38 : decode cX12_seenSize 38 = .ok (.if_icmp .ne 9, 3) := by decide +kernel
theorem dX12_seenSize_41 : decode cX12_seenSize 41 = .ok (.iconst 2, 1) := by decide +kernel
theorem dX12_seenSize_42 : decode cX12_seenSize 42 = .ok (.iload_n 3, 1) := by decide +kernel
theorem dX12_seenSize_43 : decode cX12_seenSize 43 = .ok (.imul, 1) := by decide +kernel
theorem dX12_seenSize_44 : decode cX12_seenSize 44 = .ok (.goto 4, 3) := by decide +kernel
theorem dX12_seenSize_47 : decode cX12_seenSize 47 = .ok (.iload_n 3, 1) := by decide +kernel
theorem dX12_seenSize_48 : decode cX12_seenSize 48 = .ok (.ireturn, 1) := by decide +kernel
theorem dX12_markOf_0 : decode cX12_markOf 0 = .ok (.aload_n 0, 1) := by decide +kernel
theorem dX12_markOf_1 : decode cX12_markOf 1 = .ok (.iload_n 1, 1) := by decide +kernel
theorem dX12_markOf_2 : decode cX12_markOf 2 = .ok (.aload_n 0, 1) := by decide +kernel
theorem dX12_markOf_3 : decode cX12_markOf 3 = .ok (.getfield 19, 3) := by decide +kernel
theorem dX12_markOf_6 : decode cX12_markOf 6 = .ok (.iconst 2, 1) := by decide +kernel
theorem dX12_markOf_7 : decode cX12_markOf 7 = .ok (.iaload, 1) := by decide +kernel
theorem dX12_markOf_8 : decode cX12_markOf 8 = .ok (.invokevirtual 117, 3) := by decide +kernel
theorem dX12_markOf_11 : decode cX12_markOf 11 = .ok (.istore_n 3, 1) := by decide +kernel
theorem dX12_markOf_12 : decode cX12_markOf 12 = .ok (.iload_n 2, 1) := by decide +kernel
theorem dX12_markOf_13 : decode cX12_markOf 13 = .ok (.iconst 3, 1) := by decide +kernel
theorem dX12_markOf_14 : decode cX12_markOf 14 = .ok (.if_icmp .ne 21, 3) := by decide +kernel
theorem dX12_markOf_17 : decode cX12_markOf 17 = .ok (.aload_n 0, 1) := by decide +kernel
theorem dX12_markOf_18 : decode cX12_markOf 18 = .ok (.bipush 23, 2) := by decide +kernel
theorem dX12_markOf_20 : decode cX12_markOf 20 = .ok (.invokevirtual 236, 3) := by decide +kernel
theorem dX12_markOf_23 : decode cX12_markOf 23 = .ok (.aload_n 0, 1) := by decide +kernel
theorem dX12_markOf_24 : decode cX12_markOf 24 = .ok (.bipush 20, 2) := by decide +kernel
theorem dX12_markOf_26 : decode cX12_markOf 26 = .ok (.invokevirtual 236, 3) := by decide +kernel
theorem dX12_markOf_29 : decode cX12_markOf 29 = .ok (.iload_n 3, 1) := by decide +kernel
theorem dX12_markOf_30 : decode cX12_markOf 30 = .ok (.sipush 1000, 3) := by decide +kernel
theorem dX12_markOf_33 : decode cX12_markOf 33 = .ok (.iadd, 1) := by decide +kernel
theorem dX12_markOf_34 : decode cX12_markOf 34 = .ok (.ireturn, 1) := by decide +kernel
theorem dX12_markOf_35 : decode cX12_markOf 35 = .ok (.iload_n 2, 1) := by decide +kernel
theorem dX12_markOf_36 : decode cX12_markOf 36 = .ok (.iconst 2, 1) := by decide +kernel
theorem dX12_markOf_37 : decode cX12_markOf 37 = .ok (.if_icmp .ne 9, 3) := by decide +kernel
theorem dX12_markOf_40 : decode cX12_markOf 40 = .ok (.aload_n 0, 1) := by decide +kernel
theorem dX12_markOf_41 : decode cX12_markOf 41 = .ok (.bipush 22, 2) := by decide +kernel
theorem dX12_markOf_43 : decode cX12_markOf 43 = .ok (.invokevirtual 236, 3) := by decide +kernel
theorem dX12_markOf_46 : decode cX12_markOf 46 = .ok (.aload_n 0, 1) := by decide +kernel
theorem dX12_markOf_47 : decode cX12_markOf 47 = .ok (.bipush 21, 2) := by decide +kernel
theorem dX12_markOf_49 : decode cX12_markOf 49 = .ok (.invokevirtual 236, 3) := by decide +kernel
theorem dX12_markOf_52 : decode cX12_markOf 52 = .ok (.aload_n 0, 1) := by decide +kernel
theorem dX12_markOf_53 : decode cX12_markOf 53 = .ok (.bipush 20, 2) := by decide +kernel
theorem dX12_markOf_55 : decode cX12_markOf 55 = .ok (.invokevirtual 236, 3) := by decide +kernel
theorem dX12_markOf_58 : decode cX12_markOf 58 = .ok (.iload_n 3, 1) := by decide +kernel
theorem dX12_markOf_59 : decode cX12_markOf 59 = .ok (.bipush 100, 2) := by decide +kernel
theorem dX12_markOf_61 : decode cX12_markOf 61 = .ok (.iadd, 1) := by decide +kernel
theorem dX12_markOf_62 : decode cX12_markOf 62 = .ok (.iload_n 2, 1) := by decide +kernel
theorem dX12_markOf_63 : decode cX12_markOf 63 = .ok (.iconst 2, 1) := by decide +kernel
theorem dX12_markOf_64 : decode cX12_markOf 64 = .ok (.if_icmp .ne 12, 3) := by decide +kernel
theorem dX12_markOf_67 : decode cX12_markOf 67 = .ok (.aload_n 0, 1) := by decide +kernel
theorem dX12_markOf_68 : decode cX12_markOf 68 = .ok (.iload_n 1, 1) := by decide +kernel
theorem dX12_markOf_69 : decode cX12_markOf 69 = .ok (.iload_n 2, 1) := by decide +kernel
theorem dX12_markOf_70 : decode cX12_markOf 70 = .ok (.invokevirtual 240, 3) := by decide +kernel
theorem dX12_markOf_73 : decode cX12_markOf 73 = .ok (.goto 4, 3) := by decide +kernel
theorem dX12_markOf_76 : decode cX12_markOf 76 = .ok (.iconst 0, 1) := by decide +kernel
theorem dX12_markOf_77 : decode cX12_markOf 77 = .ok (.iadd, 1) := by decide +kernel
theorem dX12_markOf_78 : decode cX12_markOf 78 = .ok (.ireturn, 1) := by decide +kernel
theorem dX12_ask_0 : decode cX12_ask 0 = .ok (.aload_n 0, 1) := by decide +kernel
theorem dX12_ask_1 : decode cX12_ask 1 = .ok (.iconst 0, 1) := by decide +kernel
theorem dX12_ask_2 : decode cX12_ask 2 = .ok (.putfield 59, 3) := by decide +kernel
theorem dX12_ask_5 : decode cX12_ask 5 = .ok (.aload_n 0, 1) := by decide +kernel
theorem dX12_ask_6 : decode cX12_ask 6 = .ok (.iload_n 1, 1) := by decide +kernel
theorem dX12_ask_7 : decode cX12_ask 7 = .ok (.invokevirtual 110, 3) := by decide +kernel
theorem dX12_ask_10 : decode cX12_ask 10 = .ok (.ifCond .eq 13, 3) := by decide +kernel
theorem dX12_ask_13 : decode cX12_ask 13 = .ok (.iload_n 2, 1) := by decide +kernel
theorem dX12_ask_14 : decode cX12_ask 14 = .ok (.i2l, 1) := by decide +kernel
theorem dX12_ask_15 : decode cX12_ask 15 = .ok (.lconst 0, 1) := by decide +kernel
theorem dX12_ask_16 : decode cX12_ask 16 = .ok (.lconst 1, 1) := by decide +kernel
theorem dX12_ask_17 : decode cX12_ask 17 = .ok (.invokestatic 69, 3) := by decide +kernel
theorem dX12_ask_20 : decode cX12_ask 20 = .ok (.ifCond .ne 6, 3) := by decide +kernel
theorem dX12_ask_23 : decode cX12_ask 23 = .ok (.ldc 79, 2) := by decide +kernel
theorem dX12_ask_25 : decode cX12_ask 25 = .ok (.ireturn, 1) := by decide +kernel
theorem dX12_ask_26 : decode cX12_ask 26 = .ok (.aload_n 0, 1) := by decide +kernel
theorem dX12_ask_27 : decode cX12_ask 27 = .ok (.iconst 0, 1) := by decide +kernel
theorem dX12_ask_28 : decode cX12_ask 28 = .ok (.putfield 233, 3) := by decide +kernel
theorem dX12_ask_31 : decode cX12_ask 31 = .ok (.aload_n 0, 1) := by decide +kernel
theorem dX12_ask_32 : decode cX12_ask 32 = .ok (.iload_n 1, 1) := by decide +kernel
theorem dX12_ask_33 : decode cX12_ask 33 = .ok (.invokevirtual 227, 3) := by decide +kernel
theorem dX12_ask_36 : decode cX12_ask 36 = .ok (.istore_n 3, 1) := by decide +kernel
theorem dX12_ask_37 : decode cX12_ask 37 = .ok (.iload_n 2, 1) := by decide +kernel
theorem dX12_ask_38 : decode cX12_ask 38 = .ok (.iconst 1, 1) := by decide +kernel
theorem dX12_ask_39 : decode cX12_ask 39 = .ok (.if_icmp .ne 10, 3) := by decide +kernel
theorem dX12_ask_42 : decode cX12_ask 42 = .ok (.aload_n 0, 1) := by decide +kernel
theorem dX12_ask_43 : decode cX12_ask 43 = .ok (.iload_n 1, 1) := by decide +kernel
theorem dX12_ask_44 : decode cX12_ask 44 = .ok (.iload_n 3, 1) := by decide +kernel
theorem dX12_ask_45 : decode cX12_ask 45 = .ok (.invokevirtual 243, 3) := by decide +kernel
theorem dX12_ask_48 : decode cX12_ask 48 = .ok (.ireturn, 1) := by decide +kernel
theorem dX12_ask_49 : decode cX12_ask 49 = .ok (.iload_n 3, 1) := by decide +kernel
theorem dX12_ask_50 : decode cX12_ask 50 = .ok (.iconst 3, 1) := by decide +kernel
theorem dX12_ask_51 : decode cX12_ask 51 = .ok (.if_icmp .eq 10, 3) := by decide +kernel
theorem dX12_ask_54 : decode cX12_ask 54 = .ok (.aload_n 0, 1) := by decide +kernel
theorem dX12_ask_55 : decode cX12_ask 55 = .ok (.iload_n 1, 1) := by decide +kernel
theorem dX12_ask_56 : decode cX12_ask 56 = .ok (.iload_n 3, 1) := by decide +kernel
theorem dX12_ask_57 : decode cX12_ask 57 = .ok (.invokevirtual 240, 3) := by decide +kernel
theorem dX12_ask_60 : decode cX12_ask 60 = .ok (.ireturn, 1) := by decide +kernel
theorem dX12_ask_61 : decode cX12_ask 61 = .ok (.aload_n 0, 1) := by decide +kernel
theorem dX12_ask_62 : decode cX12_ask 62 = .ok (.bipush 13, 2) := by decide +kernel
theorem dX12_ask_64 : decode cX12_ask 64 = .ok (.invokevirtual 236, 3) := by decide +kernel
theorem dX12_ask_67 : decode cX12_ask 67 = .ok (.aload_n 0, 1) := by decide +kernel
theorem dX12_ask_68 : decode cX12_ask 68 = .ok (.bipush 10, 2) := by decide +kernel
theorem dX12_ask_70 : decode cX12_ask 70 = .ok (.invokevirtual 236, 3) := by decide +kernel
theorem dX12_ask_73 : decode cX12_ask 73 = .ok (.aload_n 0, 1) := by decide +kernel
theorem dX12_ask_74 : decode cX12_ask 74 = .ok (.getfield 31, 3) := by decide +kernel
theorem dX12_ask_77 : decode cX12_ask 77 = .ok (.iload_n 1, 1) := by decide +kernel
theorem dX12_ask_78 : decode cX12_ask 78 = .ok (.iaload, 1) := by decide +kernel
theorem dX12_ask_79 : decode cX12_ask 79 = .ok (.aload_n 0, 1) := by decide +kernel
theorem dX12_ask_80 : decode cX12_ask 80 = .ok (.iload_n 1, 1) := by decide +kernel
theorem dX12_ask_81 : decode cX12_ask 81 = .ok (.iload_n 3, 1) := by decide +kernel
theorem dX12_ask_82 : decode cX12_ask 82 = .ok (.invokevirtual 243, 3) := by decide +kernel
theorem dX12_ask_85 : decode cX12_ask 85 = .ok (.isub, 1) := by decide +kernel
theorem dX12_ask_86 : decode cX12_ask 86 = .ok (.ireturn, 1) := by decide +kernel
theorem dX12_trace_0 : decode cX12_trace 0 = .ok (.aload_n 0, 1) := by decide +kernel
theorem dX12_trace_1 : decode cX12_trace 1 = .ok (.iconst 0, 1) := by decide +kernel
theorem dX12_trace_2 : decode cX12_trace 2 = .ok (.putfield 59, 3) := by decide +kernel
theorem dX12_trace_5 : decode cX12_trace 5 = .ok (.iload_n 1, 1) := by decide +kernel
theorem dX12_trace_6 : decode cX12_trace 6 = .ok (.i2l, 1) := by decide +kernel
theorem dX12_trace_7 : decode cX12_trace 7 = .ok (.lconst 0, 1) := by decide +kernel
theorem dX12_trace_8 : decode cX12_trace 8 = .ok (.aload_n 0, 1) := by decide +kernel
theorem dX12_trace_9 : decode cX12_trace 9 = .ok (.getfield 233, 3) := by decide +kernel
theorem dX12_trace_12 : decode cX12_trace 12 = .ok (.iconst 1, 1) := by decide +kernel
theorem dX12_trace_13 : decode cX12_trace 13 = .ok (.isub, 1) := by decide +kernel
theorem dX12_trace_14 : decode cX12_trace 14 = .ok (.i2l, 1) := by decide +kernel
theorem dX12_trace_15 : decode cX12_trace 15 = .ok (.invokestatic 69, 3) := by decide +kernel
theorem dX12_trace_18 : decode cX12_trace 18 = .ok (.ifCond .eq 12, 3) := by decide +kernel
theorem dX12_trace_21 : decode cX12_trace 21 = .ok (.aload_n 0, 1) := by decide +kernel
theorem dX12_trace_22 : decode cX12_trace 22 = .ok (.getfield 56, 3) := by decide +kernel
theorem dX12_trace_25 : decode cX12_trace 25 = .ok (.iload_n 1, 1) := by decide +kernel
theorem dX12_trace_26 : decode cX12_trace 26 = .ok (.iaload, 1) := by decide +kernel
theorem dX12_trace_27 : decode cX12_trace 27 = .ok (.goto 5, 3) := by decide +kernel
theorem dX12_trace_30 : decode cX12_trace 30 = .ok (.ldc 149, 2) := by decide +kernel
theorem dX12_trace_32 : decode cX12_trace 32 = .ok (.ireturn, 1) := by decide +kernel
theorem dX12_count_0 : decode cX12_count 0 = .ok (.aload_n 0, 1) := by decide +kernel
theorem dX12_count_1 : decode cX12_count 1 = .ok (.iconst 0, 1) := by decide +kernel
theorem dX12_count_2 : decode cX12_count 2 = .ok (.putfield 59, 3) := by decide +kernel
theorem dX12_count_5 : decode cX12_count 5 = .ok (.iconst 0, 1) := by decide +kernel
theorem dX12_count_6 : decode cX12_count 6 = .ok (.istore_n 2, 1) := by decide +kernel
theorem dX12_count_7 : decode cX12_count 7 = .ok (.iload_n 1, 1) := by decide +kernel
theorem dX12_count_8 : decode cX12_count 8 = .ok (.tableswitch 268 0 7 #[48, 81, 86, 86, 86, 126, 160, 235], 48) := by decide +kernel
theorem dX12_count_56 : decode cX12_count 56 = .ok (.iconst 0, 1) := by decide +kernel
theorem dX12_count_57 : decode cX12_count 57 = .ok (.istore_n 3, 1) := by decide +kernel
theorem dX12_count_58 : decode cX12_count 58 = .ok (.iload_n 3, 1) := by decide +kernel
theorem dX12_count_59 : decode cX12_count 59 = .ok (.bipush 8, 2) := by decide +kernel
theorem dX12_count_61 : decode cX12_count 61 = .ok (.if_icmp .ge 26, 3) := by decide +kernel
theorem dX12_count_64 : decode cX12_count 64 = .ok (.iload_n 2, 1) := by decide +kernel
theorem dX12_count_65 : decode cX12_count 65 = .ok (.aload_n 0, 1) := by decide +kernel
theorem dX12_count_66 : decode cX12_count 66 = .ok (.getfield 7, 3) := by decide +kernel
theorem dX12_count_69 : decode cX12_count 69 = .ok (.iload_n 3, 1) := by decide +kernel
theorem dX12_count_70 : decode cX12_count 70 = .ok (.iaload, 1) := by decide +kernel
theorem dX12_count_71 : decode cX12_count 71 = .ok (.ifCond .lt 7, 3) := by decide +kernel
theorem dX12_count_74 : decode cX12_count 74 = .ok (.iconst 1, 1) := by decide +kernel
theorem dX12_count_75 : decode cX12_count 75 = .ok (.goto 4, 3) := by decide +kernel
theorem dX12_count_78 : decode cX12_count 78 = .ok (.iconst 0, 1) := by decide +kernel
theorem dX12_count_79 : decode cX12_count 79 = .ok (.iadd, 1) := by decide +kernel
theorem dX12_count_80 : decode cX12_count 80 = .ok (.istore_n 2, 1) := by decide +kernel
theorem dX12_count_81 : decode cX12_count 81 = .ok (.iinc 3 1, 3) := by decide +kernel
theorem dX12_count_84 : decode cX12_count 84 = .ok (.goto (-26), 3) := by decide +kernel
theorem dX12_count_87 : decode cX12_count 87 = .ok (.iload_n 2, 1) := by decide +kernel
theorem dX12_count_88 : decode cX12_count 88 = .ok (.ireturn, 1) := by decide +kernel
theorem dX12_count_89 : decode cX12_count 89 = .ok (.aload_n 0, 1) := by decide +kernel
theorem dX12_count_90 : decode cX12_count 90 = .ok (.getfield 102, 3) := by decide +kernel
theorem dX12_count_93 : decode cX12_count 93 = .ok (.ireturn, 1) := by decide +kernel
theorem dX12_count_94 : decode cX12_count 94 = .ok (.iconst 0, 1) := by decide +kernel
theorem dX12_count_95 : decode cX12_count 95 = .ok (.istore_n 3, 1) := by decide +kernel
theorem dX12_count_96 : decode cX12_count 96 = .ok (.iload_n 3, 1) := by decide +kernel
theorem dX12_count_97 : decode cX12_count 97 = .ok (.aload_n 0, 1) := by decide +kernel
theorem dX12_count_98 : decode cX12_count 98 = .ok (.getfield 102, 3) := by decide +kernel
theorem dX12_count_101 : decode cX12_count 101 = .ok (.if_icmp .ge 31, 3) := by decide +kernel
theorem dX12_count_104 : decode cX12_count 104 = .ok (.iload_n 2, 1) := by decide +kernel
theorem dX12_count_105 : decode cX12_count 105 = .ok (.aload_n 0, 1) := by decide +kernel
theorem dX12_count_106 : decode cX12_count 106 = .ok (.iload_n 3, 1) := by decide +kernel
theorem dX12_count_107 : decode cX12_count 107 = .ok (.invokevirtual 227, 3) := by decide +kernel
theorem dX12_count_110 : decode cX12_count 110 = .ok (.iload_n 1, 1) := by decide +kernel
theorem dX12_count_111 : decode cX12_count 111 = .ok (.iconst 1, 1) := by decide +kernel
theorem dX12_count_112 : decode cX12_count 112 = .ok (.isub, 1) := by decide +kernel
theorem dX12_count_113 : decode cX12_count 113 = .ok (.invokestatic 230, 3) := by decide +kernel
theorem dX12_count_116 : decode cX12_count 116 = .ok (.ifCond .eq 7, 3) := by decide +kernel
theorem dX12_count_119 : decode cX12_count 119 = .ok (.iconst 1, 1) := by decide +kernel
theorem dX12_count_120 : decode cX12_count 120 = .ok (.goto 4, 3) := by decide +kernel
theorem dX12_count_123 : decode cX12_count 123 = .ok (.iconst 0, 1) := by decide +kernel
theorem dX12_count_124 : decode cX12_count 124 = .ok (.iadd, 1) := by decide +kernel
theorem dX12_count_125 : decode cX12_count 125 = .ok (.istore_n 2, 1) := by decide +kernel
theorem dX12_count_126 : decode cX12_count 126 = .ok (.iinc 3 1, 3) := by decide +kernel
theorem dX12_count_129 : decode cX12_count 129 = .ok (.goto (-33), 3) := by decide +kernel
theorem dX12_count_132 : decode cX12_count 132 = .ok (.iload_n 2, 1) := by decide +kernel
theorem dX12_count_133 : decode cX12_count 133 = .ok (.ireturn, 1) := by decide +kernel
theorem dX12_count_134 : decode cX12_count 134 = .ok (.iconst 0, 1) := by decide +kernel
theorem dX12_count_135 : decode cX12_count 135 = .ok (.istore_n 3, 1) := by decide +kernel
theorem dX12_count_136 : decode cX12_count 136 = .ok (.iload_n 3, 1) := by decide +kernel
theorem dX12_count_137 : decode cX12_count 137 = .ok (.sipush 192, 3) := by decide +kernel
theorem dX12_count_140 : decode cX12_count 140 = .ok (.if_icmp .ge 26, 3) := by decide +kernel
theorem dX12_count_143 : decode cX12_count 143 = .ok (.iload_n 2, 1) := by decide +kernel
theorem dX12_count_144 : decode cX12_count 144 = .ok (.aload_n 0, 1) := by decide +kernel
theorem dX12_count_145 : decode cX12_count 145 = .ok (.getfield 34, 3) := by decide +kernel
theorem dX12_count_148 : decode cX12_count 148 = .ok (.iload_n 3, 1) := by decide +kernel
theorem dX12_count_149 : decode cX12_count 149 = .ok (.baload, 1) := by decide +kernel
theorem dX12_count_150 : decode cX12_count 150 = .ok (.ifCond .eq 7, 3) := by decide +kernel
theorem dX12_count_153 : decode cX12_count 153 = .ok (.iconst 1, 1) := by decide +kernel
theorem dX12_count_154 : decode cX12_count 154 = .ok (.goto 4, 3) := by decide +kernel
theorem dX12_count_157 : decode cX12_count 157 = .ok (.iconst 0, 1) := by decide +kernel
theorem dX12_count_158 : decode cX12_count 158 = .ok (.iadd, 1) := by decide +kernel
theorem dX12_count_159 : decode cX12_count 159 = .ok (.istore_n 2, 1) := by decide +kernel
theorem dX12_count_160 : decode cX12_count 160 = .ok (.iinc 3 1, 3) := by decide +kernel
theorem dX12_count_163 : decode cX12_count 163 = .ok (.goto (-27), 3) := by decide +kernel
theorem dX12_count_166 : decode cX12_count 166 = .ok (.iload_n 2, 1) := by decide +kernel
theorem dX12_count_167 : decode cX12_count 167 = .ok (.ireturn, 1) := by decide +kernel
theorem dX12_count_168 : decode cX12_count 168 = .ok (.iconst 0, 1) := by decide +kernel
theorem dX12_count_169 : decode cX12_count 169 = .ok (.istore_n 3, 1) := by decide +kernel
theorem dX12_count_170 : decode cX12_count 170 = .ok (.iload_n 3, 1) := by decide +kernel
theorem dX12_count_171 : decode cX12_count 171 = .ok (.bipush 8, 2) := by decide +kernel
theorem dX12_count_173 : decode cX12_count 173 = .ok (.if_icmp .ge 68, 3) := by decide +kernel
theorem dX12_count_176 : decode cX12_count 176 = .ok (.iconst 0, 1) := by decide +kernel
theorem dX12_count_177 : decode cX12_count 177 = .ok (.istore 4, 2) := by decide +kernel
theorem dX12_count_179 : decode cX12_count 179 = .ok (.iconst 0, 1) := by decide +kernel
theorem dX12_count_180 : decode cX12_count 180 = .ok (.istore 5, 2) := by decide +kernel
theorem dX12_count_182 : decode cX12_count 182 = .ok (.iload 5, 2) := by decide +kernel
theorem dX12_count_184 : decode cX12_count 184 = .ok (.bipush 24, 2) := by decide +kernel
theorem dX12_count_186 : decode cX12_count 186 = .ok (.if_icmp .ge 36, 3) := by decide +kernel
theorem dX12_count_189 : decode cX12_count 189 = .ok (.iload 4, 2) := by decide +kernel
theorem dX12_count_191 : decode cX12_count 191 = .ok (.ifCond .ne 18, 3) := by decide +kernel
theorem dX12_count_194 : decode cX12_count 194 = .ok (.aload_n 0, 1) := by decide +kernel
theorem dX12_count_195 : decode cX12_count 195 = .ok (.getfield 34, 3) := by decide +kernel
theorem dX12_count_198 : decode cX12_count 198 = .ok (.bipush 24, 2) := by decide +kernel
theorem dX12_count_200 : decode cX12_count 200 = .ok (.iload_n 3, 1) := by decide +kernel
theorem dX12_count_201 : decode cX12_count 201 = .ok (.imul, 1) := by decide +kernel
theorem dX12_count_202 : decode cX12_count 202 = .ok (.iload 5, 2) := by decide +kernel
theorem dX12_count_204 : decode cX12_count 204 = .ok (.iadd, 1) := by decide +kernel
theorem dX12_count_205 : decode cX12_count 205 = .ok (.baload, 1) := by decide +kernel
theorem dX12_count_206 : decode cX12_count 206 = .ok (.ifCond .eq 7, 3) := by decide +kernel
theorem dX12_count_209 : decode cX12_count 209 = .ok (.iconst 1, 1) := by decide +kernel
theorem dX12_count_210 : decode cX12_count 210 = .ok (.goto 4, 3) := by decide +kernel
theorem dX12_count_213 : decode cX12_count 213 = .ok (.iconst 0, 1) := by decide +kernel
theorem dX12_count_214 : decode cX12_count 214 = .ok (.istore 4, 2) := by decide +kernel
theorem dX12_count_216 : decode cX12_count 216 = .ok (.iinc 5 1, 3) := by decide +kernel
theorem dX12_count_219 : decode cX12_count 219 = .ok (.goto (-37), 3) := by decide +kernel
theorem dX12_count_222 : decode cX12_count 222 = .ok (.iload_n 2, 1) := by decide +kernel
theorem dX12_count_223 : decode cX12_count 223 = .ok (.iload 4, 2) := by decide +kernel
theorem dX12_count_225 : decode cX12_count 225 = .ok (.ifCond .eq 7, 3) := by decide +kernel
theorem dX12_count_228 : decode cX12_count 228 = .ok (.iconst 1, 1) := by decide +kernel
theorem dX12_count_229 : decode cX12_count 229 = .ok (.goto 4, 3) := by decide +kernel
theorem dX12_count_232 : decode cX12_count 232 = .ok (.iconst 0, 1) := by decide +kernel
theorem dX12_count_233 : decode cX12_count 233 = .ok (.iadd, 1) := by decide +kernel
theorem dX12_count_234 : decode cX12_count 234 = .ok (.istore_n 2, 1) := by decide +kernel
theorem dX12_count_235 : decode cX12_count 235 = .ok (.iinc 3 1, 3) := by decide +kernel
theorem dX12_count_238 : decode cX12_count 238 = .ok (.goto (-68), 3) := by decide +kernel
theorem dX12_count_241 : decode cX12_count 241 = .ok (.iload_n 2, 1) := by decide +kernel
theorem dX12_count_242 : decode cX12_count 242 = .ok (.ireturn, 1) := by decide +kernel
theorem dX12_count_243 : decode cX12_count 243 = .ok (.iconst 0, 1) := by decide +kernel
theorem dX12_count_244 : decode cX12_count 244 = .ok (.istore_n 3, 1) := by decide +kernel
theorem dX12_count_245 : decode cX12_count 245 = .ok (.iload_n 3, 1) := by decide +kernel
theorem dX12_count_246 : decode cX12_count 246 = .ok (.bipush 17, 2) := by decide +kernel
theorem dX12_count_248 : decode cX12_count 248 = .ok (.if_icmp .ge 26, 3) := by decide +kernel
theorem dX12_count_251 : decode cX12_count 251 = .ok (.iload_n 2, 1) := by decide +kernel
theorem dX12_count_252 : decode cX12_count 252 = .ok (.aload_n 0, 1) := by decide +kernel
theorem dX12_count_253 : decode cX12_count 253 = .ok (.getfield 22, 3) := by decide +kernel
theorem dX12_count_256 : decode cX12_count 256 = .ok (.iload_n 3, 1) := by decide +kernel
theorem dX12_count_257 : decode cX12_count 257 = .ok (.iaload, 1) := by decide +kernel
theorem dX12_count_258 : decode cX12_count 258 = .ok (.ifCond .eq 7, 3) := by decide +kernel
theorem dX12_count_261 : decode cX12_count 261 = .ok (.iconst 1, 1) := by decide +kernel
theorem dX12_count_262 : decode cX12_count 262 = .ok (.goto 4, 3) := by decide +kernel
theorem dX12_count_265 : decode cX12_count 265 = .ok (.iconst 0, 1) := by decide +kernel
theorem dX12_count_266 : decode cX12_count 266 = .ok (.iadd, 1) := by decide +kernel
theorem dX12_count_267 : decode cX12_count 267 = .ok (.istore_n 2, 1) := by decide +kernel
theorem dX12_count_268 : decode cX12_count 268 = .ok (.iinc 3 1, 3) := by decide +kernel
theorem dX12_count_271 : decode cX12_count 271 = .ok (.goto (-26), 3) := by decide +kernel
theorem dX12_count_274 : decode cX12_count 274 = .ok (.iload_n 2, 1) := by decide +kernel
theorem dX12_count_275 : decode cX12_count 275 = .ok (.ireturn, 1) := by decide +kernel
theorem dX12_count_276 : decode cX12_count 276 = .ok (.ldc 79, 2) := by decide +kernel
theorem dX12_count_278 : decode cX12_count 278 = .ok (.ireturn, 1) := by decide +kernel
theorem dX12_status_0 : decode cX12_status 0 = .ok (.aload_n 0, 1) := by decide +kernel
theorem dX12_status_1 : decode cX12_status 1 = .ok (.iconst 0, 1) := by decide +kernel
theorem dX12_status_2 : decode cX12_status 2 = .ok (.putfield 59, 3) := by decide +kernel
theorem dX12_status_5 : decode cX12_status 5 = .ok (.aload_n 0, 1) := by decide +kernel
theorem dX12_status_6 : decode cX12_status 6 = .ok (.getfield 63, 3) := by decide +kernel
theorem dX12_status_9 : decode cX12_status 9 = .ok (.ireturn, 1) := by decide +kernel
end
section
theorem dL_law_0 : decode cL_law 0 = .ok (.new 7, 3) := by decide +kernel
theorem dL_law_3 : decode cL_law 3 = .ok (.dup, 1) := by decide +kernel
theorem dL_law_4 : decode cL_law 4 = .ok (.invokespecial 9, 3) := by decide +kernel
theorem dL_law_7 : decode cL_law 7 = .ok (.astore_n 1, 1) := by decide +kernel
theorem dL_law_8 : decode cL_law 8 = .ok (.new 10, 3) := by decide +kernel
theorem dL_law_11 : decode cL_law 11 = .ok (.dup, 1) := by decide +kernel
theorem dL_law_12 : decode cL_law 12 = .ok (.invokespecial 12, 3) := by decide +kernel
theorem dL_law_15 : decode cL_law 15 = .ok (.astore_n 2, 1) := by decide +kernel
theorem dL_law_16 : decode cL_law 16 = .ok (.iconst 0, 1) := by decide +kernel
theorem dL_law_17 : decode cL_law 17 = .ok (.istore_n 3, 1) := by decide +kernel
theorem dL_law_18 : decode cL_law 18 = .ok (.iload_n 3, 1) := by decide +kernel
theorem dL_law_19 : decode cL_law 19 = .ok (.aload_n 0, 1) := by decide +kernel
theorem dL_law_20 : decode cL_law 20 = .ok (.arraylength, 1) := by decide +kernel
theorem dL_law_21 : decode cL_law 21 = .ok (.bipush 8, 2) := by decide +kernel
theorem dL_law_23 : decode cL_law 23 = .ok (.isub, 1) := by decide +kernel
theorem dL_law_24 : decode cL_law 24 = .ok (.if_icmp .gt 1490, 3) := by decide +kernel
theorem dL_law_27 : decode cL_law 27 = .ok (.aload_n 0, 1) := by decide +kernel
theorem dL_law_28 : decode cL_law 28 = .ok (.iload_n 3, 1) := by decide +kernel
theorem dL_law_29 : decode cL_law 29 = .ok (.iaload, 1) := by decide +kernel
theorem dL_law_30 : decode cL_law 30 = .ok (.bipush 63, 2) := by decide +kernel
theorem dL_law_32 : decode cL_law 32 = .ok (.iand, 1) := by decide +kernel
theorem dL_law_33 : decode cL_law 33 = .ok (.tableswitch 1475 0 32 #[147, 190, 233, 296, 319, 352, 385, 408, 451, 504, 537, 570, 583, 636, 669, 692, 735, 778, 811, 854, 917, 961, 1005, 1059, 1146, 1221, 1274, 1327, 1350, 1383, 1416, 1439, 1462], 147) := by decide +kernel
theorem dL_law_180 : decode cL_law 180 = .ok (.aload_n 1, 1) := by decide +kernel
theorem dL_law_181 : decode cL_law 181 = .ok (.aload_n 0, 1) := by decide +kernel
theorem dL_law_182 : decode cL_law 182 = .ok (.iload_n 3, 1) := by decide +kernel
theorem dL_law_183 : decode cL_law 183 = .ok (.iconst 1, 1) := by decide +kernel
theorem dL_law_184 : decode cL_law 184 = .ok (.iadd, 1) := by decide +kernel
theorem dL_law_185 : decode cL_law 185 = .ok (.iaload, 1) := by decide +kernel
theorem dL_law_186 : decode cL_law 186 = .ok (.aload_n 0, 1) := by decide +kernel
theorem dL_law_187 : decode cL_law 187 = .ok (.iload_n 3, 1) := by decide +kernel
theorem dL_law_188 : decode cL_law 188 = .ok (.iconst 2, 1) := by decide +kernel
theorem dL_law_189 : decode cL_law 189 = .ok (.iadd, 1) := by decide +kernel
theorem dL_law_190 : decode cL_law 190 = .ok (.iaload, 1) := by decide +kernel
theorem dL_law_191 : decode cL_law 191 = .ok (.aload_n 0, 1) := by decide +kernel
theorem dL_law_192 : decode cL_law 192 = .ok (.iload_n 3, 1) := by decide +kernel
theorem dL_law_193 : decode cL_law 193 = .ok (.iconst 3, 1) := by decide +kernel
theorem dL_law_194 : decode cL_law 194 = .ok (.iadd, 1) := by decide +kernel
theorem dL_law_195 : decode cL_law 195 = .ok (.iaload, 1) := by decide +kernel
theorem dL_law_196 : decode cL_law 196 = .ok (.invokevirtual 13, 3) := by decide +kernel
theorem dL_law_199 : decode cL_law 199 = .ok (.aload_n 2, 1) := by decide +kernel
theorem dL_law_200 : decode cL_law 200 = .ok (.aload_n 0, 1) := by decide +kernel
theorem dL_law_201 : decode cL_law 201 = .ok (.iload_n 3, 1) := by decide +kernel
theorem dL_law_202 : decode cL_law 202 = .ok (.iconst 1, 1) := by decide +kernel
theorem dL_law_203 : decode cL_law 203 = .ok (.iadd, 1) := by decide +kernel
theorem dL_law_204 : decode cL_law 204 = .ok (.iaload, 1) := by decide +kernel
theorem dL_law_205 : decode cL_law 205 = .ok (.aload_n 0, 1) := by decide +kernel
theorem dL_law_206 : decode cL_law 206 = .ok (.iload_n 3, 1) := by decide +kernel
theorem dL_law_207 : decode cL_law 207 = .ok (.iconst 2, 1) := by decide +kernel
theorem dL_law_208 : decode cL_law 208 = .ok (.iadd, 1) := by decide +kernel
theorem dL_law_209 : decode cL_law 209 = .ok (.iaload, 1) := by decide +kernel
theorem dL_law_210 : decode cL_law 210 = .ok (.aload_n 0, 1) := by decide +kernel
theorem dL_law_211 : decode cL_law 211 = .ok (.iload_n 3, 1) := by decide +kernel
theorem dL_law_212 : decode cL_law 212 = .ok (.iconst 3, 1) := by decide +kernel
theorem dL_law_213 : decode cL_law 213 = .ok (.iadd, 1) := by decide +kernel
theorem dL_law_214 : decode cL_law 214 = .ok (.iaload, 1) := by decide +kernel
theorem dL_law_215 : decode cL_law 215 = .ok (.invokevirtual 17, 3) := by decide +kernel
theorem dL_law_218 : decode cL_law 218 = .ok (.if_icmp .eq 1290, 3) := by decide +kernel
theorem dL_law_221 : decode cL_law 221 = .ok (.iconst 0, 1) := by decide +kernel
theorem dL_law_222 : decode cL_law 222 = .ok (.ireturn, 1) := by decide +kernel
theorem dL_law_223 : decode cL_law 223 = .ok (.aload_n 1, 1) := by decide +kernel
theorem dL_law_224 : decode cL_law 224 = .ok (.aload_n 0, 1) := by decide +kernel
theorem dL_law_225 : decode cL_law 225 = .ok (.iload_n 3, 1) := by decide +kernel
theorem dL_law_226 : decode cL_law 226 = .ok (.iconst 1, 1) := by decide +kernel
theorem dL_law_227 : decode cL_law 227 = .ok (.iadd, 1) := by decide +kernel
theorem dL_law_228 : decode cL_law 228 = .ok (.iaload, 1) := by decide +kernel
theorem dL_law_229 : decode cL_law 229 = .ok (.aload_n 0, 1) := by decide +kernel
theorem dL_law_230 : decode cL_law 230 = .ok (.iload_n 3, 1) := by decide +kernel
theorem dL_law_231 : decode cL_law 231 = .ok (.iconst 2, 1) := by decide +kernel
theorem dL_law_232 : decode cL_law 232 = .ok (.iadd, 1) := by decide +kernel
theorem dL_law_233 : decode cL_law 233 = .ok (.iaload, 1) := by decide +kernel
theorem dL_law_234 : decode cL_law 234 = .ok (.aload_n 0, 1) := by decide +kernel
theorem dL_law_235 : decode cL_law 235 = .ok (.iload_n 3, 1) := by decide +kernel
theorem dL_law_236 : decode cL_law 236 = .ok (.iconst 3, 1) := by decide +kernel
theorem dL_law_237 : decode cL_law 237 = .ok (.iadd, 1) := by decide +kernel
theorem dL_law_238 : decode cL_law 238 = .ok (.iaload, 1) := by decide +kernel
theorem dL_law_239 : decode cL_law 239 = .ok (.invokevirtual 18, 3) := by decide +kernel
theorem dL_law_242 : decode cL_law 242 = .ok (.aload_n 2, 1) := by decide +kernel
theorem dL_law_243 : decode cL_law 243 = .ok (.aload_n 0, 1) := by decide +kernel
theorem dL_law_244 : decode cL_law 244 = .ok (.iload_n 3, 1) := by decide +kernel
theorem dL_law_245 : decode cL_law 245 = .ok (.iconst 1, 1) := by decide +kernel
theorem dL_law_246 : decode cL_law 246 = .ok (.iadd, 1) := by decide +kernel
theorem dL_law_247 : decode cL_law 247 = .ok (.iaload, 1) := by decide +kernel
theorem dL_law_248 : decode cL_law 248 = .ok (.aload_n 0, 1) := by decide +kernel
theorem dL_law_249 : decode cL_law 249 = .ok (.iload_n 3, 1) := by decide +kernel
theorem dL_law_250 : decode cL_law 250 = .ok (.iconst 2, 1) := by decide +kernel
theorem dL_law_251 : decode cL_law 251 = .ok (.iadd, 1) := by decide +kernel
theorem dL_law_252 : decode cL_law 252 = .ok (.iaload, 1) := by decide +kernel
theorem dL_law_253 : decode cL_law 253 = .ok (.aload_n 0, 1) := by decide +kernel
theorem dL_law_254 : decode cL_law 254 = .ok (.iload_n 3, 1) := by decide +kernel
theorem dL_law_255 : decode cL_law 255 = .ok (.iconst 3, 1) := by decide +kernel
theorem dL_law_256 : decode cL_law 256 = .ok (.iadd, 1) := by decide +kernel
theorem dL_law_257 : decode cL_law 257 = .ok (.iaload, 1) := by decide +kernel
theorem dL_law_258 : decode cL_law 258 = .ok (.invokevirtual 21, 3) := by decide +kernel
theorem dL_law_261 : decode cL_law 261 = .ok (.if_icmp .eq 1247, 3) := by decide +kernel
theorem dL_law_264 : decode cL_law 264 = .ok (.iconst 0, 1) := by decide +kernel
theorem dL_law_265 : decode cL_law 265 = .ok (.ireturn, 1) := by decide +kernel
theorem dL_law_266 : decode cL_law 266 = .ok (.aload_n 1, 1) := by decide +kernel
theorem dL_law_267 : decode cL_law 267 = .ok (.aload_n 0, 1) := by decide +kernel
theorem dL_law_268 : decode cL_law 268 = .ok (.iload_n 3, 1) := by decide +kernel
theorem dL_law_269 : decode cL_law 269 = .ok (.iconst 1, 1) := by decide +kernel
theorem dL_law_270 : decode cL_law 270 = .ok (.iadd, 1) := by decide +kernel
theorem dL_law_271 : decode cL_law 271 = .ok (.iaload, 1) := by decide +kernel
theorem dL_law_272 : decode cL_law 272 = .ok (.aload_n 0, 1) := by decide +kernel
theorem dL_law_273 : decode cL_law 273 = .ok (.iload_n 3, 1) := by decide +kernel
theorem dL_law_274 : decode cL_law 274 = .ok (.iconst 2, 1) := by decide +kernel
theorem dL_law_275 : decode cL_law 275 = .ok (.iadd, 1) := by decide +kernel
theorem dL_law_276 : decode cL_law 276 = .ok (.iaload, 1) := by decide +kernel
theorem dL_law_277 : decode cL_law 277 = .ok (.aload_n 0, 1) := by decide +kernel
theorem dL_law_278 : decode cL_law 278 = .ok (.iload_n 3, 1) := by decide +kernel
theorem dL_law_279 : decode cL_law 279 = .ok (.iconst 3, 1) := by decide +kernel
theorem dL_law_280 : decode cL_law 280 = .ok (.iadd, 1) := by decide +kernel
theorem dL_law_281 : decode cL_law 281 = .ok (.iaload, 1) := by decide +kernel
theorem dL_law_282 : decode cL_law 282 = .ok (.aload_n 0, 1) := by decide +kernel
theorem dL_law_283 : decode cL_law 283 = .ok (.iload_n 3, 1) := by decide +kernel
theorem dL_law_284 : decode cL_law 284 = .ok (.iconst 4, 1) := by decide +kernel
theorem dL_law_285 : decode cL_law 285 = .ok (.iadd, 1) := by decide +kernel
theorem dL_law_286 : decode cL_law 286 = .ok (.iaload, 1) := by decide +kernel
theorem dL_law_287 : decode cL_law 287 = .ok (.aload_n 0, 1) := by decide +kernel
theorem dL_law_288 : decode cL_law 288 = .ok (.iload_n 3, 1) := by decide +kernel
theorem dL_law_289 : decode cL_law 289 = .ok (.iconst 5, 1) := by decide +kernel
theorem dL_law_290 : decode cL_law 290 = .ok (.iadd, 1) := by decide +kernel
theorem dL_law_291 : decode cL_law 291 = .ok (.iaload, 1) := by decide +kernel
theorem dL_law_292 : decode cL_law 292 = .ok (.invokevirtual 22, 3) := by decide +kernel
theorem dL_law_295 : decode cL_law 295 = .ok (.aload_n 2, 1) := by decide +kernel
theorem dL_law_296 : decode cL_law 296 = .ok (.aload_n 0, 1) := by decide +kernel
theorem dL_law_297 : decode cL_law 297 = .ok (.iload_n 3, 1) := by decide +kernel
theorem dL_law_298 : decode cL_law 298 = .ok (.iconst 1, 1) := by decide +kernel
theorem dL_law_299 : decode cL_law 299 = .ok (.iadd, 1) := by decide +kernel
theorem dL_law_300 : decode cL_law 300 = .ok (.iaload, 1) := by decide +kernel
theorem dL_law_301 : decode cL_law 301 = .ok (.aload_n 0, 1) := by decide +kernel
theorem dL_law_302 : decode cL_law 302 = .ok (.iload_n 3, 1) := by decide +kernel
theorem dL_law_303 : decode cL_law 303 = .ok (.iconst 2, 1) := by decide +kernel
theorem dL_law_304 : decode cL_law 304 = .ok (.iadd, 1) := by decide +kernel
theorem dL_law_305 : decode cL_law 305 = .ok (.iaload, 1) := by decide +kernel
theorem dL_law_306 : decode cL_law 306 = .ok (.aload_n 0, 1) := by decide +kernel
theorem dL_law_307 : decode cL_law 307 = .ok (.iload_n 3, 1) := by decide +kernel
theorem dL_law_308 : decode cL_law 308 = .ok (.iconst 3, 1) := by decide +kernel
theorem dL_law_309 : decode cL_law 309 = .ok (.iadd, 1) := by decide +kernel
theorem dL_law_310 : decode cL_law 310 = .ok (.iaload, 1) := by decide +kernel
theorem dL_law_311 : decode cL_law 311 = .ok (.aload_n 0, 1) := by decide +kernel
theorem dL_law_312 : decode cL_law 312 = .ok (.iload_n 3, 1) := by decide +kernel
theorem dL_law_313 : decode cL_law 313 = .ok (.iconst 4, 1) := by decide +kernel
theorem dL_law_314 : decode cL_law 314 = .ok (.iadd, 1) := by decide +kernel
theorem dL_law_315 : decode cL_law 315 = .ok (.iaload, 1) := by decide +kernel
theorem dL_law_316 : decode cL_law 316 = .ok (.aload_n 0, 1) := by decide +kernel
theorem dL_law_317 : decode cL_law 317 = .ok (.iload_n 3, 1) := by decide +kernel
theorem dL_law_318 : decode cL_law 318 = .ok (.iconst 5, 1) := by decide +kernel
theorem dL_law_319 : decode cL_law 319 = .ok (.iadd, 1) := by decide +kernel
theorem dL_law_320 : decode cL_law 320 = .ok (.iaload, 1) := by decide +kernel
theorem dL_law_321 : decode cL_law 321 = .ok (.invokevirtual 26, 3) := by decide +kernel
theorem dL_law_324 : decode cL_law 324 = .ok (.if_icmp .eq 1184, 3) := by decide +kernel
theorem dL_law_327 : decode cL_law 327 = .ok (.iconst 0, 1) := by decide +kernel
theorem dL_law_328 : decode cL_law 328 = .ok (.ireturn, 1) := by decide +kernel
theorem dL_law_329 : decode cL_law 329 = .ok (.aload_n 1, 1) := by decide +kernel
theorem dL_law_330 : decode cL_law 330 = .ok (.aload_n 0, 1) := by decide +kernel
theorem dL_law_331 : decode cL_law 331 = .ok (.iload_n 3, 1) := by decide +kernel
theorem dL_law_332 : decode cL_law 332 = .ok (.iconst 1, 1) := by decide +kernel
theorem dL_law_333 : decode cL_law 333 = .ok (.iadd, 1) := by decide +kernel
theorem dL_law_334 : decode cL_law 334 = .ok (.iaload, 1) := by decide +kernel
theorem dL_law_335 : decode cL_law 335 = .ok (.invokevirtual 27, 3) := by decide +kernel
theorem dL_law_338 : decode cL_law 338 = .ok (.aload_n 2, 1) := by decide +kernel
theorem dL_law_339 : decode cL_law 339 = .ok (.aload_n 0, 1) := by decide +kernel
theorem dL_law_340 : decode cL_law 340 = .ok (.iload_n 3, 1) := by decide +kernel
theorem dL_law_341 : decode cL_law 341 = .ok (.iconst 1, 1) := by decide +kernel
theorem dL_law_342 : decode cL_law 342 = .ok (.iadd, 1) := by decide +kernel
theorem dL_law_343 : decode cL_law 343 = .ok (.iaload, 1) := by decide +kernel
theorem dL_law_344 : decode cL_law 344 = .ok (.invokevirtual 31, 3) := by decide +kernel
theorem dL_law_347 : decode cL_law 347 = .ok (.if_icmp .eq 1161, 3) := by decide +kernel
theorem dL_law_350 : decode cL_law 350 = .ok (.iconst 0, 1) := by decide +kernel
theorem dL_law_351 : decode cL_law 351 = .ok (.ireturn, 1) := by decide +kernel
theorem dL_law_352 : decode cL_law 352 = .ok (.aload_n 1, 1) := by decide +kernel
theorem dL_law_353 : decode cL_law 353 = .ok (.aload_n 0, 1) := by decide +kernel
theorem dL_law_354 : decode cL_law 354 = .ok (.iload_n 3, 1) := by decide +kernel
theorem dL_law_355 : decode cL_law 355 = .ok (.iconst 1, 1) := by decide +kernel
theorem dL_law_356 : decode cL_law 356 = .ok (.iadd, 1) := by decide +kernel
theorem dL_law_357 : decode cL_law 357 = .ok (.iaload, 1) := by decide +kernel
theorem dL_law_358 : decode cL_law 358 = .ok (.aload_n 0, 1) := by decide +kernel
theorem dL_law_359 : decode cL_law 359 = .ok (.iload_n 3, 1) := by decide +kernel
theorem dL_law_360 : decode cL_law 360 = .ok (.iconst 2, 1) := by decide +kernel
theorem dL_law_361 : decode cL_law 361 = .ok (.iadd, 1) := by decide +kernel
theorem dL_law_362 : decode cL_law 362 = .ok (.iaload, 1) := by decide +kernel
theorem dL_law_363 : decode cL_law 363 = .ok (.invokevirtual 32, 3) := by decide +kernel
theorem dL_law_366 : decode cL_law 366 = .ok (.aload_n 2, 1) := by decide +kernel
theorem dL_law_367 : decode cL_law 367 = .ok (.aload_n 0, 1) := by decide +kernel
theorem dL_law_368 : decode cL_law 368 = .ok (.iload_n 3, 1) := by decide +kernel
theorem dL_law_369 : decode cL_law 369 = .ok (.iconst 1, 1) := by decide +kernel
theorem dL_law_370 : decode cL_law 370 = .ok (.iadd, 1) := by decide +kernel
theorem dL_law_371 : decode cL_law 371 = .ok (.iaload, 1) := by decide +kernel
theorem dL_law_372 : decode cL_law 372 = .ok (.aload_n 0, 1) := by decide +kernel
theorem dL_law_373 : decode cL_law 373 = .ok (.iload_n 3, 1) := by decide +kernel
theorem dL_law_374 : decode cL_law 374 = .ok (.iconst 2, 1) := by decide +kernel
theorem dL_law_375 : decode cL_law 375 = .ok (.iadd, 1) := by decide +kernel
theorem dL_law_376 : decode cL_law 376 = .ok (.iaload, 1) := by decide +kernel
theorem dL_law_377 : decode cL_law 377 = .ok (.invokevirtual 36, 3) := by decide +kernel
theorem dL_law_380 : decode cL_law 380 = .ok (.if_icmp .eq 1128, 3) := by decide +kernel
theorem dL_law_383 : decode cL_law 383 = .ok (.iconst 0, 1) := by decide +kernel
theorem dL_law_384 : decode cL_law 384 = .ok (.ireturn, 1) := by decide +kernel
theorem dL_law_385 : decode cL_law 385 = .ok (.aload_n 1, 1) := by decide +kernel
theorem dL_law_386 : decode cL_law 386 = .ok (.aload_n 0, 1) := by decide +kernel
theorem dL_law_387 : decode cL_law 387 = .ok (.iload_n 3, 1) := by decide +kernel
theorem dL_law_388 : decode cL_law 388 = .ok (.iconst 1, 1) := by decide +kernel
theorem dL_law_389 : decode cL_law 389 = .ok (.iadd, 1) := by decide +kernel
theorem dL_law_390 : decode cL_law 390 = .ok (.iaload, 1) := by decide +kernel
theorem dL_law_391 : decode cL_law 391 = .ok (.aload_n 0, 1) := by decide +kernel
theorem dL_law_392 : decode cL_law 392 = .ok (.iload_n 3, 1) := by decide +kernel
theorem dL_law_393 : decode cL_law 393 = .ok (.iconst 2, 1) := by decide +kernel
theorem dL_law_394 : decode cL_law 394 = .ok (.iadd, 1) := by decide +kernel
theorem dL_law_395 : decode cL_law 395 = .ok (.iaload, 1) := by decide +kernel
theorem dL_law_396 : decode cL_law 396 = .ok (.invokevirtual 37, 3) := by decide +kernel
theorem dL_law_399 : decode cL_law 399 = .ok (.aload_n 2, 1) := by decide +kernel
theorem dL_law_400 : decode cL_law 400 = .ok (.aload_n 0, 1) := by decide +kernel
theorem dL_law_401 : decode cL_law 401 = .ok (.iload_n 3, 1) := by decide +kernel
theorem dL_law_402 : decode cL_law 402 = .ok (.iconst 1, 1) := by decide +kernel
theorem dL_law_403 : decode cL_law 403 = .ok (.iadd, 1) := by decide +kernel
theorem dL_law_404 : decode cL_law 404 = .ok (.iaload, 1) := by decide +kernel
theorem dL_law_405 : decode cL_law 405 = .ok (.aload_n 0, 1) := by decide +kernel
theorem dL_law_406 : decode cL_law 406 = .ok (.iload_n 3, 1) := by decide +kernel
theorem dL_law_407 : decode cL_law 407 = .ok (.iconst 2, 1) := by decide +kernel
theorem dL_law_408 : decode cL_law 408 = .ok (.iadd, 1) := by decide +kernel
theorem dL_law_409 : decode cL_law 409 = .ok (.iaload, 1) := by decide +kernel
theorem dL_law_410 : decode cL_law 410 = .ok (.invokevirtual 40, 3) := by decide +kernel
theorem dL_law_413 : decode cL_law 413 = .ok (.if_icmp .eq 1095, 3) := by decide +kernel
theorem dL_law_416 : decode cL_law 416 = .ok (.iconst 0, 1) := by decide +kernel
theorem dL_law_417 : decode cL_law 417 = .ok (.ireturn, 1) := by decide +kernel
theorem dL_law_418 : decode cL_law 418 = .ok (.aload_n 1, 1) := by decide +kernel
theorem dL_law_419 : decode cL_law 419 = .ok (.aload_n 0, 1) := by decide +kernel
theorem dL_law_420 : decode cL_law 420 = .ok (.iload_n 3, 1) := by decide +kernel
theorem dL_law_421 : decode cL_law 421 = .ok (.iconst 1, 1) := by decide +kernel
theorem dL_law_422 : decode cL_law 422 = .ok (.iadd, 1) := by decide +kernel
theorem dL_law_423 : decode cL_law 423 = .ok (.iaload, 1) := by decide +kernel
theorem dL_law_424 : decode cL_law 424 = .ok (.invokevirtual 41, 3) := by decide +kernel
theorem dL_law_427 : decode cL_law 427 = .ok (.aload_n 2, 1) := by decide +kernel
theorem dL_law_428 : decode cL_law 428 = .ok (.aload_n 0, 1) := by decide +kernel
theorem dL_law_429 : decode cL_law 429 = .ok (.iload_n 3, 1) := by decide +kernel
theorem dL_law_430 : decode cL_law 430 = .ok (.iconst 1, 1) := by decide +kernel
theorem dL_law_431 : decode cL_law 431 = .ok (.iadd, 1) := by decide +kernel
theorem dL_law_432 : decode cL_law 432 = .ok (.iaload, 1) := by decide +kernel
theorem dL_law_433 : decode cL_law 433 = .ok (.invokevirtual 44, 3) := by decide +kernel
theorem dL_law_436 : decode cL_law 436 = .ok (.if_icmp .eq 1072, 3) := by decide +kernel
theorem dL_law_439 : decode cL_law 439 = .ok (.iconst 0, 1) := by decide +kernel
theorem dL_law_440 : decode cL_law 440 = .ok (.ireturn, 1) := by decide +kernel
theorem dL_law_441 : decode cL_law 441 = .ok (.aload_n 1, 1) := by decide +kernel
theorem dL_law_442 : decode cL_law 442 = .ok (.aload_n 0, 1) := by decide +kernel
theorem dL_law_443 : decode cL_law 443 = .ok (.iload_n 3, 1) := by decide +kernel
theorem dL_law_444 : decode cL_law 444 = .ok (.iconst 1, 1) := by decide +kernel
theorem dL_law_445 : decode cL_law 445 = .ok (.iadd, 1) := by decide +kernel
theorem dL_law_446 : decode cL_law 446 = .ok (.iaload, 1) := by decide +kernel
theorem dL_law_447 : decode cL_law 447 = .ok (.aload_n 0, 1) := by decide +kernel
theorem dL_law_448 : decode cL_law 448 = .ok (.iload_n 3, 1) := by decide +kernel
theorem dL_law_449 : decode cL_law 449 = .ok (.iconst 2, 1) := by decide +kernel
theorem dL_law_450 : decode cL_law 450 = .ok (.iadd, 1) := by decide +kernel
theorem dL_law_451 : decode cL_law 451 = .ok (.iaload, 1) := by decide +kernel
theorem dL_law_452 : decode cL_law 452 = .ok (.aload_n 0, 1) := by decide +kernel
theorem dL_law_453 : decode cL_law 453 = .ok (.iload_n 3, 1) := by decide +kernel
theorem dL_law_454 : decode cL_law 454 = .ok (.iconst 3, 1) := by decide +kernel
theorem dL_law_455 : decode cL_law 455 = .ok (.iadd, 1) := by decide +kernel
theorem dL_law_456 : decode cL_law 456 = .ok (.iaload, 1) := by decide +kernel
theorem dL_law_457 : decode cL_law 457 = .ok (.invokevirtual 45, 3) := by decide +kernel
theorem dL_law_460 : decode cL_law 460 = .ok (.aload_n 2, 1) := by decide +kernel
theorem dL_law_461 : decode cL_law 461 = .ok (.aload_n 0, 1) := by decide +kernel
theorem dL_law_462 : decode cL_law 462 = .ok (.iload_n 3, 1) := by decide +kernel
theorem dL_law_463 : decode cL_law 463 = .ok (.iconst 1, 1) := by decide +kernel
theorem dL_law_464 : decode cL_law 464 = .ok (.iadd, 1) := by decide +kernel
theorem dL_law_465 : decode cL_law 465 = .ok (.iaload, 1) := by decide +kernel
theorem dL_law_466 : decode cL_law 466 = .ok (.aload_n 0, 1) := by decide +kernel
theorem dL_law_467 : decode cL_law 467 = .ok (.iload_n 3, 1) := by decide +kernel
theorem dL_law_468 : decode cL_law 468 = .ok (.iconst 2, 1) := by decide +kernel
theorem dL_law_469 : decode cL_law 469 = .ok (.iadd, 1) := by decide +kernel
theorem dL_law_470 : decode cL_law 470 = .ok (.iaload, 1) := by decide +kernel
theorem dL_law_471 : decode cL_law 471 = .ok (.aload_n 0, 1) := by decide +kernel
theorem dL_law_472 : decode cL_law 472 = .ok (.iload_n 3, 1) := by decide +kernel
theorem dL_law_473 : decode cL_law 473 = .ok (.iconst 3, 1) := by decide +kernel
theorem dL_law_474 : decode cL_law 474 = .ok (.iadd, 1) := by decide +kernel
theorem dL_law_475 : decode cL_law 475 = .ok (.iaload, 1) := by decide +kernel
theorem dL_law_476 : decode cL_law 476 = .ok (.invokevirtual 48, 3) := by decide +kernel
theorem dL_law_479 : decode cL_law 479 = .ok (.if_icmp .eq 1029, 3) := by decide +kernel
theorem dL_law_482 : decode cL_law 482 = .ok (.iconst 0, 1) := by decide +kernel
theorem dL_law_483 : decode cL_law 483 = .ok (.ireturn, 1) := by decide +kernel
theorem dL_law_484 : decode cL_law 484 = .ok (.aload_n 1, 1) := by decide +kernel
theorem dL_law_485 : decode cL_law 485 = .ok (.aload_n 0, 1) := by decide +kernel
theorem dL_law_486 : decode cL_law 486 = .ok (.iload_n 3, 1) := by decide +kernel
theorem dL_law_487 : decode cL_law 487 = .ok (.iconst 1, 1) := by decide +kernel
theorem dL_law_488 : decode cL_law 488 = .ok (.iadd, 1) := by decide +kernel
theorem dL_law_489 : decode cL_law 489 = .ok (.iaload, 1) := by decide +kernel
theorem dL_law_490 : decode cL_law 490 = .ok (.aload_n 0, 1) := by decide +kernel
theorem dL_law_491 : decode cL_law 491 = .ok (.iload_n 3, 1) := by decide +kernel
theorem dL_law_492 : decode cL_law 492 = .ok (.iconst 2, 1) := by decide +kernel
theorem dL_law_493 : decode cL_law 493 = .ok (.iadd, 1) := by decide +kernel
theorem dL_law_494 : decode cL_law 494 = .ok (.iaload, 1) := by decide +kernel
theorem dL_law_495 : decode cL_law 495 = .ok (.aload_n 0, 1) := by decide +kernel
theorem dL_law_496 : decode cL_law 496 = .ok (.iload_n 3, 1) := by decide +kernel
theorem dL_law_497 : decode cL_law 497 = .ok (.iconst 3, 1) := by decide +kernel
theorem dL_law_498 : decode cL_law 498 = .ok (.iadd, 1) := by decide +kernel
theorem dL_law_499 : decode cL_law 499 = .ok (.iaload, 1) := by decide +kernel
theorem dL_law_500 : decode cL_law 500 = .ok (.aload_n 0, 1) := by decide +kernel
theorem dL_law_501 : decode cL_law 501 = .ok (.iload_n 3, 1) := by decide +kernel
theorem dL_law_502 : decode cL_law 502 = .ok (.iconst 4, 1) := by decide +kernel
theorem dL_law_503 : decode cL_law 503 = .ok (.iadd, 1) := by decide +kernel
theorem dL_law_504 : decode cL_law 504 = .ok (.iaload, 1) := by decide +kernel
theorem dL_law_505 : decode cL_law 505 = .ok (.invokevirtual 49, 3) := by decide +kernel
end
section
theorem dL_law_508 : decode cL_law 508 = .ok (.aload_n 2, 1) := by decide +kernel
theorem dL_law_509 : decode cL_law 509 = .ok (.aload_n 0, 1) := by decide +kernel
theorem dL_law_510 : decode cL_law 510 = .ok (.iload_n 3, 1) := by decide +kernel
theorem dL_law_511 : decode cL_law 511 = .ok (.iconst 1, 1) := by decide +kernel
theorem dL_law_512 : decode cL_law 512 = .ok (.iadd, 1) := by decide +kernel
theorem dL_law_513 : decode cL_law 513 = .ok (.iaload, 1) := by decide +kernel
theorem dL_law_514 : decode cL_law 514 = .ok (.aload_n 0, 1) := by decide +kernel
theorem dL_law_515 : decode cL_law 515 = .ok (.iload_n 3, 1) := by decide +kernel
theorem dL_law_516 : decode cL_law 516 = .ok (.iconst 2, 1) := by decide +kernel
theorem dL_law_517 : decode cL_law 517 = .ok (.iadd, 1) := by decide +kernel
theorem dL_law_518 : decode cL_law 518 = .ok (.iaload, 1) := by decide +kernel
theorem dL_law_519 : decode cL_law 519 = .ok (.aload_n 0, 1) := by decide +kernel
theorem dL_law_520 : decode cL_law 520 = .ok (.iload_n 3, 1) := by decide +kernel
theorem dL_law_521 : decode cL_law 521 = .ok (.iconst 3, 1) := by decide +kernel
theorem dL_law_522 : decode cL_law 522 = .ok (.iadd, 1) := by decide +kernel
theorem dL_law_523 : decode cL_law 523 = .ok (.iaload, 1) := by decide +kernel
theorem dL_law_524 : decode cL_law 524 = .ok (.aload_n 0, 1) := by decide +kernel
theorem dL_law_525 : decode cL_law 525 = .ok (.iload_n 3, 1) := by decide +kernel
theorem dL_law_526 : decode cL_law 526 = .ok (.iconst 4, 1) := by decide +kernel
theorem dL_law_527 : decode cL_law 527 = .ok (.iadd, 1) := by decide +kernel
theorem dL_law_528 : decode cL_law 528 = .ok (.iaload, 1) := by decide +kernel
theorem dL_law_529 : decode cL_law 529 = .ok (.invokevirtual 53, 3) := by decide +kernel
theorem dL_law_532 : decode cL_law 532 = .ok (.if_icmp .eq 976, 3) := by decide +kernel
theorem dL_law_535 : decode cL_law 535 = .ok (.iconst 0, 1) := by decide +kernel
theorem dL_law_536 : decode cL_law 536 = .ok (.ireturn, 1) := by decide +kernel
theorem dL_law_537 : decode cL_law 537 = .ok (.aload_n 1, 1) := by decide +kernel
theorem dL_law_538 : decode cL_law 538 = .ok (.aload_n 0, 1) := by decide +kernel
theorem dL_law_539 : decode cL_law 539 = .ok (.iload_n 3, 1) := by decide +kernel
theorem dL_law_540 : decode cL_law 540 = .ok (.iconst 1, 1) := by decide +kernel
theorem dL_law_541 : decode cL_law 541 = .ok (.iadd, 1) := by decide +kernel
theorem dL_law_542 : decode cL_law 542 = .ok (.iaload, 1) := by decide +kernel
theorem dL_law_543 : decode cL_law 543 = .ok (.aload_n 0, 1) := by decide +kernel
theorem dL_law_544 : decode cL_law 544 = .ok (.iload_n 3, 1) := by decide +kernel
theorem dL_law_545 : decode cL_law 545 = .ok (.iconst 2, 1) := by decide +kernel
theorem dL_law_546 : decode cL_law 546 = .ok (.iadd, 1) := by decide +kernel
theorem dL_law_547 : decode cL_law 547 = .ok (.iaload, 1) := by decide +kernel
theorem dL_law_548 : decode cL_law 548 = .ok (.invokevirtual 54, 3) := by decide +kernel
theorem dL_law_551 : decode cL_law 551 = .ok (.aload_n 2, 1) := by decide +kernel
theorem dL_law_552 : decode cL_law 552 = .ok (.aload_n 0, 1) := by decide +kernel
theorem dL_law_553 : decode cL_law 553 = .ok (.iload_n 3, 1) := by decide +kernel
theorem dL_law_554 : decode cL_law 554 = .ok (.iconst 1, 1) := by decide +kernel
theorem dL_law_555 : decode cL_law 555 = .ok (.iadd, 1) := by decide +kernel
theorem dL_law_556 : decode cL_law 556 = .ok (.iaload, 1) := by decide +kernel
theorem dL_law_557 : decode cL_law 557 = .ok (.aload_n 0, 1) := by decide +kernel
theorem dL_law_558 : decode cL_law 558 = .ok (.iload_n 3, 1) := by decide +kernel
theorem dL_law_559 : decode cL_law 559 = .ok (.iconst 2, 1) := by decide +kernel
theorem dL_law_560 : decode cL_law 560 = .ok (.iadd, 1) := by decide +kernel
theorem dL_law_561 : decode cL_law 561 = .ok (.iaload, 1) := by decide +kernel
theorem dL_law_562 : decode cL_law 562 = .ok (.invokevirtual 57, 3) := by decide +kernel
theorem dL_law_565 : decode cL_law 565 = .ok (.if_icmp .eq 943, 3) := by decide +kernel
theorem dL_law_568 : decode cL_law 568 = .ok (.iconst 0, 1) := by decide +kernel
theorem dL_law_569 : decode cL_law 569 = .ok (.ireturn, 1) := by decide +kernel
theorem dL_law_570 : decode cL_law 570 = .ok (.aload_n 1, 1) := by decide +kernel
theorem dL_law_571 : decode cL_law 571 = .ok (.aload_n 0, 1) := by decide +kernel
theorem dL_law_572 : decode cL_law 572 = .ok (.iload_n 3, 1) := by decide +kernel
theorem dL_law_573 : decode cL_law 573 = .ok (.iconst 1, 1) := by decide +kernel
theorem dL_law_574 : decode cL_law 574 = .ok (.iadd, 1) := by decide +kernel
theorem dL_law_575 : decode cL_law 575 = .ok (.iaload, 1) := by decide +kernel
theorem dL_law_576 : decode cL_law 576 = .ok (.aload_n 0, 1) := by decide +kernel
theorem dL_law_577 : decode cL_law 577 = .ok (.iload_n 3, 1) := by decide +kernel
theorem dL_law_578 : decode cL_law 578 = .ok (.iconst 2, 1) := by decide +kernel
theorem dL_law_579 : decode cL_law 579 = .ok (.iadd, 1) := by decide +kernel
theorem dL_law_580 : decode cL_law 580 = .ok (.iaload, 1) := by decide +kernel
theorem dL_law_581 : decode cL_law 581 = .ok (.invokevirtual 58, 3) := by decide +kernel
theorem dL_law_584 : decode cL_law 584 = .ok (.aload_n 2, 1) := by decide +kernel
theorem dL_law_585 : decode cL_law 585 = .ok (.aload_n 0, 1) := by decide +kernel
theorem dL_law_586 : decode cL_law 586 = .ok (.iload_n 3, 1) := by decide +kernel
theorem dL_law_587 : decode cL_law 587 = .ok (.iconst 1, 1) := by decide +kernel
theorem dL_law_588 : decode cL_law 588 = .ok (.iadd, 1) := by decide +kernel
theorem dL_law_589 : decode cL_law 589 = .ok (.iaload, 1) := by decide +kernel
theorem dL_law_590 : decode cL_law 590 = .ok (.aload_n 0, 1) := by decide +kernel
theorem dL_law_591 : decode cL_law 591 = .ok (.iload_n 3, 1) := by decide +kernel
theorem dL_law_592 : decode cL_law 592 = .ok (.iconst 2, 1) := by decide +kernel
theorem dL_law_593 : decode cL_law 593 = .ok (.iadd, 1) := by decide +kernel
theorem dL_law_594 : decode cL_law 594 = .ok (.iaload, 1) := by decide +kernel
theorem dL_law_595 : decode cL_law 595 = .ok (.invokevirtual 61, 3) := by decide +kernel
theorem dL_law_598 : decode cL_law 598 = .ok (.if_icmp .eq 910, 3) := by decide +kernel
theorem dL_law_601 : decode cL_law 601 = .ok (.iconst 0, 1) := by decide +kernel
theorem dL_law_602 : decode cL_law 602 = .ok (.ireturn, 1) := by decide +kernel
theorem dL_law_603 : decode cL_law 603 = .ok (.aload_n 1, 1) := by decide +kernel
theorem dL_law_604 : decode cL_law 604 = .ok (.invokevirtual 62, 3) := by decide +kernel
theorem dL_law_607 : decode cL_law 607 = .ok (.aload_n 2, 1) := by decide +kernel
theorem dL_law_608 : decode cL_law 608 = .ok (.invokevirtual 66, 3) := by decide +kernel
theorem dL_law_611 : decode cL_law 611 = .ok (.if_icmp .eq 897, 3) := by decide +kernel
theorem dL_law_614 : decode cL_law 614 = .ok (.iconst 0, 1) := by decide +kernel
theorem dL_law_615 : decode cL_law 615 = .ok (.ireturn, 1) := by decide +kernel
theorem dL_law_616 : decode cL_law 616 = .ok (.aload_n 1, 1) := by decide +kernel
theorem dL_law_617 : decode cL_law 617 = .ok (.aload_n 0, 1) := by decide +kernel
theorem dL_law_618 : decode cL_law 618 = .ok (.iload_n 3, 1) := by decide +kernel
theorem dL_law_619 : decode cL_law 619 = .ok (.iconst 1, 1) := by decide +kernel
theorem dL_law_620 : decode cL_law 620 = .ok (.iadd, 1) := by decide +kernel
theorem dL_law_621 : decode cL_law 621 = .ok (.iaload, 1) := by decide +kernel
theorem dL_law_622 : decode cL_law 622 = .ok (.aload_n 0, 1) := by decide +kernel
theorem dL_law_623 : decode cL_law 623 = .ok (.iload_n 3, 1) := by decide +kernel
theorem dL_law_624 : decode cL_law 624 = .ok (.iconst 2, 1) := by decide +kernel
theorem dL_law_625 : decode cL_law 625 = .ok (.iadd, 1) := by decide +kernel
theorem dL_law_626 : decode cL_law 626 = .ok (.iaload, 1) := by decide +kernel
theorem dL_law_627 : decode cL_law 627 = .ok (.aload_n 0, 1) := by decide +kernel
theorem dL_law_628 : decode cL_law 628 = .ok (.iload_n 3, 1) := by decide +kernel
theorem dL_law_629 : decode cL_law 629 = .ok (.iconst 3, 1) := by decide +kernel
theorem dL_law_630 : decode cL_law 630 = .ok (.iadd, 1) := by decide +kernel
theorem dL_law_631 : decode cL_law 631 = .ok (.iaload, 1) := by decide +kernel
theorem dL_law_632 : decode cL_law 632 = .ok (.aload_n 0, 1) := by decide +kernel
theorem dL_law_633 : decode cL_law 633 = .ok (.iload_n 3, 1) := by decide +kernel
theorem dL_law_634 : decode cL_law 634 = .ok (.iconst 4, 1) := by decide +kernel
theorem dL_law_635 : decode cL_law 635 = .ok (.iadd, 1) := by decide +kernel
theorem dL_law_636 : decode cL_law 636 = .ok (.iaload, 1) := by decide +kernel
theorem dL_law_637 : decode cL_law 637 = .ok (.invokevirtual 67, 3) := by decide +kernel
theorem dL_law_640 : decode cL_law 640 = .ok (.aload_n 2, 1) := by decide +kernel
theorem dL_law_641 : decode cL_law 641 = .ok (.aload_n 0, 1) := by decide +kernel
theorem dL_law_642 : decode cL_law 642 = .ok (.iload_n 3, 1) := by decide +kernel
theorem dL_law_643 : decode cL_law 643 = .ok (.iconst 1, 1) := by decide +kernel
theorem dL_law_644 : decode cL_law 644 = .ok (.iadd, 1) := by decide +kernel
theorem dL_law_645 : decode cL_law 645 = .ok (.iaload, 1) := by decide +kernel
theorem dL_law_646 : decode cL_law 646 = .ok (.aload_n 0, 1) := by decide +kernel
theorem dL_law_647 : decode cL_law 647 = .ok (.iload_n 3, 1) := by decide +kernel
theorem dL_law_648 : decode cL_law 648 = .ok (.iconst 2, 1) := by decide +kernel
theorem dL_law_649 : decode cL_law 649 = .ok (.iadd, 1) := by decide +kernel
theorem dL_law_650 : decode cL_law 650 = .ok (.iaload, 1) := by decide +kernel
theorem dL_law_651 : decode cL_law 651 = .ok (.aload_n 0, 1) := by decide +kernel
theorem dL_law_652 : decode cL_law 652 = .ok (.iload_n 3, 1) := by decide +kernel
theorem dL_law_653 : decode cL_law 653 = .ok (.iconst 3, 1) := by decide +kernel
theorem dL_law_654 : decode cL_law 654 = .ok (.iadd, 1) := by decide +kernel
theorem dL_law_655 : decode cL_law 655 = .ok (.iaload, 1) := by decide +kernel
theorem dL_law_656 : decode cL_law 656 = .ok (.aload_n 0, 1) := by decide +kernel
theorem dL_law_657 : decode cL_law 657 = .ok (.iload_n 3, 1) := by decide +kernel
theorem dL_law_658 : decode cL_law 658 = .ok (.iconst 4, 1) := by decide +kernel
theorem dL_law_659 : decode cL_law 659 = .ok (.iadd, 1) := by decide +kernel
theorem dL_law_660 : decode cL_law 660 = .ok (.iaload, 1) := by decide +kernel
theorem dL_law_661 : decode cL_law 661 = .ok (.invokevirtual 70, 3) := by decide +kernel
theorem dL_law_664 : decode cL_law 664 = .ok (.if_icmp .eq 844, 3) := by decide +kernel
theorem dL_law_667 : decode cL_law 667 = .ok (.iconst 0, 1) := by decide +kernel
theorem dL_law_668 : decode cL_law 668 = .ok (.ireturn, 1) := by decide +kernel
theorem dL_law_669 : decode cL_law 669 = .ok (.aload_n 1, 1) := by decide +kernel
theorem dL_law_670 : decode cL_law 670 = .ok (.aload_n 0, 1) := by decide +kernel
theorem dL_law_671 : decode cL_law 671 = .ok (.iload_n 3, 1) := by decide +kernel
theorem dL_law_672 : decode cL_law 672 = .ok (.iconst 1, 1) := by decide +kernel
theorem dL_law_673 : decode cL_law 673 = .ok (.iadd, 1) := by decide +kernel
theorem dL_law_674 : decode cL_law 674 = .ok (.iaload, 1) := by decide +kernel
theorem dL_law_675 : decode cL_law 675 = .ok (.aload_n 0, 1) := by decide +kernel
theorem dL_law_676 : decode cL_law 676 = .ok (.iload_n 3, 1) := by decide +kernel
theorem dL_law_677 : decode cL_law 677 = .ok (.iconst 2, 1) := by decide +kernel
theorem dL_law_678 : decode cL_law 678 = .ok (.iadd, 1) := by decide +kernel
theorem dL_law_679 : decode cL_law 679 = .ok (.iaload, 1) := by decide +kernel
theorem dL_law_680 : decode cL_law 680 = .ok (.invokevirtual 71, 3) := by decide +kernel
theorem dL_law_683 : decode cL_law 683 = .ok (.aload_n 2, 1) := by decide +kernel
theorem dL_law_684 : decode cL_law 684 = .ok (.aload_n 0, 1) := by decide +kernel
theorem dL_law_685 : decode cL_law 685 = .ok (.iload_n 3, 1) := by decide +kernel
theorem dL_law_686 : decode cL_law 686 = .ok (.iconst 1, 1) := by decide +kernel
theorem dL_law_687 : decode cL_law 687 = .ok (.iadd, 1) := by decide +kernel
theorem dL_law_688 : decode cL_law 688 = .ok (.iaload, 1) := by decide +kernel
theorem dL_law_689 : decode cL_law 689 = .ok (.aload_n 0, 1) := by decide +kernel
theorem dL_law_690 : decode cL_law 690 = .ok (.iload_n 3, 1) := by decide +kernel
theorem dL_law_691 : decode cL_law 691 = .ok (.iconst 2, 1) := by decide +kernel
theorem dL_law_692 : decode cL_law 692 = .ok (.iadd, 1) := by decide +kernel
theorem dL_law_693 : decode cL_law 693 = .ok (.iaload, 1) := by decide +kernel
theorem dL_law_694 : decode cL_law 694 = .ok (.invokevirtual 74, 3) := by decide +kernel
theorem dL_law_697 : decode cL_law 697 = .ok (.if_icmp .eq 811, 3) := by decide +kernel
theorem dL_law_700 : decode cL_law 700 = .ok (.iconst 0, 1) := by decide +kernel
theorem dL_law_701 : decode cL_law 701 = .ok (.ireturn, 1) := by decide +kernel
theorem dL_law_702 : decode cL_law 702 = .ok (.aload_n 1, 1) := by decide +kernel
theorem dL_law_703 : decode cL_law 703 = .ok (.aload_n 0, 1) := by decide +kernel
theorem dL_law_704 : decode cL_law 704 = .ok (.iload_n 3, 1) := by decide +kernel
theorem dL_law_705 : decode cL_law 705 = .ok (.iconst 1, 1) := by decide +kernel
theorem dL_law_706 : decode cL_law 706 = .ok (.iadd, 1) := by decide +kernel
theorem dL_law_707 : decode cL_law 707 = .ok (.iaload, 1) := by decide +kernel
theorem dL_law_708 : decode cL_law 708 = .ok (.invokevirtual 75, 3) := by decide +kernel
theorem dL_law_711 : decode cL_law 711 = .ok (.aload_n 2, 1) := by decide +kernel
theorem dL_law_712 : decode cL_law 712 = .ok (.aload_n 0, 1) := by decide +kernel
theorem dL_law_713 : decode cL_law 713 = .ok (.iload_n 3, 1) := by decide +kernel
theorem dL_law_714 : decode cL_law 714 = .ok (.iconst 1, 1) := by decide +kernel
theorem dL_law_715 : decode cL_law 715 = .ok (.iadd, 1) := by decide +kernel
theorem dL_law_716 : decode cL_law 716 = .ok (.iaload, 1) := by decide +kernel
theorem dL_law_717 : decode cL_law 717 = .ok (.invokevirtual 78, 3) := by decide +kernel
theorem dL_law_720 : decode cL_law 720 = .ok (.if_icmp .eq 788, 3) := by decide +kernel
theorem dL_law_723 : decode cL_law 723 = .ok (.iconst 0, 1) := by decide +kernel
theorem dL_law_724 : decode cL_law 724 = .ok (.ireturn, 1) := by decide +kernel
theorem dL_law_725 : decode cL_law 725 = .ok (.aload_n 1, 1) := by decide +kernel
theorem dL_law_726 : decode cL_law 726 = .ok (.aload_n 0, 1) := by decide +kernel
theorem dL_law_727 : decode cL_law 727 = .ok (.iload_n 3, 1) := by decide +kernel
theorem dL_law_728 : decode cL_law 728 = .ok (.iconst 1, 1) := by decide +kernel
theorem dL_law_729 : decode cL_law 729 = .ok (.iadd, 1) := by decide +kernel
theorem dL_law_730 : decode cL_law 730 = .ok (.iaload, 1) := by decide +kernel
theorem dL_law_731 : decode cL_law 731 = .ok (.aload_n 0, 1) := by decide +kernel
theorem dL_law_732 : decode cL_law 732 = .ok (.iload_n 3, 1) := by decide +kernel
theorem dL_law_733 : decode cL_law 733 = .ok (.iconst 2, 1) := by decide +kernel
theorem dL_law_734 : decode cL_law 734 = .ok (.iadd, 1) := by decide +kernel
theorem dL_law_735 : decode cL_law 735 = .ok (.iaload, 1) := by decide +kernel
theorem dL_law_736 : decode cL_law 736 = .ok (.aload_n 0, 1) := by decide +kernel
theorem dL_law_737 : decode cL_law 737 = .ok (.iload_n 3, 1) := by decide +kernel
theorem dL_law_738 : decode cL_law 738 = .ok (.iconst 3, 1) := by decide +kernel
theorem dL_law_739 : decode cL_law 739 = .ok (.iadd, 1) := by decide +kernel
theorem dL_law_740 : decode cL_law 740 = .ok (.iaload, 1) := by decide +kernel
theorem dL_law_741 : decode cL_law 741 = .ok (.invokevirtual 79, 3) := by decide +kernel
theorem dL_law_744 : decode cL_law 744 = .ok (.aload_n 2, 1) := by decide +kernel
theorem dL_law_745 : decode cL_law 745 = .ok (.aload_n 0, 1) := by decide +kernel
theorem dL_law_746 : decode cL_law 746 = .ok (.iload_n 3, 1) := by decide +kernel
theorem dL_law_747 : decode cL_law 747 = .ok (.iconst 1, 1) := by decide +kernel
theorem dL_law_748 : decode cL_law 748 = .ok (.iadd, 1) := by decide +kernel
theorem dL_law_749 : decode cL_law 749 = .ok (.iaload, 1) := by decide +kernel
theorem dL_law_750 : decode cL_law 750 = .ok (.aload_n 0, 1) := by decide +kernel
theorem dL_law_751 : decode cL_law 751 = .ok (.iload_n 3, 1) := by decide +kernel
theorem dL_law_752 : decode cL_law 752 = .ok (.iconst 2, 1) := by decide +kernel
theorem dL_law_753 : decode cL_law 753 = .ok (.iadd, 1) := by decide +kernel
theorem dL_law_754 : decode cL_law 754 = .ok (.iaload, 1) := by decide +kernel
theorem dL_law_755 : decode cL_law 755 = .ok (.aload_n 0, 1) := by decide +kernel
theorem dL_law_756 : decode cL_law 756 = .ok (.iload_n 3, 1) := by decide +kernel
theorem dL_law_757 : decode cL_law 757 = .ok (.iconst 3, 1) := by decide +kernel
theorem dL_law_758 : decode cL_law 758 = .ok (.iadd, 1) := by decide +kernel
theorem dL_law_759 : decode cL_law 759 = .ok (.iaload, 1) := by decide +kernel
theorem dL_law_760 : decode cL_law 760 = .ok (.invokevirtual 82, 3) := by decide +kernel
theorem dL_law_763 : decode cL_law 763 = .ok (.if_icmp .eq 745, 3) := by decide +kernel
theorem dL_law_766 : decode cL_law 766 = .ok (.iconst 0, 1) := by decide +kernel
theorem dL_law_767 : decode cL_law 767 = .ok (.ireturn, 1) := by decide +kernel
theorem dL_law_768 : decode cL_law 768 = .ok (.aload_n 1, 1) := by decide +kernel
theorem dL_law_769 : decode cL_law 769 = .ok (.aload_n 0, 1) := by decide +kernel
theorem dL_law_770 : decode cL_law 770 = .ok (.iload_n 3, 1) := by decide +kernel
theorem dL_law_771 : decode cL_law 771 = .ok (.iconst 1, 1) := by decide +kernel
theorem dL_law_772 : decode cL_law 772 = .ok (.iadd, 1) := by decide +kernel
theorem dL_law_773 : decode cL_law 773 = .ok (.iaload, 1) := by decide +kernel
theorem dL_law_774 : decode cL_law 774 = .ok (.aload_n 0, 1) := by decide +kernel
theorem dL_law_775 : decode cL_law 775 = .ok (.iload_n 3, 1) := by decide +kernel
theorem dL_law_776 : decode cL_law 776 = .ok (.iconst 2, 1) := by decide +kernel
theorem dL_law_777 : decode cL_law 777 = .ok (.iadd, 1) := by decide +kernel
theorem dL_law_778 : decode cL_law 778 = .ok (.iaload, 1) := by decide +kernel
theorem dL_law_779 : decode cL_law 779 = .ok (.aload_n 0, 1) := by decide +kernel
theorem dL_law_780 : decode cL_law 780 = .ok (.iload_n 3, 1) := by decide +kernel
theorem dL_law_781 : decode cL_law 781 = .ok (.iconst 3, 1) := by decide +kernel
theorem dL_law_782 : decode cL_law 782 = .ok (.iadd, 1) := by decide +kernel
theorem dL_law_783 : decode cL_law 783 = .ok (.iaload, 1) := by decide +kernel
theorem dL_law_784 : decode cL_law 784 = .ok (.invokevirtual 83, 3) := by decide +kernel
theorem dL_law_787 : decode cL_law 787 = .ok (.aload_n 2, 1) := by decide +kernel
theorem dL_law_788 : decode cL_law 788 = .ok (.aload_n 0, 1) := by decide +kernel
theorem dL_law_789 : decode cL_law 789 = .ok (.iload_n 3, 1) := by decide +kernel
theorem dL_law_790 : decode cL_law 790 = .ok (.iconst 1, 1) := by decide +kernel
theorem dL_law_791 : decode cL_law 791 = .ok (.iadd, 1) := by decide +kernel
theorem dL_law_792 : decode cL_law 792 = .ok (.iaload, 1) := by decide +kernel
theorem dL_law_793 : decode cL_law 793 = .ok (.aload_n 0, 1) := by decide +kernel
theorem dL_law_794 : decode cL_law 794 = .ok (.iload_n 3, 1) := by decide +kernel
theorem dL_law_795 : decode cL_law 795 = .ok (.iconst 2, 1) := by decide +kernel
theorem dL_law_796 : decode cL_law 796 = .ok (.iadd, 1) := by decide +kernel
theorem dL_law_797 : decode cL_law 797 = .ok (.iaload, 1) := by decide +kernel
theorem dL_law_798 : decode cL_law 798 = .ok (.aload_n 0, 1) := by decide +kernel
theorem dL_law_799 : decode cL_law 799 = .ok (.iload_n 3, 1) := by decide +kernel
theorem dL_law_800 : decode cL_law 800 = .ok (.iconst 3, 1) := by decide +kernel
theorem dL_law_801 : decode cL_law 801 = .ok (.iadd, 1) := by decide +kernel
theorem dL_law_802 : decode cL_law 802 = .ok (.iaload, 1) := by decide +kernel
theorem dL_law_803 : decode cL_law 803 = .ok (.invokevirtual 86, 3) := by decide +kernel
theorem dL_law_806 : decode cL_law 806 = .ok (.if_icmp .eq 702, 3) := by decide +kernel
theorem dL_law_809 : decode cL_law 809 = .ok (.iconst 0, 1) := by decide +kernel
theorem dL_law_810 : decode cL_law 810 = .ok (.ireturn, 1) := by decide +kernel
theorem dL_law_811 : decode cL_law 811 = .ok (.aload_n 1, 1) := by decide +kernel
theorem dL_law_812 : decode cL_law 812 = .ok (.aload_n 0, 1) := by decide +kernel
theorem dL_law_813 : decode cL_law 813 = .ok (.iload_n 3, 1) := by decide +kernel
theorem dL_law_814 : decode cL_law 814 = .ok (.iconst 1, 1) := by decide +kernel
theorem dL_law_815 : decode cL_law 815 = .ok (.iadd, 1) := by decide +kernel
theorem dL_law_816 : decode cL_law 816 = .ok (.iaload, 1) := by decide +kernel
theorem dL_law_817 : decode cL_law 817 = .ok (.aload_n 0, 1) := by decide +kernel
theorem dL_law_818 : decode cL_law 818 = .ok (.iload_n 3, 1) := by decide +kernel
theorem dL_law_819 : decode cL_law 819 = .ok (.iconst 2, 1) := by decide +kernel
theorem dL_law_820 : decode cL_law 820 = .ok (.iadd, 1) := by decide +kernel
theorem dL_law_821 : decode cL_law 821 = .ok (.iaload, 1) := by decide +kernel
theorem dL_law_822 : decode cL_law 822 = .ok (.invokevirtual 87, 3) := by decide +kernel
theorem dL_law_825 : decode cL_law 825 = .ok (.aload_n 2, 1) := by decide +kernel
theorem dL_law_826 : decode cL_law 826 = .ok (.aload_n 0, 1) := by decide +kernel
theorem dL_law_827 : decode cL_law 827 = .ok (.iload_n 3, 1) := by decide +kernel
theorem dL_law_828 : decode cL_law 828 = .ok (.iconst 1, 1) := by decide +kernel
theorem dL_law_829 : decode cL_law 829 = .ok (.iadd, 1) := by decide +kernel
theorem dL_law_830 : decode cL_law 830 = .ok (.iaload, 1) := by decide +kernel
theorem dL_law_831 : decode cL_law 831 = .ok (.aload_n 0, 1) := by decide +kernel
theorem dL_law_832 : decode cL_law 832 = .ok (.iload_n 3, 1) := by decide +kernel
theorem dL_law_833 : decode cL_law 833 = .ok (.iconst 2, 1) := by decide +kernel
theorem dL_law_834 : decode cL_law 834 = .ok (.iadd, 1) := by decide +kernel
theorem dL_law_835 : decode cL_law 835 = .ok (.iaload, 1) := by decide +kernel
theorem dL_law_836 : decode cL_law 836 = .ok (.invokevirtual 90, 3) := by decide +kernel
theorem dL_law_839 : decode cL_law 839 = .ok (.if_icmp .eq 669, 3) := by decide +kernel
theorem dL_law_842 : decode cL_law 842 = .ok (.iconst 0, 1) := by decide +kernel
theorem dL_law_843 : decode cL_law 843 = .ok (.ireturn, 1) := by decide +kernel
theorem dL_law_844 : decode cL_law 844 = .ok (.aload_n 1, 1) := by decide +kernel
theorem dL_law_845 : decode cL_law 845 = .ok (.aload_n 0, 1) := by decide +kernel
theorem dL_law_846 : decode cL_law 846 = .ok (.iload_n 3, 1) := by decide +kernel
theorem dL_law_847 : decode cL_law 847 = .ok (.iconst 1, 1) := by decide +kernel
theorem dL_law_848 : decode cL_law 848 = .ok (.iadd, 1) := by decide +kernel
theorem dL_law_849 : decode cL_law 849 = .ok (.iaload, 1) := by decide +kernel
theorem dL_law_850 : decode cL_law 850 = .ok (.aload_n 0, 1) := by decide +kernel
theorem dL_law_851 : decode cL_law 851 = .ok (.iload_n 3, 1) := by decide +kernel
theorem dL_law_852 : decode cL_law 852 = .ok (.iconst 2, 1) := by decide +kernel
theorem dL_law_853 : decode cL_law 853 = .ok (.iadd, 1) := by decide +kernel
theorem dL_law_854 : decode cL_law 854 = .ok (.iaload, 1) := by decide +kernel
theorem dL_law_855 : decode cL_law 855 = .ok (.aload_n 0, 1) := by decide +kernel
theorem dL_law_856 : decode cL_law 856 = .ok (.iload_n 3, 1) := by decide +kernel
theorem dL_law_857 : decode cL_law 857 = .ok (.iconst 3, 1) := by decide +kernel
theorem dL_law_858 : decode cL_law 858 = .ok (.iadd, 1) := by decide +kernel
theorem dL_law_859 : decode cL_law 859 = .ok (.iaload, 1) := by decide +kernel
theorem dL_law_860 : decode cL_law 860 = .ok (.invokevirtual 91, 3) := by decide +kernel
theorem dL_law_863 : decode cL_law 863 = .ok (.aload_n 2, 1) := by decide +kernel
theorem dL_law_864 : decode cL_law 864 = .ok (.aload_n 0, 1) := by decide +kernel
theorem dL_law_865 : decode cL_law 865 = .ok (.iload_n 3, 1) := by decide +kernel
theorem dL_law_866 : decode cL_law 866 = .ok (.iconst 1, 1) := by decide +kernel
theorem dL_law_867 : decode cL_law 867 = .ok (.iadd, 1) := by decide +kernel
end
section
theorem dL_law_868 : decode cL_law 868 = .ok (.iaload, 1) := by decide +kernel
theorem dL_law_869 : decode cL_law 869 = .ok (.aload_n 0, 1) := by decide +kernel
theorem dL_law_870 : decode cL_law 870 = .ok (.iload_n 3, 1) := by decide +kernel
theorem dL_law_871 : decode cL_law 871 = .ok (.iconst 2, 1) := by decide +kernel
theorem dL_law_872 : decode cL_law 872 = .ok (.iadd, 1) := by decide +kernel
theorem dL_law_873 : decode cL_law 873 = .ok (.iaload, 1) := by decide +kernel
theorem dL_law_874 : decode cL_law 874 = .ok (.aload_n 0, 1) := by decide +kernel
theorem dL_law_875 : decode cL_law 875 = .ok (.iload_n 3, 1) := by decide +kernel
theorem dL_law_876 : decode cL_law 876 = .ok (.iconst 3, 1) := by decide +kernel
theorem dL_law_877 : decode cL_law 877 = .ok (.iadd, 1) := by decide +kernel
theorem dL_law_878 : decode cL_law 878 = .ok (.iaload, 1) := by decide +kernel
theorem dL_law_879 : decode cL_law 879 = .ok (.invokevirtual 94, 3) := by decide +kernel
theorem dL_law_882 : decode cL_law 882 = .ok (.if_icmp .eq 626, 3) := by decide +kernel
theorem dL_law_885 : decode cL_law 885 = .ok (.iconst 0, 1) := by decide +kernel
theorem dL_law_886 : decode cL_law 886 = .ok (.ireturn, 1) := by decide +kernel
theorem dL_law_887 : decode cL_law 887 = .ok (.aload_n 1, 1) := by decide +kernel
theorem dL_law_888 : decode cL_law 888 = .ok (.aload_n 0, 1) := by decide +kernel
theorem dL_law_889 : decode cL_law 889 = .ok (.iload_n 3, 1) := by decide +kernel
theorem dL_law_890 : decode cL_law 890 = .ok (.iconst 1, 1) := by decide +kernel
theorem dL_law_891 : decode cL_law 891 = .ok (.iadd, 1) := by decide +kernel
theorem dL_law_892 : decode cL_law 892 = .ok (.iaload, 1) := by decide +kernel
theorem dL_law_893 : decode cL_law 893 = .ok (.aload_n 0, 1) := by decide +kernel
theorem dL_law_894 : decode cL_law 894 = .ok (.iload_n 3, 1) := by decide +kernel
theorem dL_law_895 : decode cL_law 895 = .ok (.iconst 2, 1) := by decide +kernel
theorem dL_law_896 : decode cL_law 896 = .ok (.iadd, 1) := by decide +kernel
theorem dL_law_897 : decode cL_law 897 = .ok (.iaload, 1) := by decide +kernel
theorem dL_law_898 : decode cL_law 898 = .ok (.aload_n 0, 1) := by decide +kernel
theorem dL_law_899 : decode cL_law 899 = .ok (.iload_n 3, 1) := by decide +kernel
theorem dL_law_900 : decode cL_law 900 = .ok (.iconst 3, 1) := by decide +kernel
theorem dL_law_901 : decode cL_law 901 = .ok (.iadd, 1) := by decide +kernel
theorem dL_law_902 : decode cL_law 902 = .ok (.iaload, 1) := by decide +kernel
theorem dL_law_903 : decode cL_law 903 = .ok (.aload_n 0, 1) := by decide +kernel
theorem dL_law_904 : decode cL_law 904 = .ok (.iload_n 3, 1) := by decide +kernel
theorem dL_law_905 : decode cL_law 905 = .ok (.iconst 4, 1) := by decide +kernel
theorem dL_law_906 : decode cL_law 906 = .ok (.iadd, 1) := by decide +kernel
theorem dL_law_907 : decode cL_law 907 = .ok (.iaload, 1) := by decide +kernel
theorem dL_law_908 : decode cL_law 908 = .ok (.aload_n 0, 1) := by decide +kernel
theorem dL_law_909 : decode cL_law 909 = .ok (.iload_n 3, 1) := by decide +kernel
theorem dL_law_910 : decode cL_law 910 = .ok (.iconst 5, 1) := by decide +kernel
theorem dL_law_911 : decode cL_law 911 = .ok (.iadd, 1) := by decide +kernel
theorem dL_law_912 : decode cL_law 912 = .ok (.iaload, 1) := by decide +kernel
theorem dL_law_913 : decode cL_law 913 = .ok (.invokevirtual 95, 3) := by decide +kernel
theorem dL_law_916 : decode cL_law 916 = .ok (.aload_n 2, 1) := by decide +kernel
theorem dL_law_917 : decode cL_law 917 = .ok (.aload_n 0, 1) := by decide +kernel
theorem dL_law_918 : decode cL_law 918 = .ok (.iload_n 3, 1) := by decide +kernel
theorem dL_law_919 : decode cL_law 919 = .ok (.iconst 1, 1) := by decide +kernel
theorem dL_law_920 : decode cL_law 920 = .ok (.iadd, 1) := by decide +kernel
theorem dL_law_921 : decode cL_law 921 = .ok (.iaload, 1) := by decide +kernel
theorem dL_law_922 : decode cL_law 922 = .ok (.aload_n 0, 1) := by decide +kernel
theorem dL_law_923 : decode cL_law 923 = .ok (.iload_n 3, 1) := by decide +kernel
theorem dL_law_924 : decode cL_law 924 = .ok (.iconst 2, 1) := by decide +kernel
theorem dL_law_925 : decode cL_law 925 = .ok (.iadd, 1) := by decide +kernel
theorem dL_law_926 : decode cL_law 926 = .ok (.iaload, 1) := by decide +kernel
theorem dL_law_927 : decode cL_law 927 = .ok (.aload_n 0, 1) := by decide +kernel
theorem dL_law_928 : decode cL_law 928 = .ok (.iload_n 3, 1) := by decide +kernel
theorem dL_law_929 : decode cL_law 929 = .ok (.iconst 3, 1) := by decide +kernel
theorem dL_law_930 : decode cL_law 930 = .ok (.iadd, 1) := by decide +kernel
theorem dL_law_931 : decode cL_law 931 = .ok (.iaload, 1) := by decide +kernel
theorem dL_law_932 : decode cL_law 932 = .ok (.aload_n 0, 1) := by decide +kernel
theorem dL_law_933 : decode cL_law 933 = .ok (.iload_n 3, 1) := by decide +kernel
theorem dL_law_934 : decode cL_law 934 = .ok (.iconst 4, 1) := by decide +kernel
theorem dL_law_935 : decode cL_law 935 = .ok (.iadd, 1) := by decide +kernel
theorem dL_law_936 : decode cL_law 936 = .ok (.iaload, 1) := by decide +kernel
theorem dL_law_937 : decode cL_law 937 = .ok (.aload_n 0, 1) := by decide +kernel
theorem dL_law_938 : decode cL_law 938 = .ok (.iload_n 3, 1) := by decide +kernel
theorem dL_law_939 : decode cL_law 939 = .ok (.iconst 5, 1) := by decide +kernel
theorem dL_law_940 : decode cL_law 940 = .ok (.iadd, 1) := by decide +kernel
theorem dL_law_941 : decode cL_law 941 = .ok (.iaload, 1) := by decide +kernel
theorem dL_law_942 : decode cL_law 942 = .ok (.invokevirtual 98, 3) := by decide +kernel
theorem dL_law_945 : decode cL_law 945 = .ok (.if_icmp .eq 563, 3) := by decide +kernel
theorem dL_law_948 : decode cL_law 948 = .ok (.iconst 0, 1) := by decide +kernel
theorem dL_law_949 : decode cL_law 949 = .ok (.ireturn, 1) := by decide +kernel
theorem dL_law_950 : decode cL_law 950 = .ok (.aload_n 1, 1) := by decide +kernel
theorem dL_law_951 : decode cL_law 951 = .ok (.aload_n 0, 1) := by decide +kernel
theorem dL_law_952 : decode cL_law 952 = .ok (.iload_n 3, 1) := by decide +kernel
theorem dL_law_953 : decode cL_law 953 = .ok (.iconst 1, 1) := by decide +kernel
theorem dL_law_954 : decode cL_law 954 = .ok (.iadd, 1) := by decide +kernel
theorem dL_law_955 : decode cL_law 955 = .ok (.iaload, 1) := by decide +kernel
theorem dL_law_956 : decode cL_law 956 = .ok (.aload_n 0, 1) := by decide +kernel
theorem dL_law_957 : decode cL_law 957 = .ok (.iload_n 3, 1) := by decide +kernel
theorem dL_law_958 : decode cL_law 958 = .ok (.iconst 2, 1) := by decide +kernel
theorem dL_law_959 : decode cL_law 959 = .ok (.iadd, 1) := by decide +kernel
theorem dL_law_960 : decode cL_law 960 = .ok (.iaload, 1) := by decide +kernel
theorem dL_law_961 : decode cL_law 961 = .ok (.aload_n 0, 1) := by decide +kernel
theorem dL_law_962 : decode cL_law 962 = .ok (.iload_n 3, 1) := by decide +kernel
theorem dL_law_963 : decode cL_law 963 = .ok (.iconst 3, 1) := by decide +kernel
theorem dL_law_964 : decode cL_law 964 = .ok (.iadd, 1) := by decide +kernel
theorem dL_law_965 : decode cL_law 965 = .ok (.iaload, 1) := by decide +kernel
theorem dL_law_966 : decode cL_law 966 = .ok (.invokevirtual 99, 3) := by decide +kernel
theorem dL_law_969 : decode cL_law 969 = .ok (.aload_n 2, 1) := by decide +kernel
theorem dL_law_970 : decode cL_law 970 = .ok (.aload_n 0, 1) := by decide +kernel
theorem dL_law_971 : decode cL_law 971 = .ok (.iload_n 3, 1) := by decide +kernel
theorem dL_law_972 : decode cL_law 972 = .ok (.iconst 1, 1) := by decide +kernel
theorem dL_law_973 : decode cL_law 973 = .ok (.iadd, 1) := by decide +kernel
theorem dL_law_974 : decode cL_law 974 = .ok (.iaload, 1) := by decide +kernel
theorem dL_law_975 : decode cL_law 975 = .ok (.aload_n 0, 1) := by decide +kernel
theorem dL_law_976 : decode cL_law 976 = .ok (.iload_n 3, 1) := by decide +kernel
theorem dL_law_977 : decode cL_law 977 = .ok (.iconst 2, 1) := by decide +kernel
theorem dL_law_978 : decode cL_law 978 = .ok (.iadd, 1) := by decide +kernel
theorem dL_law_979 : decode cL_law 979 = .ok (.iaload, 1) := by decide +kernel
theorem dL_law_980 : decode cL_law 980 = .ok (.aload_n 0, 1) := by decide +kernel
theorem dL_law_981 : decode cL_law 981 = .ok (.iload_n 3, 1) := by decide +kernel
theorem dL_law_982 : decode cL_law 982 = .ok (.iconst 3, 1) := by decide +kernel
theorem dL_law_983 : decode cL_law 983 = .ok (.iadd, 1) := by decide +kernel
theorem dL_law_984 : decode cL_law 984 = .ok (.iaload, 1) := by decide +kernel
theorem dL_law_985 : decode cL_law 985 = .ok (.invokevirtual 103, 3) := by decide +kernel
theorem dL_law_988 : decode cL_law 988 = .ok (.lcmp, 1) := by decide +kernel
theorem dL_law_989 : decode cL_law 989 = .ok (.ifCond .eq 519, 3) := by decide +kernel
theorem dL_law_992 : decode cL_law 992 = .ok (.iconst 0, 1) := by decide +kernel
theorem dL_law_993 : decode cL_law 993 = .ok (.ireturn, 1) := by decide +kernel
theorem dL_law_994 : decode cL_law 994 = .ok (.aload_n 1, 1) := by decide +kernel
theorem dL_law_995 : decode cL_law 995 = .ok (.aload_n 0, 1) := by decide +kernel
theorem dL_law_996 : decode cL_law 996 = .ok (.iload_n 3, 1) := by decide +kernel
theorem dL_law_997 : decode cL_law 997 = .ok (.iconst 1, 1) := by decide +kernel
theorem dL_law_998 : decode cL_law 998 = .ok (.iadd, 1) := by decide +kernel
theorem dL_law_999 : decode cL_law 999 = .ok (.iaload, 1) := by decide +kernel
theorem dL_law_1000 : decode cL_law 1000 = .ok (.aload_n 0, 1) := by decide +kernel
theorem dL_law_1001 : decode cL_law 1001 = .ok (.iload_n 3, 1) := by decide +kernel
theorem dL_law_1002 : decode cL_law 1002 = .ok (.iconst 2, 1) := by decide +kernel
theorem dL_law_1003 : decode cL_law 1003 = .ok (.iadd, 1) := by decide +kernel
theorem dL_law_1004 : decode cL_law 1004 = .ok (.iaload, 1) := by decide +kernel
theorem dL_law_1005 : decode cL_law 1005 = .ok (.aload_n 0, 1) := by decide +kernel
theorem dL_law_1006 : decode cL_law 1006 = .ok (.iload_n 3, 1) := by decide +kernel
theorem dL_law_1007 : decode cL_law 1007 = .ok (.iconst 3, 1) := by decide +kernel
theorem dL_law_1008 : decode cL_law 1008 = .ok (.iadd, 1) := by decide +kernel
theorem dL_law_1009 : decode cL_law 1009 = .ok (.iaload, 1) := by decide +kernel
theorem dL_law_1010 : decode cL_law 1010 = .ok (.invokevirtual 104, 3) := by decide +kernel
theorem dL_law_1013 : decode cL_law 1013 = .ok (.aload_n 2, 1) := by decide +kernel
theorem dL_law_1014 : decode cL_law 1014 = .ok (.aload_n 0, 1) := by decide +kernel
theorem dL_law_1015 : decode cL_law 1015 = .ok (.iload_n 3, 1) := by decide +kernel
theorem dL_law_1016 : decode cL_law 1016 = .ok (.iconst 1, 1) := by decide +kernel
theorem dL_law_1017 : decode cL_law 1017 = .ok (.iadd, 1) := by decide +kernel
theorem dL_law_1018 : decode cL_law 1018 = .ok (.iaload, 1) := by decide +kernel
theorem dL_law_1019 : decode cL_law 1019 = .ok (.aload_n 0, 1) := by decide +kernel
theorem dL_law_1020 : decode cL_law 1020 = .ok (.iload_n 3, 1) := by decide +kernel
theorem dL_law_1021 : decode cL_law 1021 = .ok (.iconst 2, 1) := by decide +kernel
theorem dL_law_1022 : decode cL_law 1022 = .ok (.iadd, 1) := by decide +kernel
theorem dL_law_1023 : decode cL_law 1023 = .ok (.iaload, 1) := by decide +kernel
theorem dL_law_1024 : decode cL_law 1024 = .ok (.aload_n 0, 1) := by decide +kernel
theorem dL_law_1025 : decode cL_law 1025 = .ok (.iload_n 3, 1) := by decide +kernel
theorem dL_law_1026 : decode cL_law 1026 = .ok (.iconst 3, 1) := by decide +kernel
theorem dL_law_1027 : decode cL_law 1027 = .ok (.iadd, 1) := by decide +kernel
theorem dL_law_1028 : decode cL_law 1028 = .ok (.iaload, 1) := by decide +kernel
theorem dL_law_1029 : decode cL_law 1029 = .ok (.invokevirtual 107, 3) := by decide +kernel
theorem dL_law_1032 : decode cL_law 1032 = .ok (.lcmp, 1) := by decide +kernel
theorem dL_law_1033 : decode cL_law 1033 = .ok (.ifCond .eq 475, 3) := by decide +kernel
theorem dL_law_1036 : decode cL_law 1036 = .ok (.iconst 0, 1) := by decide +kernel
theorem dL_law_1037 : decode cL_law 1037 = .ok (.ireturn, 1) := by decide +kernel
theorem dL_law_1038 : decode cL_law 1038 = .ok (.aload_n 1, 1) := by decide +kernel
theorem dL_law_1039 : decode cL_law 1039 = .ok (.aload_n 0, 1) := by decide +kernel
theorem dL_law_1040 : decode cL_law 1040 = .ok (.iload_n 3, 1) := by decide +kernel
theorem dL_law_1041 : decode cL_law 1041 = .ok (.iconst 1, 1) := by decide +kernel
theorem dL_law_1042 : decode cL_law 1042 = .ok (.iadd, 1) := by decide +kernel
theorem dL_law_1043 : decode cL_law 1043 = .ok (.iaload, 1) := by decide +kernel
theorem dL_law_1044 : decode cL_law 1044 = .ok (.aload_n 0, 1) := by decide +kernel
theorem dL_law_1045 : decode cL_law 1045 = .ok (.iload_n 3, 1) := by decide +kernel
theorem dL_law_1046 : decode cL_law 1046 = .ok (.iconst 2, 1) := by decide +kernel
theorem dL_law_1047 : decode cL_law 1047 = .ok (.iadd, 1) := by decide +kernel
theorem dL_law_1048 : decode cL_law 1048 = .ok (.iaload, 1) := by decide +kernel
theorem dL_law_1049 : decode cL_law 1049 = .ok (.aload_n 0, 1) := by decide +kernel
theorem dL_law_1050 : decode cL_law 1050 = .ok (.iload_n 3, 1) := by decide +kernel
theorem dL_law_1051 : decode cL_law 1051 = .ok (.iconst 3, 1) := by decide +kernel
theorem dL_law_1052 : decode cL_law 1052 = .ok (.iadd, 1) := by decide +kernel
theorem dL_law_1053 : decode cL_law 1053 = .ok (.iaload, 1) := by decide +kernel
theorem dL_law_1054 : decode cL_law 1054 = .ok (.aload_n 0, 1) := by decide +kernel
theorem dL_law_1055 : decode cL_law 1055 = .ok (.iload_n 3, 1) := by decide +kernel
theorem dL_law_1056 : decode cL_law 1056 = .ok (.iconst 4, 1) := by decide +kernel
theorem dL_law_1057 : decode cL_law 1057 = .ok (.iadd, 1) := by decide +kernel
theorem dL_law_1058 : decode cL_law 1058 = .ok (.iaload, 1) := by decide +kernel
theorem dL_law_1059 : decode cL_law 1059 = .ok (.invokevirtual 108, 3) := by decide +kernel
theorem dL_law_1062 : decode cL_law 1062 = .ok (.aload_n 2, 1) := by decide +kernel
theorem dL_law_1063 : decode cL_law 1063 = .ok (.aload_n 0, 1) := by decide +kernel
theorem dL_law_1064 : decode cL_law 1064 = .ok (.iload_n 3, 1) := by decide +kernel
theorem dL_law_1065 : decode cL_law 1065 = .ok (.iconst 1, 1) := by decide +kernel
theorem dL_law_1066 : decode cL_law 1066 = .ok (.iadd, 1) := by decide +kernel
theorem dL_law_1067 : decode cL_law 1067 = .ok (.iaload, 1) := by decide +kernel
theorem dL_law_1068 : decode cL_law 1068 = .ok (.aload_n 0, 1) := by decide +kernel
theorem dL_law_1069 : decode cL_law 1069 = .ok (.iload_n 3, 1) := by decide +kernel
theorem dL_law_1070 : decode cL_law 1070 = .ok (.iconst 2, 1) := by decide +kernel
theorem dL_law_1071 : decode cL_law 1071 = .ok (.iadd, 1) := by decide +kernel
theorem dL_law_1072 : decode cL_law 1072 = .ok (.iaload, 1) := by decide +kernel
theorem dL_law_1073 : decode cL_law 1073 = .ok (.aload_n 0, 1) := by decide +kernel
theorem dL_law_1074 : decode cL_law 1074 = .ok (.iload_n 3, 1) := by decide +kernel
theorem dL_law_1075 : decode cL_law 1075 = .ok (.iconst 3, 1) := by decide +kernel
theorem dL_law_1076 : decode cL_law 1076 = .ok (.iadd, 1) := by decide +kernel
theorem dL_law_1077 : decode cL_law 1077 = .ok (.iaload, 1) := by decide +kernel
theorem dL_law_1078 : decode cL_law 1078 = .ok (.aload_n 0, 1) := by decide +kernel
theorem dL_law_1079 : decode cL_law 1079 = .ok (.iload_n 3, 1) := by decide +kernel
theorem dL_law_1080 : decode cL_law 1080 = .ok (.iconst 4, 1) := by decide +kernel
theorem dL_law_1081 : decode cL_law 1081 = .ok (.iadd, 1) := by decide +kernel
theorem dL_law_1082 : decode cL_law 1082 = .ok (.iaload, 1) := by decide +kernel
theorem dL_law_1083 : decode cL_law 1083 = .ok (.invokevirtual 112, 3) := by decide +kernel
theorem dL_law_1086 : decode cL_law 1086 = .ok (.lcmp, 1) := by decide +kernel
theorem dL_law_1087 : decode cL_law 1087 = .ok (.ifCond .eq 421, 3) := by decide +kernel
theorem dL_law_1090 : decode cL_law 1090 = .ok (.iconst 0, 1) := by decide +kernel
theorem dL_law_1091 : decode cL_law 1091 = .ok (.ireturn, 1) := by decide +kernel
theorem dL_law_1092 : decode cL_law 1092 = .ok (.aload_n 1, 1) := by decide +kernel
theorem dL_law_1093 : decode cL_law 1093 = .ok (.aload_n 0, 1) := by decide +kernel
theorem dL_law_1094 : decode cL_law 1094 = .ok (.iload_n 3, 1) := by decide +kernel
theorem dL_law_1095 : decode cL_law 1095 = .ok (.iconst 1, 1) := by decide +kernel
theorem dL_law_1096 : decode cL_law 1096 = .ok (.iadd, 1) := by decide +kernel
theorem dL_law_1097 : decode cL_law 1097 = .ok (.iaload, 1) := by decide +kernel
theorem dL_law_1098 : decode cL_law 1098 = .ok (.aload_n 0, 1) := by decide +kernel
theorem dL_law_1099 : decode cL_law 1099 = .ok (.iload_n 3, 1) := by decide +kernel
theorem dL_law_1100 : decode cL_law 1100 = .ok (.iconst 2, 1) := by decide +kernel
theorem dL_law_1101 : decode cL_law 1101 = .ok (.iadd, 1) := by decide +kernel
theorem dL_law_1102 : decode cL_law 1102 = .ok (.iaload, 1) := by decide +kernel
theorem dL_law_1103 : decode cL_law 1103 = .ok (.aload_n 0, 1) := by decide +kernel
theorem dL_law_1104 : decode cL_law 1104 = .ok (.iload_n 3, 1) := by decide +kernel
theorem dL_law_1105 : decode cL_law 1105 = .ok (.iconst 3, 1) := by decide +kernel
theorem dL_law_1106 : decode cL_law 1106 = .ok (.iadd, 1) := by decide +kernel
theorem dL_law_1107 : decode cL_law 1107 = .ok (.iaload, 1) := by decide +kernel
theorem dL_law_1108 : decode cL_law 1108 = .ok (.aload_n 0, 1) := by decide +kernel
theorem dL_law_1109 : decode cL_law 1109 = .ok (.iload_n 3, 1) := by decide +kernel
theorem dL_law_1110 : decode cL_law 1110 = .ok (.iconst 4, 1) := by decide +kernel
theorem dL_law_1111 : decode cL_law 1111 = .ok (.iadd, 1) := by decide +kernel
theorem dL_law_1112 : decode cL_law 1112 = .ok (.iaload, 1) := by decide +kernel
theorem dL_law_1113 : decode cL_law 1113 = .ok (.aload_n 0, 1) := by decide +kernel
theorem dL_law_1114 : decode cL_law 1114 = .ok (.iload_n 3, 1) := by decide +kernel
theorem dL_law_1115 : decode cL_law 1115 = .ok (.iconst 5, 1) := by decide +kernel
theorem dL_law_1116 : decode cL_law 1116 = .ok (.iadd, 1) := by decide +kernel
theorem dL_law_1117 : decode cL_law 1117 = .ok (.iaload, 1) := by decide +kernel
theorem dL_law_1118 : decode cL_law 1118 = .ok (.aload_n 0, 1) := by decide +kernel
theorem dL_law_1119 : decode cL_law 1119 = .ok (.iload_n 3, 1) := by decide +kernel
theorem dL_law_1120 : decode cL_law 1120 = .ok (.bipush 6, 2) := by decide +kernel
theorem dL_law_1122 : decode cL_law 1122 = .ok (.iadd, 1) := by decide +kernel
theorem dL_law_1123 : decode cL_law 1123 = .ok (.iaload, 1) := by decide +kernel
theorem dL_law_1124 : decode cL_law 1124 = .ok (.aload_n 0, 1) := by decide +kernel
theorem dL_law_1125 : decode cL_law 1125 = .ok (.iload_n 3, 1) := by decide +kernel
theorem dL_law_1126 : decode cL_law 1126 = .ok (.bipush 7, 2) := by decide +kernel
theorem dL_law_1128 : decode cL_law 1128 = .ok (.iadd, 1) := by decide +kernel
theorem dL_law_1129 : decode cL_law 1129 = .ok (.iaload, 1) := by decide +kernel
theorem dL_law_1130 : decode cL_law 1130 = .ok (.invokevirtual 113, 3) := by decide +kernel
theorem dL_law_1133 : decode cL_law 1133 = .ok (.aload_n 2, 1) := by decide +kernel
theorem dL_law_1134 : decode cL_law 1134 = .ok (.aload_n 0, 1) := by decide +kernel
theorem dL_law_1135 : decode cL_law 1135 = .ok (.iload_n 3, 1) := by decide +kernel
theorem dL_law_1136 : decode cL_law 1136 = .ok (.iconst 1, 1) := by decide +kernel
theorem dL_law_1137 : decode cL_law 1137 = .ok (.iadd, 1) := by decide +kernel
theorem dL_law_1138 : decode cL_law 1138 = .ok (.iaload, 1) := by decide +kernel
theorem dL_law_1139 : decode cL_law 1139 = .ok (.aload_n 0, 1) := by decide +kernel
theorem dL_law_1140 : decode cL_law 1140 = .ok (.iload_n 3, 1) := by decide +kernel
theorem dL_law_1141 : decode cL_law 1141 = .ok (.iconst 2, 1) := by decide +kernel
theorem dL_law_1142 : decode cL_law 1142 = .ok (.iadd, 1) := by decide +kernel
theorem dL_law_1143 : decode cL_law 1143 = .ok (.iaload, 1) := by decide +kernel
theorem dL_law_1144 : decode cL_law 1144 = .ok (.aload_n 0, 1) := by decide +kernel
theorem dL_law_1145 : decode cL_law 1145 = .ok (.iload_n 3, 1) := by decide +kernel
theorem dL_law_1146 : decode cL_law 1146 = .ok (.iconst 3, 1) := by decide +kernel
theorem dL_law_1147 : decode cL_law 1147 = .ok (.iadd, 1) := by decide +kernel
theorem dL_law_1148 : decode cL_law 1148 = .ok (.iaload, 1) := by decide +kernel
theorem dL_law_1149 : decode cL_law 1149 = .ok (.aload_n 0, 1) := by decide +kernel
theorem dL_law_1150 : decode cL_law 1150 = .ok (.iload_n 3, 1) := by decide +kernel
theorem dL_law_1151 : decode cL_law 1151 = .ok (.iconst 4, 1) := by decide +kernel
theorem dL_law_1152 : decode cL_law 1152 = .ok (.iadd, 1) := by decide +kernel
theorem dL_law_1153 : decode cL_law 1153 = .ok (.iaload, 1) := by decide +kernel
theorem dL_law_1154 : decode cL_law 1154 = .ok (.aload_n 0, 1) := by decide +kernel
theorem dL_law_1155 : decode cL_law 1155 = .ok (.iload_n 3, 1) := by decide +kernel
theorem dL_law_1156 : decode cL_law 1156 = .ok (.iconst 5, 1) := by decide +kernel
theorem dL_law_1157 : decode cL_law 1157 = .ok (.iadd, 1) := by decide +kernel
theorem dL_law_1158 : decode cL_law 1158 = .ok (.iaload, 1) := by decide +kernel
theorem dL_law_1159 : decode cL_law 1159 = .ok (.aload_n 0, 1) := by decide +kernel
theorem dL_law_1160 : decode cL_law 1160 = .ok (.iload_n 3, 1) := by decide +kernel
theorem dL_law_1161 : decode cL_law 1161 = .ok (.bipush 6, 2) := by decide +kernel
theorem dL_law_1163 : decode cL_law 1163 = .ok (.iadd, 1) := by decide +kernel
theorem dL_law_1164 : decode cL_law 1164 = .ok (.iaload, 1) := by decide +kernel
theorem dL_law_1165 : decode cL_law 1165 = .ok (.aload_n 0, 1) := by decide +kernel
theorem dL_law_1166 : decode cL_law 1166 = .ok (.iload_n 3, 1) := by decide +kernel
theorem dL_law_1167 : decode cL_law 1167 = .ok (.bipush 7, 2) := by decide +kernel
theorem dL_law_1169 : decode cL_law 1169 = .ok (.iadd, 1) := by decide +kernel
theorem dL_law_1170 : decode cL_law 1170 = .ok (.iaload, 1) := by decide +kernel
theorem dL_law_1171 : decode cL_law 1171 = .ok (.invokevirtual 117, 3) := by decide +kernel
theorem dL_law_1174 : decode cL_law 1174 = .ok (.if_icmp .eq 334, 3) := by decide +kernel
theorem dL_law_1177 : decode cL_law 1177 = .ok (.iconst 0, 1) := by decide +kernel
theorem dL_law_1178 : decode cL_law 1178 = .ok (.ireturn, 1) := by decide +kernel
theorem dL_law_1179 : decode cL_law 1179 = .ok (.aload_n 1, 1) := by decide +kernel
theorem dL_law_1180 : decode cL_law 1180 = .ok (.aload_n 0, 1) := by decide +kernel
theorem dL_law_1181 : decode cL_law 1181 = .ok (.iload_n 3, 1) := by decide +kernel
theorem dL_law_1182 : decode cL_law 1182 = .ok (.iconst 1, 1) := by decide +kernel
theorem dL_law_1183 : decode cL_law 1183 = .ok (.iadd, 1) := by decide +kernel
theorem dL_law_1184 : decode cL_law 1184 = .ok (.iaload, 1) := by decide +kernel
theorem dL_law_1185 : decode cL_law 1185 = .ok (.aload_n 0, 1) := by decide +kernel
theorem dL_law_1186 : decode cL_law 1186 = .ok (.iload_n 3, 1) := by decide +kernel
theorem dL_law_1187 : decode cL_law 1187 = .ok (.iconst 2, 1) := by decide +kernel
theorem dL_law_1188 : decode cL_law 1188 = .ok (.iadd, 1) := by decide +kernel
theorem dL_law_1189 : decode cL_law 1189 = .ok (.iaload, 1) := by decide +kernel
theorem dL_law_1190 : decode cL_law 1190 = .ok (.aload_n 0, 1) := by decide +kernel
theorem dL_law_1191 : decode cL_law 1191 = .ok (.iload_n 3, 1) := by decide +kernel
theorem dL_law_1192 : decode cL_law 1192 = .ok (.iconst 3, 1) := by decide +kernel
theorem dL_law_1193 : decode cL_law 1193 = .ok (.iadd, 1) := by decide +kernel
theorem dL_law_1194 : decode cL_law 1194 = .ok (.iaload, 1) := by decide +kernel
theorem dL_law_1195 : decode cL_law 1195 = .ok (.aload_n 0, 1) := by decide +kernel
theorem dL_law_1196 : decode cL_law 1196 = .ok (.iload_n 3, 1) := by decide +kernel
theorem dL_law_1197 : decode cL_law 1197 = .ok (.iconst 4, 1) := by decide +kernel
theorem dL_law_1198 : decode cL_law 1198 = .ok (.iadd, 1) := by decide +kernel
theorem dL_law_1199 : decode cL_law 1199 = .ok (.iaload, 1) := by decide +kernel
theorem dL_law_1200 : decode cL_law 1200 = .ok (.aload_n 0, 1) := by decide +kernel
theorem dL_law_1201 : decode cL_law 1201 = .ok (.iload_n 3, 1) := by decide +kernel
theorem dL_law_1202 : decode cL_law 1202 = .ok (.iconst 5, 1) := by decide +kernel
theorem dL_law_1203 : decode cL_law 1203 = .ok (.iadd, 1) := by decide +kernel
theorem dL_law_1204 : decode cL_law 1204 = .ok (.iaload, 1) := by decide +kernel
theorem dL_law_1205 : decode cL_law 1205 = .ok (.aload_n 0, 1) := by decide +kernel
end
section
theorem dL_law_1206 : decode cL_law 1206 = .ok (.iload_n 3, 1) := by decide +kernel
theorem dL_law_1207 : decode cL_law 1207 = .ok (.bipush 6, 2) := by decide +kernel
theorem dL_law_1209 : decode cL_law 1209 = .ok (.iadd, 1) := by decide +kernel
theorem dL_law_1210 : decode cL_law 1210 = .ok (.iaload, 1) := by decide +kernel
theorem dL_law_1211 : decode cL_law 1211 = .ok (.invokevirtual 118, 3) := by decide +kernel
theorem dL_law_1214 : decode cL_law 1214 = .ok (.aload_n 2, 1) := by decide +kernel
theorem dL_law_1215 : decode cL_law 1215 = .ok (.aload_n 0, 1) := by decide +kernel
theorem dL_law_1216 : decode cL_law 1216 = .ok (.iload_n 3, 1) := by decide +kernel
theorem dL_law_1217 : decode cL_law 1217 = .ok (.iconst 1, 1) := by decide +kernel
theorem dL_law_1218 : decode cL_law 1218 = .ok (.iadd, 1) := by decide +kernel
theorem dL_law_1219 : decode cL_law 1219 = .ok (.iaload, 1) := by decide +kernel
theorem dL_law_1220 : decode cL_law 1220 = .ok (.aload_n 0, 1) := by decide +kernel
theorem dL_law_1221 : decode cL_law 1221 = .ok (.iload_n 3, 1) := by decide +kernel
theorem dL_law_1222 : decode cL_law 1222 = .ok (.iconst 2, 1) := by decide +kernel
theorem dL_law_1223 : decode cL_law 1223 = .ok (.iadd, 1) := by decide +kernel
theorem dL_law_1224 : decode cL_law 1224 = .ok (.iaload, 1) := by decide +kernel
theorem dL_law_1225 : decode cL_law 1225 = .ok (.aload_n 0, 1) := by decide +kernel
theorem dL_law_1226 : decode cL_law 1226 = .ok (.iload_n 3, 1) := by decide +kernel
theorem dL_law_1227 : decode cL_law 1227 = .ok (.iconst 3, 1) := by decide +kernel
theorem dL_law_1228 : decode cL_law 1228 = .ok (.iadd, 1) := by decide +kernel
theorem dL_law_1229 : decode cL_law 1229 = .ok (.iaload, 1) := by decide +kernel
theorem dL_law_1230 : decode cL_law 1230 = .ok (.aload_n 0, 1) := by decide +kernel
theorem dL_law_1231 : decode cL_law 1231 = .ok (.iload_n 3, 1) := by decide +kernel
theorem dL_law_1232 : decode cL_law 1232 = .ok (.iconst 4, 1) := by decide +kernel
theorem dL_law_1233 : decode cL_law 1233 = .ok (.iadd, 1) := by decide +kernel
theorem dL_law_1234 : decode cL_law 1234 = .ok (.iaload, 1) := by decide +kernel
theorem dL_law_1235 : decode cL_law 1235 = .ok (.aload_n 0, 1) := by decide +kernel
theorem dL_law_1236 : decode cL_law 1236 = .ok (.iload_n 3, 1) := by decide +kernel
theorem dL_law_1237 : decode cL_law 1237 = .ok (.iconst 5, 1) := by decide +kernel
theorem dL_law_1238 : decode cL_law 1238 = .ok (.iadd, 1) := by decide +kernel
theorem dL_law_1239 : decode cL_law 1239 = .ok (.iaload, 1) := by decide +kernel
theorem dL_law_1240 : decode cL_law 1240 = .ok (.aload_n 0, 1) := by decide +kernel
theorem dL_law_1241 : decode cL_law 1241 = .ok (.iload_n 3, 1) := by decide +kernel
theorem dL_law_1242 : decode cL_law 1242 = .ok (.bipush 6, 2) := by decide +kernel
theorem dL_law_1244 : decode cL_law 1244 = .ok (.iadd, 1) := by decide +kernel
theorem dL_law_1245 : decode cL_law 1245 = .ok (.iaload, 1) := by decide +kernel
theorem dL_law_1246 : decode cL_law 1246 = .ok (.invokevirtual 122, 3) := by decide +kernel
theorem dL_law_1249 : decode cL_law 1249 = .ok (.if_icmp .eq 259, 3) := by decide +kernel
theorem dL_law_1252 : decode cL_law 1252 = .ok (.iconst 0, 1) := by decide +kernel
theorem dL_law_1253 : decode cL_law 1253 = .ok (.ireturn, 1) := by decide +kernel
theorem dL_law_1254 : decode cL_law 1254 = .ok (.aload_n 1, 1) := by decide +kernel
theorem dL_law_1255 : decode cL_law 1255 = .ok (.aload_n 0, 1) := by decide +kernel
theorem dL_law_1256 : decode cL_law 1256 = .ok (.iload_n 3, 1) := by decide +kernel
theorem dL_law_1257 : decode cL_law 1257 = .ok (.iconst 1, 1) := by decide +kernel
theorem dL_law_1258 : decode cL_law 1258 = .ok (.iadd, 1) := by decide +kernel
theorem dL_law_1259 : decode cL_law 1259 = .ok (.iaload, 1) := by decide +kernel
theorem dL_law_1260 : decode cL_law 1260 = .ok (.aload_n 0, 1) := by decide +kernel
theorem dL_law_1261 : decode cL_law 1261 = .ok (.iload_n 3, 1) := by decide +kernel
theorem dL_law_1262 : decode cL_law 1262 = .ok (.iconst 2, 1) := by decide +kernel
theorem dL_law_1263 : decode cL_law 1263 = .ok (.iadd, 1) := by decide +kernel
theorem dL_law_1264 : decode cL_law 1264 = .ok (.iaload, 1) := by decide +kernel
theorem dL_law_1265 : decode cL_law 1265 = .ok (.aload_n 0, 1) := by decide +kernel
theorem dL_law_1266 : decode cL_law 1266 = .ok (.iload_n 3, 1) := by decide +kernel
theorem dL_law_1267 : decode cL_law 1267 = .ok (.iconst 3, 1) := by decide +kernel
theorem dL_law_1268 : decode cL_law 1268 = .ok (.iadd, 1) := by decide +kernel
theorem dL_law_1269 : decode cL_law 1269 = .ok (.iaload, 1) := by decide +kernel
theorem dL_law_1270 : decode cL_law 1270 = .ok (.aload_n 0, 1) := by decide +kernel
theorem dL_law_1271 : decode cL_law 1271 = .ok (.iload_n 3, 1) := by decide +kernel
theorem dL_law_1272 : decode cL_law 1272 = .ok (.iconst 4, 1) := by decide +kernel
theorem dL_law_1273 : decode cL_law 1273 = .ok (.iadd, 1) := by decide +kernel
theorem dL_law_1274 : decode cL_law 1274 = .ok (.iaload, 1) := by decide +kernel
theorem dL_law_1275 : decode cL_law 1275 = .ok (.invokevirtual 123, 3) := by decide +kernel
theorem dL_law_1278 : decode cL_law 1278 = .ok (.aload_n 2, 1) := by decide +kernel
theorem dL_law_1279 : decode cL_law 1279 = .ok (.aload_n 0, 1) := by decide +kernel
theorem dL_law_1280 : decode cL_law 1280 = .ok (.iload_n 3, 1) := by decide +kernel
theorem dL_law_1281 : decode cL_law 1281 = .ok (.iconst 1, 1) := by decide +kernel
theorem dL_law_1282 : decode cL_law 1282 = .ok (.iadd, 1) := by decide +kernel
theorem dL_law_1283 : decode cL_law 1283 = .ok (.iaload, 1) := by decide +kernel
theorem dL_law_1284 : decode cL_law 1284 = .ok (.aload_n 0, 1) := by decide +kernel
theorem dL_law_1285 : decode cL_law 1285 = .ok (.iload_n 3, 1) := by decide +kernel
theorem dL_law_1286 : decode cL_law 1286 = .ok (.iconst 2, 1) := by decide +kernel
theorem dL_law_1287 : decode cL_law 1287 = .ok (.iadd, 1) := by decide +kernel
theorem dL_law_1288 : decode cL_law 1288 = .ok (.iaload, 1) := by decide +kernel
theorem dL_law_1289 : decode cL_law 1289 = .ok (.aload_n 0, 1) := by decide +kernel
theorem dL_law_1290 : decode cL_law 1290 = .ok (.iload_n 3, 1) := by decide +kernel
theorem dL_law_1291 : decode cL_law 1291 = .ok (.iconst 3, 1) := by decide +kernel
theorem dL_law_1292 : decode cL_law 1292 = .ok (.iadd, 1) := by decide +kernel
theorem dL_law_1293 : decode cL_law 1293 = .ok (.iaload, 1) := by decide +kernel
theorem dL_law_1294 : decode cL_law 1294 = .ok (.aload_n 0, 1) := by decide +kernel
theorem dL_law_1295 : decode cL_law 1295 = .ok (.iload_n 3, 1) := by decide +kernel
theorem dL_law_1296 : decode cL_law 1296 = .ok (.iconst 4, 1) := by decide +kernel
theorem dL_law_1297 : decode cL_law 1297 = .ok (.iadd, 1) := by decide +kernel
theorem dL_law_1298 : decode cL_law 1298 = .ok (.iaload, 1) := by decide +kernel
theorem dL_law_1299 : decode cL_law 1299 = .ok (.invokevirtual 126, 3) := by decide +kernel
theorem dL_law_1302 : decode cL_law 1302 = .ok (.if_icmp .eq 206, 3) := by decide +kernel
theorem dL_law_1305 : decode cL_law 1305 = .ok (.iconst 0, 1) := by decide +kernel
theorem dL_law_1306 : decode cL_law 1306 = .ok (.ireturn, 1) := by decide +kernel
theorem dL_law_1307 : decode cL_law 1307 = .ok (.aload_n 1, 1) := by decide +kernel
theorem dL_law_1308 : decode cL_law 1308 = .ok (.aload_n 0, 1) := by decide +kernel
theorem dL_law_1309 : decode cL_law 1309 = .ok (.iload_n 3, 1) := by decide +kernel
theorem dL_law_1310 : decode cL_law 1310 = .ok (.iconst 1, 1) := by decide +kernel
theorem dL_law_1311 : decode cL_law 1311 = .ok (.iadd, 1) := by decide +kernel
theorem dL_law_1312 : decode cL_law 1312 = .ok (.iaload, 1) := by decide +kernel
theorem dL_law_1313 : decode cL_law 1313 = .ok (.aload_n 0, 1) := by decide +kernel
theorem dL_law_1314 : decode cL_law 1314 = .ok (.iload_n 3, 1) := by decide +kernel
theorem dL_law_1315 : decode cL_law 1315 = .ok (.iconst 2, 1) := by decide +kernel
theorem dL_law_1316 : decode cL_law 1316 = .ok (.iadd, 1) := by decide +kernel
theorem dL_law_1317 : decode cL_law 1317 = .ok (.iaload, 1) := by decide +kernel
theorem dL_law_1318 : decode cL_law 1318 = .ok (.aload_n 0, 1) := by decide +kernel
theorem dL_law_1319 : decode cL_law 1319 = .ok (.iload_n 3, 1) := by decide +kernel
theorem dL_law_1320 : decode cL_law 1320 = .ok (.iconst 3, 1) := by decide +kernel
theorem dL_law_1321 : decode cL_law 1321 = .ok (.iadd, 1) := by decide +kernel
theorem dL_law_1322 : decode cL_law 1322 = .ok (.iaload, 1) := by decide +kernel
theorem dL_law_1323 : decode cL_law 1323 = .ok (.aload_n 0, 1) := by decide +kernel
theorem dL_law_1324 : decode cL_law 1324 = .ok (.iload_n 3, 1) := by decide +kernel
theorem dL_law_1325 : decode cL_law 1325 = .ok (.iconst 4, 1) := by decide +kernel
theorem dL_law_1326 : decode cL_law 1326 = .ok (.iadd, 1) := by decide +kernel
theorem dL_law_1327 : decode cL_law 1327 = .ok (.iaload, 1) := by decide +kernel
theorem dL_law_1328 : decode cL_law 1328 = .ok (.invokevirtual 127, 3) := by decide +kernel
theorem dL_law_1331 : decode cL_law 1331 = .ok (.aload_n 2, 1) := by decide +kernel
theorem dL_law_1332 : decode cL_law 1332 = .ok (.aload_n 0, 1) := by decide +kernel
theorem dL_law_1333 : decode cL_law 1333 = .ok (.iload_n 3, 1) := by decide +kernel
theorem dL_law_1334 : decode cL_law 1334 = .ok (.iconst 1, 1) := by decide +kernel
theorem dL_law_1335 : decode cL_law 1335 = .ok (.iadd, 1) := by decide +kernel
theorem dL_law_1336 : decode cL_law 1336 = .ok (.iaload, 1) := by decide +kernel
theorem dL_law_1337 : decode cL_law 1337 = .ok (.aload_n 0, 1) := by decide +kernel
theorem dL_law_1338 : decode cL_law 1338 = .ok (.iload_n 3, 1) := by decide +kernel
theorem dL_law_1339 : decode cL_law 1339 = .ok (.iconst 2, 1) := by decide +kernel
theorem dL_law_1340 : decode cL_law 1340 = .ok (.iadd, 1) := by decide +kernel
theorem dL_law_1341 : decode cL_law 1341 = .ok (.iaload, 1) := by decide +kernel
theorem dL_law_1342 : decode cL_law 1342 = .ok (.aload_n 0, 1) := by decide +kernel
theorem dL_law_1343 : decode cL_law 1343 = .ok (.iload_n 3, 1) := by decide +kernel
theorem dL_law_1344 : decode cL_law 1344 = .ok (.iconst 3, 1) := by decide +kernel
theorem dL_law_1345 : decode cL_law 1345 = .ok (.iadd, 1) := by decide +kernel
theorem dL_law_1346 : decode cL_law 1346 = .ok (.iaload, 1) := by decide +kernel
theorem dL_law_1347 : decode cL_law 1347 = .ok (.aload_n 0, 1) := by decide +kernel
theorem dL_law_1348 : decode cL_law 1348 = .ok (.iload_n 3, 1) := by decide +kernel
theorem dL_law_1349 : decode cL_law 1349 = .ok (.iconst 4, 1) := by decide +kernel
theorem dL_law_1350 : decode cL_law 1350 = .ok (.iadd, 1) := by decide +kernel
theorem dL_law_1351 : decode cL_law 1351 = .ok (.iaload, 1) := by decide +kernel
theorem dL_law_1352 : decode cL_law 1352 = .ok (.invokevirtual 130, 3) := by decide +kernel
theorem dL_law_1355 : decode cL_law 1355 = .ok (.if_icmp .eq 153, 3) := by decide +kernel
theorem dL_law_1358 : decode cL_law 1358 = .ok (.iconst 0, 1) := by decide +kernel
theorem dL_law_1359 : decode cL_law 1359 = .ok (.ireturn, 1) := by decide +kernel
theorem dL_law_1360 : decode cL_law 1360 = .ok (.aload_n 1, 1) := by decide +kernel
theorem dL_law_1361 : decode cL_law 1361 = .ok (.aload_n 0, 1) := by decide +kernel
theorem dL_law_1362 : decode cL_law 1362 = .ok (.iload_n 3, 1) := by decide +kernel
theorem dL_law_1363 : decode cL_law 1363 = .ok (.iconst 1, 1) := by decide +kernel
theorem dL_law_1364 : decode cL_law 1364 = .ok (.iadd, 1) := by decide +kernel
theorem dL_law_1365 : decode cL_law 1365 = .ok (.iaload, 1) := by decide +kernel
theorem dL_law_1366 : decode cL_law 1366 = .ok (.invokevirtual 131, 3) := by decide +kernel
theorem dL_law_1369 : decode cL_law 1369 = .ok (.aload_n 2, 1) := by decide +kernel
theorem dL_law_1370 : decode cL_law 1370 = .ok (.aload_n 0, 1) := by decide +kernel
theorem dL_law_1371 : decode cL_law 1371 = .ok (.iload_n 3, 1) := by decide +kernel
theorem dL_law_1372 : decode cL_law 1372 = .ok (.iconst 1, 1) := by decide +kernel
theorem dL_law_1373 : decode cL_law 1373 = .ok (.iadd, 1) := by decide +kernel
theorem dL_law_1374 : decode cL_law 1374 = .ok (.iaload, 1) := by decide +kernel
theorem dL_law_1375 : decode cL_law 1375 = .ok (.invokevirtual 134, 3) := by decide +kernel
theorem dL_law_1378 : decode cL_law 1378 = .ok (.if_icmp .eq 130, 3) := by decide +kernel
theorem dL_law_1381 : decode cL_law 1381 = .ok (.iconst 0, 1) := by decide +kernel
theorem dL_law_1382 : decode cL_law 1382 = .ok (.ireturn, 1) := by decide +kernel
theorem dL_law_1383 : decode cL_law 1383 = .ok (.aload_n 1, 1) := by decide +kernel
theorem dL_law_1384 : decode cL_law 1384 = .ok (.aload_n 0, 1) := by decide +kernel
theorem dL_law_1385 : decode cL_law 1385 = .ok (.iload_n 3, 1) := by decide +kernel
theorem dL_law_1386 : decode cL_law 1386 = .ok (.iconst 1, 1) := by decide +kernel
theorem dL_law_1387 : decode cL_law 1387 = .ok (.iadd, 1) := by decide +kernel
theorem dL_law_1388 : decode cL_law 1388 = .ok (.iaload, 1) := by decide +kernel
theorem dL_law_1389 : decode cL_law 1389 = .ok (.aload_n 0, 1) := by decide +kernel
theorem dL_law_1390 : decode cL_law 1390 = .ok (.iload_n 3, 1) := by decide +kernel
theorem dL_law_1391 : decode cL_law 1391 = .ok (.iconst 2, 1) := by decide +kernel
theorem dL_law_1392 : decode cL_law 1392 = .ok (.iadd, 1) := by decide +kernel
theorem dL_law_1393 : decode cL_law 1393 = .ok (.iaload, 1) := by decide +kernel
theorem dL_law_1394 : decode cL_law 1394 = .ok (.invokevirtual 135, 3) := by decide +kernel
theorem dL_law_1397 : decode cL_law 1397 = .ok (.aload_n 2, 1) := by decide +kernel
theorem dL_law_1398 : decode cL_law 1398 = .ok (.aload_n 0, 1) := by decide +kernel
theorem dL_law_1399 : decode cL_law 1399 = .ok (.iload_n 3, 1) := by decide +kernel
theorem dL_law_1400 : decode cL_law 1400 = .ok (.iconst 1, 1) := by decide +kernel
theorem dL_law_1401 : decode cL_law 1401 = .ok (.iadd, 1) := by decide +kernel
theorem dL_law_1402 : decode cL_law 1402 = .ok (.iaload, 1) := by decide +kernel
theorem dL_law_1403 : decode cL_law 1403 = .ok (.aload_n 0, 1) := by decide +kernel
theorem dL_law_1404 : decode cL_law 1404 = .ok (.iload_n 3, 1) := by decide +kernel
theorem dL_law_1405 : decode cL_law 1405 = .ok (.iconst 2, 1) := by decide +kernel
theorem dL_law_1406 : decode cL_law 1406 = .ok (.iadd, 1) := by decide +kernel
theorem dL_law_1407 : decode cL_law 1407 = .ok (.iaload, 1) := by decide +kernel
theorem dL_law_1408 : decode cL_law 1408 = .ok (.invokevirtual 138, 3) := by decide +kernel
theorem dL_law_1411 : decode cL_law 1411 = .ok (.if_icmp .eq 97, 3) := by decide +kernel
theorem dL_law_1414 : decode cL_law 1414 = .ok (.iconst 0, 1) := by decide +kernel
theorem dL_law_1415 : decode cL_law 1415 = .ok (.ireturn, 1) := by decide +kernel
theorem dL_law_1416 : decode cL_law 1416 = .ok (.aload_n 1, 1) := by decide +kernel
theorem dL_law_1417 : decode cL_law 1417 = .ok (.aload_n 0, 1) := by decide +kernel
theorem dL_law_1418 : decode cL_law 1418 = .ok (.iload_n 3, 1) := by decide +kernel
theorem dL_law_1419 : decode cL_law 1419 = .ok (.iconst 1, 1) := by decide +kernel
theorem dL_law_1420 : decode cL_law 1420 = .ok (.iadd, 1) := by decide +kernel
theorem dL_law_1421 : decode cL_law 1421 = .ok (.iaload, 1) := by decide +kernel
theorem dL_law_1422 : decode cL_law 1422 = .ok (.aload_n 0, 1) := by decide +kernel
theorem dL_law_1423 : decode cL_law 1423 = .ok (.iload_n 3, 1) := by decide +kernel
theorem dL_law_1424 : decode cL_law 1424 = .ok (.iconst 2, 1) := by decide +kernel
theorem dL_law_1425 : decode cL_law 1425 = .ok (.iadd, 1) := by decide +kernel
theorem dL_law_1426 : decode cL_law 1426 = .ok (.iaload, 1) := by decide +kernel
theorem dL_law_1427 : decode cL_law 1427 = .ok (.invokevirtual 139, 3) := by decide +kernel
theorem dL_law_1430 : decode cL_law 1430 = .ok (.aload_n 2, 1) := by decide +kernel
theorem dL_law_1431 : decode cL_law 1431 = .ok (.aload_n 0, 1) := by decide +kernel
theorem dL_law_1432 : decode cL_law 1432 = .ok (.iload_n 3, 1) := by decide +kernel
theorem dL_law_1433 : decode cL_law 1433 = .ok (.iconst 1, 1) := by decide +kernel
theorem dL_law_1434 : decode cL_law 1434 = .ok (.iadd, 1) := by decide +kernel
theorem dL_law_1435 : decode cL_law 1435 = .ok (.iaload, 1) := by decide +kernel
theorem dL_law_1436 : decode cL_law 1436 = .ok (.aload_n 0, 1) := by decide +kernel
theorem dL_law_1437 : decode cL_law 1437 = .ok (.iload_n 3, 1) := by decide +kernel
theorem dL_law_1438 : decode cL_law 1438 = .ok (.iconst 2, 1) := by decide +kernel
theorem dL_law_1439 : decode cL_law 1439 = .ok (.iadd, 1) := by decide +kernel
theorem dL_law_1440 : decode cL_law 1440 = .ok (.iaload, 1) := by decide +kernel
theorem dL_law_1441 : decode cL_law 1441 = .ok (.invokevirtual 142, 3) := by decide +kernel
theorem dL_law_1444 : decode cL_law 1444 = .ok (.if_icmp .eq 64, 3) := by decide +kernel
theorem dL_law_1447 : decode cL_law 1447 = .ok (.iconst 0, 1) := by decide +kernel
theorem dL_law_1448 : decode cL_law 1448 = .ok (.ireturn, 1) := by decide +kernel
theorem dL_law_1449 : decode cL_law 1449 = .ok (.aload_n 1, 1) := by decide +kernel
theorem dL_law_1450 : decode cL_law 1450 = .ok (.aload_n 0, 1) := by decide +kernel
theorem dL_law_1451 : decode cL_law 1451 = .ok (.iload_n 3, 1) := by decide +kernel
theorem dL_law_1452 : decode cL_law 1452 = .ok (.iconst 1, 1) := by decide +kernel
theorem dL_law_1453 : decode cL_law 1453 = .ok (.iadd, 1) := by decide +kernel
theorem dL_law_1454 : decode cL_law 1454 = .ok (.iaload, 1) := by decide +kernel
theorem dL_law_1455 : decode cL_law 1455 = .ok (.invokevirtual 143, 3) := by decide +kernel
theorem dL_law_1458 : decode cL_law 1458 = .ok (.aload_n 2, 1) := by decide +kernel
theorem dL_law_1459 : decode cL_law 1459 = .ok (.aload_n 0, 1) := by decide +kernel
theorem dL_law_1460 : decode cL_law 1460 = .ok (.iload_n 3, 1) := by decide +kernel
theorem dL_law_1461 : decode cL_law 1461 = .ok (.iconst 1, 1) := by decide +kernel
theorem dL_law_1462 : decode cL_law 1462 = .ok (.iadd, 1) := by decide +kernel
theorem dL_law_1463 : decode cL_law 1463 = .ok (.iaload, 1) := by decide +kernel
theorem dL_law_1464 : decode cL_law 1464 = .ok (.invokevirtual 146, 3) := by decide +kernel
theorem dL_law_1467 : decode cL_law 1467 = .ok (.if_icmp .eq 41, 3) := by decide +kernel
theorem dL_law_1470 : decode cL_law 1470 = .ok (.iconst 0, 1) := by decide +kernel
theorem dL_law_1471 : decode cL_law 1471 = .ok (.ireturn, 1) := by decide +kernel
theorem dL_law_1472 : decode cL_law 1472 = .ok (.aload_n 1, 1) := by decide +kernel
theorem dL_law_1473 : decode cL_law 1473 = .ok (.aload_n 0, 1) := by decide +kernel
theorem dL_law_1474 : decode cL_law 1474 = .ok (.iload_n 3, 1) := by decide +kernel
theorem dL_law_1475 : decode cL_law 1475 = .ok (.iconst 1, 1) := by decide +kernel
theorem dL_law_1476 : decode cL_law 1476 = .ok (.iadd, 1) := by decide +kernel
theorem dL_law_1477 : decode cL_law 1477 = .ok (.iaload, 1) := by decide +kernel
theorem dL_law_1478 : decode cL_law 1478 = .ok (.invokevirtual 147, 3) := by decide +kernel
theorem dL_law_1481 : decode cL_law 1481 = .ok (.aload_n 2, 1) := by decide +kernel
theorem dL_law_1482 : decode cL_law 1482 = .ok (.aload_n 0, 1) := by decide +kernel
theorem dL_law_1483 : decode cL_law 1483 = .ok (.iload_n 3, 1) := by decide +kernel
theorem dL_law_1484 : decode cL_law 1484 = .ok (.iconst 1, 1) := by decide +kernel
theorem dL_law_1485 : decode cL_law 1485 = .ok (.iadd, 1) := by decide +kernel
theorem dL_law_1486 : decode cL_law 1486 = .ok (.iaload, 1) := by decide +kernel
theorem dL_law_1487 : decode cL_law 1487 = .ok (.invokevirtual 150, 3) := by decide +kernel
theorem dL_law_1490 : decode cL_law 1490 = .ok (.if_icmp .eq 18, 3) := by decide +kernel
theorem dL_law_1493 : decode cL_law 1493 = .ok (.iconst 0, 1) := by decide +kernel
theorem dL_law_1494 : decode cL_law 1494 = .ok (.ireturn, 1) := by decide +kernel
theorem dL_law_1495 : decode cL_law 1495 = .ok (.aload_n 1, 1) := by decide +kernel
theorem dL_law_1496 : decode cL_law 1496 = .ok (.invokevirtual 151, 3) := by decide +kernel
theorem dL_law_1499 : decode cL_law 1499 = .ok (.aload_n 2, 1) := by decide +kernel
theorem dL_law_1500 : decode cL_law 1500 = .ok (.invokevirtual 154, 3) := by decide +kernel
theorem dL_law_1503 : decode cL_law 1503 = .ok (.if_icmp .eq 5, 3) := by decide +kernel
theorem dL_law_1506 : decode cL_law 1506 = .ok (.iconst 0, 1) := by decide +kernel
theorem dL_law_1507 : decode cL_law 1507 = .ok (.ireturn, 1) := by decide +kernel
theorem dL_law_1508 : decode cL_law 1508 = .ok (.iinc 3 8, 3) := by decide +kernel
theorem dL_law_1511 : decode cL_law 1511 = .ok (.goto (-1493), 3) := by decide +kernel
theorem dL_law_1514 : decode cL_law 1514 = .ok (.iconst 1, 1) := by decide +kernel
theorem dL_law_1515 : decode cL_law 1515 = .ok (.ireturn, 1) := by decide +kernel
end
section
/-! THE WORDS: those that every method may use, and the nest mates' -/
def wA : List Cond := lw_tbl.filter goodWord
theorem wA_of {w : Cond} (h : w ∈ lw_tbl) (g : goodWord w = true) : w ∈ wA := List.mem_filter.mpr ⟨h, g⟩
theorem wA_t {w : Cond} (i : Nat) (h : tables_1[i]? = some w) (g : goodWord w = true) : w ∈ wA := wA_of (List.mem_append_right _ (List.mem_of_getElem? h)) g
theorem wA_p {w : Cond} (i : Nat) (h : (k2_sels lw_privs)[i]? = some w) (g : goodWord w = true) : w ∈ wA := wA_of (List.mem_append_left _ (List.mem_of_getElem? h)) g
theorem wA_good {w : Cond} (h : w ∈ wA) : w ∈ wA ∧ ((w.onTables && w.keeps) = true ∨ ∃ ty, w = .arrayClass ty) := ⟨h, good_of_word (List.mem_filter.mp h).2⟩
def isNest : Cond → Bool
  | .fieldLinkNest .. => true
  | .methodLinkNest .. => true
  | _ => false
def wN : List Cond := tables_1.filter isNest
theorem wN_t {w : Cond} (i : Nat) (h : tables_1[i]? = some w) (g : isNest w = true) : w ∈ wN := List.mem_filter.mpr ⟨List.mem_of_getElem? h, g⟩
theorem wN_warm {w : Cond} {s U : State} (h : w ∈ wN) (hW : s.WarmedH U.vm) (hZ : va_Nw w s) : va_Nw w U := by
  have g := (List.mem_filter.mp h).2
  cases w <;> first | exact va_Nw.warmF hW hZ | exact va_Nw.warmM hW hZ | cases g
theorem wN_same {w : Cond} {s U : State} (h : w ∈ wN) (hv : s.vm = U.vm) (hZ : va_Nw w s) : va_Nw w U := by
  have g := (List.mem_filter.mp h).2
  cases w <;> first | exact va_Nw.same rfl hv hZ | cases g
/-! THE WORLD: cells by number, k at address base + k. V: classes' numbers and slots, array classes, base, the outer arrays' addresses. T: how many cells, what each is, the references. M: the numbers -/
abbrev Vx : Type := va_G × (Nat → ClassId) × Nat × (Nat → Nat)
abbrev Tt : Type := Nat × (Nat → Nat × Nat) × (Nat → Nat → Option Nat)
abbrev Mm : Type := (Nat → Nat → Int32) × (Nat → Nat → Int64)
def tyc : Nat → Nat → FieldType := fun c => match c with
  | 0 => tyX0 | 1 => tyX1 | 2 => tyX2 | 3 => tyX3 | 4 => tyX4 | 5 => tyX5 | 6 => tyX6 | 7 => tyX7 | 8 => tyX8 | 9 => tyX9 | 10 => tyX10 | 11 => tyX11 | _ => tyX12
def nfc : Nat → Nat := fun c => match c with
  | 0 => 5 | 1 => 2 | 2 => 6 | 3 => 3 | 4 => 3 | 5 => 2 | 6 => 3 | 7 => 2 | 8 => 4 | 9 => 3 | 10 => 3 | 11 => 13 | _ => 29
def clsC : Nat → String := fun c => match c with
  | 0 => RX0 | 1 => RX1 | 2 => RX2 | 3 => RX3 | 4 => RX4 | 5 => RX5 | 6 => RX6 | 7 => RX7 | 8 => RX8 | 9 => RX9 | 10 => RX10 | 11 => RX11 | _ => RX12
def clsF : Nat → u_T := fun c => match c with
  | 0 => TX0 | 1 => TX1 | 2 => TX2 | 3 => TX3 | 4 => TX4 | 5 => TX5 | 6 => TX6 | 7 => TX7 | 8 => TX8 | 9 => TX9 | 10 => TX10 | 11 => TX11 | _ => TX12
def tv (V : Vx) (v : Value) : Value := match v with
  | .ref k => .ref (V.2.2.1 + k)
  | .retAddr n => .ref (V.2.2.2 n)
  | w => w
def tvs (V : Vx) (st : List Value) : List Value := st.map (tv V)
def tvl (V : Vx) (als : List (Nat × Value)) : List (Nat × Value) := als.map (fun q => (q.1, tv V q.2))
theorem tv_cat (V : Vx) (v : Value) : (tv V v).category = v.category := by cases v <;> rfl
def fv (V : Vx) (T : Tt) (M : Mm) (k c j : Nat) : Value := match tyc c j with
  | .int => .int (M.1 k j)
  | .long => .long (M.2 k j)
  | _ => va_rf ((T.2.2 k j).map (V.2.2.1 + ·))
def cellE (V : Vx) (T : Tt) (M : Mm) (k : Nat) : va_E :=
  if (T.2.1 k).1 < 13 then .inr ((T.2.1 k).1, (List.range (nfc (T.2.1 k).1)).map (fv V T M k (T.2.1 k).1))
  else if (T.2.1 k).1 < 22 then .inl (V.2.1 ((T.2.1 k).1 - 20), (T.2.1 k).2, .inl (M.1 k))
  else .inl (V.2.1 ((T.2.1 k).1 - 20), (T.2.1 k).2, .inr (.inr (.inr (.inr (fun j => (T.2.2 k j).map (V.2.2.1 + ·))))))
def wsW (V : Vx) (T : Tt) (M : Mm) : va_W := (List.range T.1).map (fun k => (V.2.2.1 + k, cellE V T M k))
def AV (V : Vx) : Nat → Prop := fun q => V.2.2.1 ≤ q
def tysV (V : Vx) : List (ClassId × FieldType) := [(V.2.1 0, .int), (V.2.1 1, .boolean), (V.2.1 2, .object RX6), (V.2.1 3, .object RX9), (V.2.1 4, .object RX10), (V.2.1 5, .object RX8)]
def Hp (V : Vx) (T : Tt) (M : Mm) (H : Heap) : Prop := va_P V.1 vwCl (wsW V T M) H ∧ (T.1 < 113 → H.size = V.2.2.1 + T.1)
theorem wsW_get {V : Vx} {T : Tt} {M : Mm} {k : Nat} (h : k < T.1) : (wsW V T M)[k]? = some (V.2.2.1 + k, cellE V T M k) := by simp [wsW, h]
theorem wsW_at {V : Vx} {T : Tt} {M : Mm} {k : Nat} {q : Nat × va_E} (h : (wsW V T M)[k]? = some q) : k < T.1 ∧ q.1 = V.2.2.1 + k := by
  have hl : k < (wsW V T M).length := (List.getElem?_eq_some_iff.mp h).1
  have hk : k < T.1 := by simpa [wsW] using hl
  rw [wsW_get hk] at h
  cases h
  exact ⟨hk, rfl⟩
theorem wsW_D (V : Vx) (T : Tt) (M : Mm) : va_D (AV V) (wsW V T M) := by
  refine ⟨fun i j x y hi hj hxy => ?_, fun k q hk => ?_⟩
  · have h1 := (wsW_at hi).2
    have h2 := (wsW_at hj).2
    omega
  · rw [(wsW_at hk).2]
    exact Nat.le_add_right _ _
theorem wsW_set {V : Vx} {T T' : Tt} {M M' : Mm} {k : Nat} {E : va_E} (h : k < T.1) (h1 : T'.1 = T.1) (h2 : cellE V T' M' k = E) (h3 : ∀ i, i ≠ k → cellE V T' M' i = cellE V T M i) : (wsW V T M).set k (V.2.2.1 + k, E) = wsW V T' M' := by
  apply List.ext_getElem?
  intro i
  by_cases hi : i < T.1
  · rw [wsW_get (show i < T'.1 by omega)]
    by_cases hk : i = k
    · subst hk
      rw [List.getElem?_set_self (by simpa [wsW] using hi), h2]
    · rw [List.getElem?_set_ne (Ne.symm hk), wsW_get hi, h3 i hk]
  · rw [List.getElem?_eq_none (by simp [wsW]; omega), List.getElem?_eq_none (by simp [wsW]; omega)]
theorem cell_o {V : Vx} {T : Tt} {M : Mm} {k c n : Nat} (hc : T.2.1 k = (c, n)) (h : c < 13) : cellE V T M k = .inr (c, (List.range (nfc c)).map (fv V T M k c)) := by simp [cellE, hc, h]
theorem cell_i {V : Vx} {T : Tt} {M : Mm} {k n : Nat} (hc : T.2.1 k = (20, n)) : cellE V T M k = .inl (V.2.1 0, n, .inl (M.1 k)) := by simp [cellE, hc]
theorem cell_z {V : Vx} {T : Tt} {M : Mm} {k n : Nat} (hc : T.2.1 k = (21, n)) : cellE V T M k = .inl (V.2.1 1, n, .inl (M.1 k)) := by simp [cellE, hc]
theorem cell_r {V : Vx} {T : Tt} {M : Mm} {k c n : Nat} (hc : T.2.1 k = (c, n)) (h : 22 ≤ c) : cellE V T M k = .inl (V.2.1 (c - 20), n, .inr (.inr (.inr (.inr (fun j => (T.2.2 k j).map (V.2.2.1 + ·)))))) := by
  simp [cellE, hc, show ¬ c < 13 by omega, show ¬ c < 22 by omega]
def wi (M : Mm) (k j : Nat) (v : Int32) : Mm := (fun a b => if a = k ∧ b = j then v else M.1 a b, M.2)
def wl (M : Mm) (k j : Nat) (v : Int64) : Mm := (M.1, fun a b => if a = k ∧ b = j then v else M.2 a b)
def wr (T : Tt) (k j : Nat) (v : Option Nat) : Tt := (T.1, T.2.1, fun a b => if a = k ∧ b = j then v else T.2.2 a b)
theorem wi_ne {M : Mm} {k j i b : Nat} {v : Int32} (h : i ≠ k) : (wi M k j v).1 i b = M.1 i b := by simp [wi, h]
theorem cellE_wi {V : Vx} {T : Tt} {M : Mm} {k j : Nat} {v : Int32} : ∀ i, i ≠ k → cellE V T (wi M k j v) i = cellE V T M i := by
  intro i hi
  have h1 : (wi M k j v).1 i = M.1 i := by funext b; exact wi_ne hi
  have h2 : ∀ c, fv V T (wi M k j v) i c = fv V T M i c := by intro c; funext b; simp only [fv, h1]; rfl
  simp only [cellE, h1, h2]
theorem cellE_wl {V : Vx} {T : Tt} {M : Mm} {k j : Nat} {v : Int64} : ∀ i, i ≠ k → cellE V T (wl M k j v) i = cellE V T M i := by
  intro i hi
  have h1 : (wl M k j v).2 i = M.2 i := by funext b; simp [wl, hi]
  have h2 : ∀ c, fv V T (wl M k j v) i c = fv V T M i c := by intro c; funext b; simp only [fv, h1]; rfl
  simp only [cellE, h2]
  rfl
theorem cellE_wr {V : Vx} {T : Tt} {M : Mm} {k j : Nat} {v : Option Nat} : ∀ i, i ≠ k → cellE V (wr T k j v) M i = cellE V T M i := by
  intro i hi
  have h1 : (wr T k j v).2.2 i = T.2.2 i := by funext b; simp [wr, hi]
  have h2 : ∀ c, fv V (wr T k j v) M i c = fv V T M i c := by intro c; funext b; simp only [fv, h1]
  simp only [cellE, h2, h1]
  rfl
/-- a field's list, one place changed -/
theorem fs_set {f g : Nat → Value} {n j : Nat} {w : Value} (h1 : g j = w) (h2 : ∀ i, i ≠ j → g i = f i) : ((List.range n).map f).set j w = (List.range n).map g := by
  apply List.ext_getElem?
  intro i
  by_cases hi : i < n
  · by_cases hj : i = j
    · subst hj
      rw [List.getElem?_set_self (by simpa using hi)]
      simp [hi, h1]
    · rw [List.getElem?_set_ne (Ne.symm hj)]
      simp [hi, h2 i hj]
  · rw [List.getElem?_eq_none (by simp; omega), List.getElem?_eq_none (by simp; omega)]
/-! THE CELLS behind the two constructors: LensTable is cell 0, LensTableModel cell 96 -/
def T0ty (k : Nat) : Nat × Nat :=
  if k < 22 then ([(11, 0), (22, 8), (4, 0), (20, 7), (20, 17), (20, 101), (23, 24), (2, 0), (24, 8), (1, 0), (5, 0), (20, 24), (5, 0), (20, 24), (3, 0), (20, 9), (20, 9), (25, 2), (7, 0), (8, 0), (0, 0), (20, 16)] : List (Nat × Nat)).getD k (99, 0)
  else if k < 38 then (if k % 2 = 0 then (6, 0) else (20, 80))
  else if k < 62 then (9, 0)
  else if k < 94 then (if k % 4 = 2 then (10, 0) else if k % 4 = 3 then (21, 24) else (20, 24))
  else if k < 96 then (8, 0)
  else ([(12, 0), (20, 8), (20, 8), (20, 640), (20, 7), (20, 17), (20, 24), (20, 24), (20, 24), (21, 192), (20, 192), (20, 192), (20, 24), (20, 9), (20, 9), (20, 8), (20, 16)] : List (Nat × Nat)).getD (k - 96) (99, 0)
def T0r (k j : Nat) : Option Nat :=
  if k = 0 then ([some 1, some 2, some 6, none, some 7, some 8, some 9, some 14, some 17, some 18, some 19, some 20] : List (Option Nat)).getD j none
  else if k = 1 then (if j < 8 then some (22 + 2 * j) else none)
  else if k = 2 then (if j < 3 then some (3 + j) else none)
  else if k = 6 then (if j < 24 then some (38 + j) else none)
  else if k = 8 then (if j < 8 then some (62 + 4 * j) else none)
  else if k = 9 then (if j < 2 then some (10 + 2 * j) else none)
  else if k = 10 then (if j = 0 then some 11 else none)
  else if k = 12 then (if j = 0 then some 13 else none)
  else if k = 14 then (if j < 2 then some (15 + j) else none)
  else if k = 17 then (if j < 2 then some (94 + j) else none)
  else if k = 20 then (if j = 0 then some 21 else none)
  else if k < 22 then none
  else if k < 38 then (if k % 2 = 0 ∧ j = 0 then some (k + 1) else none)
  else if k < 62 then none
  else if k < 94 then (if k % 4 = 2 ∧ j < 3 then some (k + 1 + j) else none)
  else if k = 96 then ([none, none, some 97, some 98, some 99, some 100, some 101, none, some 102, some 103, some 104, some 105, some 106, some 107, none, none, none, none, some 108, some 109, some 110, none, some 111, none, none, none, none, some 112] : List (Option Nat)).getD j none
  else none
def T0 : Tt := (113, T0ty, T0r)
theorem T0_small : ∀ k, k < 113 → (T0ty k).2 < 1000 := by decide +kernel
end
section
/-! THE WALK over the numbered world -/
def nLeast (j : Nat) : Int32 := ([0, 1, 1, 0, 0, 1, 1] : List Int32).getD j 0
def nMost (j : Nat) : Int32 := ([500, 100, 1000, 1, 50, 400, 400] : List Int32).getD j 0
/-- what holds of the tables and of the outer cells at a method's entry -/
def Ks (V : Vx) (s : State) : Prop := va_K V.1 vwCl (tysV V) s ∧ (∀ w ∈ wN, va_Nw w s) ∧ (va_AO RX6 s ∧ va_AO RX9 s ∧ va_AO RX10 s ∧ va_AO RX8 s) ∧ V.2.2.1 ≤ s.heap.size ∧
  (va_Z RX11 "NUMBER_LEAST" "[I" (.ref (V.2.2.2 1)) (AV V) s s.heap ∧ va_T .int (V.2.2.2 1) 7 (fun j => .int (nLeast j)) (AV V) s s.heap) ∧
  (va_Z RX11 "NUMBER_MOST" "[I" (.ref (V.2.2.2 2)) (AV V) s s.heap ∧ va_T .int (V.2.2.2 2) 7 (fun j => .int (nMost j)) (AV V) s s.heap)
theorem Ks_to {V : Vx} {s U : State} {H : Heap} {locs : List Loc} (h : Ks V s) (hU : U.heap = H) (hS : va_S (AV V) s.heap H locs) (hW : s.WarmedH U.vm) : Ks V U := by
  obtain ⟨h1, h2, ⟨a1, a2, a3, a4⟩, h4, ⟨z1, t1⟩, z2, t2⟩ := h
  subst hU
  exact ⟨va_K.moved hW.alike h1, fun w hw => wN_warm hw hW (h2 w hw), ⟨a1.moved hW.alike, a2.moved hW.alike, a3.moved hW.alike, a4.moved hW.alike⟩, Nat.le_trans h4 hS.1,
    ⟨(z1.moved hW.alike).kept hS.2.1, (t1.moved hW.alike).kept hS.2.1⟩, (z2.moved hW.alike).kept hS.2.1, (t2.moved hW.alike).kept hS.2.1⟩
theorem Ks_calling {V : Vx} {U : State} (g : JFrame) (mk : MethodId) (a : Array Value) (h : Ks V U) : Ks V (U.calling g mk a) := by
  obtain ⟨h1, h2, ⟨a1, a2, a3, a4⟩, h4, ⟨z1, t1⟩, z2, t2⟩ := h
  have hv : U.vm.Alike (U.calling g mk a).vm := Vm.Alike.refl U.vm
  exact ⟨va_K.moved hv h1, fun w hw => wN_same (s := U) (U := U.calling g mk a) hw rfl (h2 w hw), ⟨a1.moved hv, a2.moved hv, a3.moved hv, a4.moved hv⟩, h4,
    ⟨z1.moved hv, t1.moved hv⟩, z2.moved hv, t2.moved hv⟩
abbrev Ctx : Type := Program × Launch × Env × Room × State × MethodId × Array Value × List Frame × Method × Code
abbrev cP (X : Ctx) : Program := X.1
abbrev cL (X : Ctx) : Launch := X.2.1
abbrev cE (X : Ctx) : Env := X.2.2.1
abbrev cR (X : Ctx) : Room := X.2.2.2.1
abbrev cS (X : Ctx) : State := X.2.2.2.2.1
abbrev cM (X : Ctx) : MethodId := X.2.2.2.2.2.1
abbrev cA (X : Ctx) : Array Value := X.2.2.2.2.2.2.1
abbrev cB (X : Ctx) : List Frame := X.2.2.2.2.2.2.2.1
abbrev cT (X : Ctx) : Method := X.2.2.2.2.2.2.2.2.1
abbrev cC (X : Ctx) : Code := X.2.2.2.2.2.2.2.2.2
abbrev WX (X : Ctx) (H : Heap) (locs : List Loc) (cells slots : Nat) (Q : State → Prop) (g : JFrame) : Prop := W (cP X) (cL X) (cE X) (cR X) (cS X) (cM X) (cA X) (cB X) (cT X) (cC X) H locs cells slots Q g
/-- a method: its name, its code, its locals, what it returns -/
abbrev MB : Type := MethodName × ByteArray × Nat × Option FieldType
def Cx (X : Ctx) (V : Vx) (mb : MB) (d : Nat) : Prop :=
  (cP X).tables.exec = Jvm.exec ∧ (cC X).code = mb.2.1 ∧ (cC X).maxLocals = mb.2.2.1 ∧ (cS X).vm.findClass mb.1.cls = some (cM X).cls ∧ (∀ w ∈ wA, w.before (cA X) (cS X) = true) ∧ Ks V (cS X) ∧
  (cT X).sig.returnType = mb.2.2.2 ∧ (cT X).locks = false ∧ (cT X).name = mb.1.name ∧ d ≤ (cR X).frames ∧ 34 * d ≤ (cR X).locals
/-- the machine at pc with these locals and this stack, the world being T, M, comes to Q -/
def AW (X : Ctx) (V : Vx) (nL : Nat) (T : Tt) (M : Mm) (cl sl : Nat) (Q : State → Prop) (pc : Nat) (als : List (Nat × Value)) (st : List Value) : Prop :=
  ∀ (H : Heap) (locs : List Loc) (ls : Array Slot), Hp V T M H → va_S (AV V) (cS X).heap H locs → lv_has ls nL (tvl V als) → WX X H locs cl sl Q (F0 (cM X) pc ls (tvs V st))
theorem tvl_at {V : Vx} {als : List (Nat × Value)} {n i : Nat} {v : Value} (h : als[n]? = some (i, v)) : (tvl V als)[n]? = some (i, tv V v) := by simp [tvl, h]
theorem ls_at {V : Vx} {als : List (Nat × Value)} {ls : Array Slot} {nL n i : Nat} {v : Value} (hl : lv_has ls nL (tvl V als)) (h : als[n]? = some (i, v)) : ls[i]? = some (.val (tv V v)) := lv_at hl n (tvl_at h)
theorem tvl_filter (V : Vx) (f : Nat → Nat → Bool) (als : List (Nat × Value)) : (tvl V als).filter (fun q => f q.1 q.2.category) = tvl V (als.filter (fun q => f q.1 q.2.category)) := by
  unfold tvl
  rw [List.filter_map]
  congr 1
  apply List.filter_congr
  intro q _
  simp [Function.comp, tv_cat]
theorem tvl_st1 {V : Vx} {als als' : List (Nat × Value)} {i : Nat} {v : Value} (h : (i, v) :: als.filter (fun q => !(q.1 == i) && !(q.1 + 1 == i && q.2.category == 2)) = als') : (i, tv V v) :: (tvl V als).filter (fun q => !(q.1 == i) && !(q.1 + 1 == i && q.2.category == 2)) = tvl V als' := by
  rw [← h, tvl_filter V (fun a b => !(a == i) && !(a + 1 == i && b == 2))]
  rfl
theorem tvl_st2 {V : Vx} {als als' : List (Nat × Value)} {i : Nat} {v : Value} (h : (i, v) :: als.filter (fun q => !(q.1 == i) && (!(q.1 == i + 1) && !(q.1 + 1 == i && q.2.category == 2))) = als') : (i, tv V v) :: (tvl V als).filter (fun q => !(q.1 == i) && (!(q.1 == i + 1) && !(q.1 + 1 == i && q.2.category == 2))) = tvl V als' := by
  rw [← h, tvl_filter V (fun a b => !(a == i) && (!(a == i + 1) && !(a + 1 == i && b == 2)))]
  rfl
section ROWS
variable {X : Ctx} {V : Vx} {mb : MB} {d : Nat} {T : Tt} {M : Mm} {cl sl : Nat} {Q : State → Prop} {pc : Nat} {als als' : List (Nat × Value)} {st : List Value}
theorem ar_iconst (C : Cx X V mb d) {n : Int} {v : Int32} (hd : decode mb.2.1 pc = .ok (.iconst n, 1)) (hv : Int32.ofInt n = v) (k : AW X V mb.2.2.1 T M cl sl Q (pc + 1) als (.int v :: st)) : AW X V mb.2.2.1 T M cl sl Q pc als st := fun H locs ls hH hS hl => lv_iconst C.1 C.2.1 hd hv (k H locs ls hH hS hl)
theorem ar_bipush (C : Cx X V mb d) {n : Int} {v : Int32} (hd : decode mb.2.1 pc = .ok (.bipush n, 2)) (hv : (Int8.ofInt n).toInt32 = v) (k : AW X V mb.2.2.1 T M cl sl Q (pc + 2) als (.int v :: st)) : AW X V mb.2.2.1 T M cl sl Q pc als st := fun H locs ls hH hS hl => lv_bipush C.1 C.2.1 hd hv (k H locs ls hH hS hl)
theorem ar_sipush (C : Cx X V mb d) {n : Int} {v : Int32} (hd : decode mb.2.1 pc = .ok (.sipush n, 3)) (hv : (Int16.ofInt n).toInt32 = v) (k : AW X V mb.2.2.1 T M cl sl Q (pc + 3) als (.int v :: st)) : AW X V mb.2.2.1 T M cl sl Q pc als st := fun H locs ls hH hS hl => lv_sipush C.1 C.2.1 hd hv (k H locs ls hH hS hl)
theorem ar_lconst (C : Cx X V mb d) {n : Fin 2} {v : Int64} (hd : decode mb.2.1 pc = .ok (.lconst n, 1)) (hv : Int64.ofNat (n : Nat) = v) (k : AW X V mb.2.2.1 T M cl sl Q (pc + 1) als (.long v :: st)) : AW X V mb.2.2.1 T M cl sl Q pc als st := fun H locs ls hH hS hl => lv_lconst C.1 C.2.1 hd hv (k H locs ls hH hS hl)
theorem ar_ldc (C : Cx X V mb d) {index : Nat} {v : Int32} (w : Cond.constant mb.1.cls index v ∈ wA) (hd : decode mb.2.1 pc = .ok (.ldc index, 2)) (k : AW X V mb.2.2.1 T M cl sl Q (pc + 2) als (.int v :: st)) : AW X V mb.2.2.1 T M cl sl Q pc als st := fun H locs ls hH hS hl => lv_ldc C.1 C.2.1 C.2.2.2.1 (C.2.2.2.2.1 _ w) hd (k H locs ls hH hS hl)
theorem ar_ldc2 (C : Cx X V mb d) {index : Nat} {v : Int64} (w : Cond.constantLong mb.1.cls index v ∈ wA) (hd : decode mb.2.1 pc = .ok (.ldc2_w index, 3)) (k : AW X V mb.2.2.1 T M cl sl Q (pc + 3) als (.long v :: st)) : AW X V mb.2.2.1 T M cl sl Q pc als st := fun H locs ls hH hS hl => lv_ldc2 C.1 C.2.1 C.2.2.2.1 (C.2.2.2.2.1 _ w) hd (k H locs ls hH hS hl)
theorem ar_iload_n (C : Cx X V mb d) {q : Fin 4} {i n : Nat} {x : Int32} (hd : decode mb.2.1 pc = .ok (.iload_n q, 1)) (hi : (q : Nat) = i) (h : als[n]? = some (i, .int x)) (k : AW X V mb.2.2.1 T M cl sl Q (pc + 1) als (.int x :: st)) : AW X V mb.2.2.1 T M cl sl Q pc als st := fun H locs ls hH hS hl => lv_iload_n C.1 C.2.1 hd hi (ls_at hl h) (k H locs ls hH hS hl)
theorem ar_iload (C : Cx X V mb d) {i n : Nat} {x : Int32} (hd : decode mb.2.1 pc = .ok (.iload i, 2)) (h : als[n]? = some (i, .int x)) (k : AW X V mb.2.2.1 T M cl sl Q (pc + 2) als (.int x :: st)) : AW X V mb.2.2.1 T M cl sl Q pc als st := fun H locs ls hH hS hl => lv_iload C.1 C.2.1 hd (ls_at hl h) (k H locs ls hH hS hl)
theorem ar_lload_n (C : Cx X V mb d) {q : Fin 4} {i n : Nat} {x : Int64} (hd : decode mb.2.1 pc = .ok (.lload_n q, 1)) (hi : (q : Nat) = i) (h : als[n]? = some (i, .long x)) (k : AW X V mb.2.2.1 T M cl sl Q (pc + 1) als (.long x :: st)) : AW X V mb.2.2.1 T M cl sl Q pc als st := fun H locs ls hH hS hl => lv_lload_n C.1 C.2.1 hd hi (ls_at hl h) (k H locs ls hH hS hl)
theorem ar_lload (C : Cx X V mb d) {i n : Nat} {x : Int64} (hd : decode mb.2.1 pc = .ok (.lload i, 2)) (h : als[n]? = some (i, .long x)) (k : AW X V mb.2.2.1 T M cl sl Q (pc + 2) als (.long x :: st)) : AW X V mb.2.2.1 T M cl sl Q pc als st := fun H locs ls hH hS hl => lv_lload C.1 C.2.1 hd (ls_at hl h) (k H locs ls hH hS hl)
theorem ar_aload_n (C : Cx X V mb d) {q : Fin 4} {i n x : Nat} (hd : decode mb.2.1 pc = .ok (.aload_n q, 1)) (hi : (q : Nat) = i) (h : als[n]? = some (i, .ref x)) (k : AW X V mb.2.2.1 T M cl sl Q (pc + 1) als (.ref x :: st)) : AW X V mb.2.2.1 T M cl sl Q pc als st := fun H locs ls hH hS hl => lv_aload_n C.1 C.2.1 hd hi (ls_at hl h) (k H locs ls hH hS hl)
theorem ar_aload (C : Cx X V mb d) {i n x : Nat} (hd : decode mb.2.1 pc = .ok (.aload i, 2)) (h : als[n]? = some (i, .ref x)) (k : AW X V mb.2.2.1 T M cl sl Q (pc + 2) als (.ref x :: st)) : AW X V mb.2.2.1 T M cl sl Q pc als st := fun H locs ls hH hS hl => lv_aload C.1 C.2.1 hd (ls_at hl h) (k H locs ls hH hS hl)
theorem ar_aload_nX (C : Cx X V mb d) {q : Fin 4} {i n x : Nat} (hd : decode mb.2.1 pc = .ok (.aload_n q, 1)) (hi : (q : Nat) = i) (h : als[n]? = some (i, .retAddr x)) (k : AW X V mb.2.2.1 T M cl sl Q (pc + 1) als (.retAddr x :: st)) : AW X V mb.2.2.1 T M cl sl Q pc als st := fun H locs ls hH hS hl => lv_aload_n C.1 C.2.1 hd hi (ls_at hl h) (k H locs ls hH hS hl)
theorem ar_aloadX (C : Cx X V mb d) {i n x : Nat} (hd : decode mb.2.1 pc = .ok (.aload i, 2)) (h : als[n]? = some (i, .retAddr x)) (k : AW X V mb.2.2.1 T M cl sl Q (pc + 2) als (.retAddr x :: st)) : AW X V mb.2.2.1 T M cl sl Q pc als st := fun H locs ls hH hS hl => lv_aload C.1 C.2.1 hd (ls_at hl h) (k H locs ls hH hS hl)
theorem ar_istore_n (C : Cx X V mb d) {q : Fin 4} {i : Nat} {x : Int32} (hd : decode mb.2.1 pc = .ok (.istore_n q, 1)) (hi : (q : Nat) = i) (hn : i < mb.2.2.1) (h : (i, Value.int x) :: als.filter (fun q => !(q.1 == i) && !(q.1 + 1 == i && q.2.category == 2)) = als') (k : AW X V mb.2.2.1 T M cl sl Q (pc + 1) als' st) : AW X V mb.2.2.1 T M cl sl Q pc als (.int x :: st) := fun H locs ls hH hS hl => lv_istore_n C.1 C.2.1 hd hi hl hn (tvl_st1 h) (fun ls' hl' => k H locs ls' hH hS hl')
theorem ar_istore (C : Cx X V mb d) {i : Nat} {x : Int32} (hd : decode mb.2.1 pc = .ok (.istore i, 2)) (hn : i < mb.2.2.1) (h : (i, Value.int x) :: als.filter (fun q => !(q.1 == i) && !(q.1 + 1 == i && q.2.category == 2)) = als') (k : AW X V mb.2.2.1 T M cl sl Q (pc + 2) als' st) : AW X V mb.2.2.1 T M cl sl Q pc als (.int x :: st) := fun H locs ls hH hS hl => lv_istore C.1 C.2.1 hd hl hn (tvl_st1 h) (fun ls' hl' => k H locs ls' hH hS hl')
theorem ar_lstore_n (C : Cx X V mb d) {q : Fin 4} {i : Nat} {x : Int64} (hd : decode mb.2.1 pc = .ok (.lstore_n q, 1)) (hi : (q : Nat) = i) (hn : i + 1 < mb.2.2.1) (h : (i, Value.long x) :: als.filter (fun q => !(q.1 == i) && (!(q.1 == i + 1) && !(q.1 + 1 == i && q.2.category == 2))) = als') (k : AW X V mb.2.2.1 T M cl sl Q (pc + 1) als' st) : AW X V mb.2.2.1 T M cl sl Q pc als (.long x :: st) := fun H locs ls hH hS hl => lv_lstore_n C.1 C.2.1 hd hi hl hn (tvl_st2 h) (fun ls' hl' => k H locs ls' hH hS hl')
theorem ar_lstore (C : Cx X V mb d) {i : Nat} {x : Int64} (hd : decode mb.2.1 pc = .ok (.lstore i, 2)) (hn : i + 1 < mb.2.2.1) (h : (i, Value.long x) :: als.filter (fun q => !(q.1 == i) && (!(q.1 == i + 1) && !(q.1 + 1 == i && q.2.category == 2))) = als') (k : AW X V mb.2.2.1 T M cl sl Q (pc + 2) als' st) : AW X V mb.2.2.1 T M cl sl Q pc als (.long x :: st) := fun H locs ls hH hS hl => lv_lstore C.1 C.2.1 hd hl hn (tvl_st2 h) (fun ls' hl' => k H locs ls' hH hS hl')
theorem ar_astore_n (C : Cx X V mb d) {q : Fin 4} {i : Nat} {x : Nat} (hd : decode mb.2.1 pc = .ok (.astore_n q, 1)) (hi : (q : Nat) = i) (hn : i < mb.2.2.1) (h : (i, Value.ref x) :: als.filter (fun q => !(q.1 == i) && !(q.1 + 1 == i && q.2.category == 2)) = als') (k : AW X V mb.2.2.1 T M cl sl Q (pc + 1) als' st) : AW X V mb.2.2.1 T M cl sl Q pc als (.ref x :: st) := fun H locs ls hH hS hl => lv_astore_n C.1 C.2.1 hd hi hl hn (tvl_st1 h) (fun ls' hl' => k H locs ls' hH hS hl')
theorem ar_astore (C : Cx X V mb d) {i : Nat} {x : Nat} (hd : decode mb.2.1 pc = .ok (.astore i, 2)) (hn : i < mb.2.2.1) (h : (i, Value.ref x) :: als.filter (fun q => !(q.1 == i) && !(q.1 + 1 == i && q.2.category == 2)) = als') (k : AW X V mb.2.2.1 T M cl sl Q (pc + 2) als' st) : AW X V mb.2.2.1 T M cl sl Q pc als (.ref x :: st) := fun H locs ls hH hS hl => lv_astore C.1 C.2.1 hd hl hn (tvl_st1 h) (fun ls' hl' => k H locs ls' hH hS hl')
theorem ar_iinc (C : Cx X V mb d) {i n : Nat} {z : Int} {x v : Int32} (hd : decode mb.2.1 pc = .ok (.iinc i z, 3)) (hk : als[n]? = some (i, .int x)) (hv : x + Int32.ofInt z = v) (hn : i < mb.2.2.1) (h : (i, Value.int v) :: als.filter (fun q => !(q.1 == i) && !(q.1 + 1 == i && q.2.category == 2)) = als') (k : AW X V mb.2.2.1 T M cl sl Q (pc + 3) als' st) : AW X V mb.2.2.1 T M cl sl Q pc als st := fun H locs ls hH hS hl => lv_iinc C.1 C.2.1 hd hl (tvl_at hk) hv hn (tvl_st1 h) (fun ls' hl' => k H locs ls' hH hS hl')
theorem ar_iadd (C : Cx X V mb d) {x y : Int32} (hd : decode mb.2.1 pc = .ok (.iadd, 1)) (k : AW X V mb.2.2.1 T M cl sl Q (pc + 1) als (.int (x + y) :: st)) : AW X V mb.2.2.1 T M cl sl Q pc als (.int y :: .int x :: st) := fun H locs ls hH hS hl => lv_iadd C.1 C.2.1 hd (k H locs ls hH hS hl)
theorem ar_isub (C : Cx X V mb d) {x y : Int32} (hd : decode mb.2.1 pc = .ok (.isub, 1)) (k : AW X V mb.2.2.1 T M cl sl Q (pc + 1) als (.int (x - y) :: st)) : AW X V mb.2.2.1 T M cl sl Q pc als (.int y :: .int x :: st) := fun H locs ls hH hS hl => lv_isub C.1 C.2.1 hd (k H locs ls hH hS hl)
theorem ar_imul (C : Cx X V mb d) {x y : Int32} (hd : decode mb.2.1 pc = .ok (.imul, 1)) (k : AW X V mb.2.2.1 T M cl sl Q (pc + 1) als (.int (x * y) :: st)) : AW X V mb.2.2.1 T M cl sl Q pc als (.int y :: .int x :: st) := fun H locs ls hH hS hl => lv_imul C.1 C.2.1 hd (k H locs ls hH hS hl)
theorem ar_iand (C : Cx X V mb d) {x y : Int32} (hd : decode mb.2.1 pc = .ok (.iand, 1)) (k : AW X V mb.2.2.1 T M cl sl Q (pc + 1) als (.int (x &&& y) :: st)) : AW X V mb.2.2.1 T M cl sl Q pc als (.int y :: .int x :: st) := fun H locs ls hH hS hl => lv_iand C.1 C.2.1 hd (k H locs ls hH hS hl)
theorem ar_ixor (C : Cx X V mb d) {x y : Int32} (hd : decode mb.2.1 pc = .ok (.ixor, 1)) (k : AW X V mb.2.2.1 T M cl sl Q (pc + 1) als (.int (x ^^^ y) :: st)) : AW X V mb.2.2.1 T M cl sl Q pc als (.int y :: .int x :: st) := fun H locs ls hH hS hl => lv_ixor C.1 C.2.1 hd (k H locs ls hH hS hl)
theorem ar_idiv (C : Cx X V mb d) {x y : Int32} (hd : decode mb.2.1 pc = .ok (.idiv, 1)) (hne : ¬ y = 0) (k : AW X V mb.2.2.1 T M cl sl Q (pc + 1) als (.int (x / y) :: st)) : AW X V mb.2.2.1 T M cl sl Q pc als (.int y :: .int x :: st) := fun H locs ls hH hS hl => lv_idiv C.1 C.2.1 hd hne (k H locs ls hH hS hl)
theorem ar_irem (C : Cx X V mb d) {x y : Int32} (hd : decode mb.2.1 pc = .ok (.irem, 1)) (hne : ¬ y = 0) (k : AW X V mb.2.2.1 T M cl sl Q (pc + 1) als (.int (x - x / y * y) :: st)) : AW X V mb.2.2.1 T M cl sl Q pc als (.int y :: .int x :: st) := fun H locs ls hH hS hl => lv_irem C.1 C.2.1 hd hne (k H locs ls hH hS hl)
theorem ar_ineg (C : Cx X V mb d) {x : Int32} (hd : decode mb.2.1 pc = .ok (.ineg, 1)) (k : AW X V mb.2.2.1 T M cl sl Q (pc + 1) als (.int (-x) :: st)) : AW X V mb.2.2.1 T M cl sl Q pc als (.int x :: st) := fun H locs ls hH hS hl => lv_ineg C.1 C.2.1 hd (k H locs ls hH hS hl)
theorem ar_ladd (C : Cx X V mb d) {x y : Int64} (hd : decode mb.2.1 pc = .ok (.ladd, 1)) (k : AW X V mb.2.2.1 T M cl sl Q (pc + 1) als (.long (x + y) :: st)) : AW X V mb.2.2.1 T M cl sl Q pc als (.long y :: .long x :: st) := fun H locs ls hH hS hl => lv_ladd C.1 C.2.1 hd (k H locs ls hH hS hl)
theorem ar_lsub (C : Cx X V mb d) {x y : Int64} (hd : decode mb.2.1 pc = .ok (.lsub, 1)) (k : AW X V mb.2.2.1 T M cl sl Q (pc + 1) als (.long (x - y) :: st)) : AW X V mb.2.2.1 T M cl sl Q pc als (.long y :: .long x :: st) := fun H locs ls hH hS hl => lv_lsub C.1 C.2.1 hd (k H locs ls hH hS hl)
theorem ar_lmul (C : Cx X V mb d) {x y : Int64} (hd : decode mb.2.1 pc = .ok (.lmul, 1)) (k : AW X V mb.2.2.1 T M cl sl Q (pc + 1) als (.long (x * y) :: st)) : AW X V mb.2.2.1 T M cl sl Q pc als (.long y :: .long x :: st) := fun H locs ls hH hS hl => lv_lmul C.1 C.2.1 hd (k H locs ls hH hS hl)
theorem ar_ldiv (C : Cx X V mb d) {x y : Int64} (hd : decode mb.2.1 pc = .ok (.ldiv, 1)) (hne : ¬ y = 0) (k : AW X V mb.2.2.1 T M cl sl Q (pc + 1) als (.long (x / y) :: st)) : AW X V mb.2.2.1 T M cl sl Q pc als (.long y :: .long x :: st) := fun H locs ls hH hS hl => lv_ldiv C.1 C.2.1 hd hne (k H locs ls hH hS hl)
theorem ar_lneg (C : Cx X V mb d) {x : Int64} (hd : decode mb.2.1 pc = .ok (.lneg, 1)) (k : AW X V mb.2.2.1 T M cl sl Q (pc + 1) als (.long (-x) :: st)) : AW X V mb.2.2.1 T M cl sl Q pc als (.long x :: st) := fun H locs ls hH hS hl => lv_lneg C.1 C.2.1 hd (k H locs ls hH hS hl)
theorem ar_lcmp (C : Cx X V mb d) {x y : Int64} (hd : decode mb.2.1 pc = .ok (.lcmp, 1)) (k : AW X V mb.2.2.1 T M cl sl Q (pc + 1) als (.int (lg_cmp x y) :: st)) : AW X V mb.2.2.1 T M cl sl Q pc als (.long y :: .long x :: st) := fun H locs ls hH hS hl => W.lcmp C.1 C.2.1 hd (k H locs ls hH hS hl)
theorem ar_i2l (C : Cx X V mb d) {x : Int32} (hd : decode mb.2.1 pc = .ok (.i2l, 1)) (k : AW X V mb.2.2.1 T M cl sl Q (pc + 1) als (.long (x.toInt64) :: st)) : AW X V mb.2.2.1 T M cl sl Q pc als (.int x :: st) := fun H locs ls hH hS hl => lv_i2l C.1 C.2.1 hd rfl (k H locs ls hH hS hl)
theorem ar_i2b (C : Cx X V mb d) {x : Int32} (hd : decode mb.2.1 pc = .ok (.i2b, 1)) (k : AW X V mb.2.2.1 T M cl sl Q (pc + 1) als (.int (x.toInt8.toInt32) :: st)) : AW X V mb.2.2.1 T M cl sl Q pc als (.int x :: st) := fun H locs ls hH hS hl => lv_i2b C.1 C.2.1 hd rfl (k H locs ls hH hS hl)
theorem ar_i2s (C : Cx X V mb d) {x : Int32} (hd : decode mb.2.1 pc = .ok (.i2s, 1)) (k : AW X V mb.2.2.1 T M cl sl Q (pc + 1) als (.int (x.toInt16.toInt32) :: st)) : AW X V mb.2.2.1 T M cl sl Q pc als (.int x :: st) := fun H locs ls hH hS hl => lv_i2s C.1 C.2.1 hd rfl (k H locs ls hH hS hl)
theorem ar_dup (C : Cx X V mb d) {v : Value} (hd : decode mb.2.1 pc = .ok (.dup, 1)) (hv : v.category = 1) (k : AW X V mb.2.2.1 T M cl sl Q (pc + 1) als (v :: v :: st)) : AW X V mb.2.2.1 T M cl sl Q pc als (v :: st) := fun H locs ls hH hS hl => lv_dup C.1 C.2.1 hd (by rw [tv_cat]; exact hv) (k H locs ls hH hS hl)
theorem ar_dup2 (C : Cx X V mb d) {v w : Value} (hd : decode mb.2.1 pc = .ok (.dup2, 1)) (hv : v.category = 1) (hw : w.category = 1) (k : AW X V mb.2.2.1 T M cl sl Q (pc + 1) als (v :: w :: v :: w :: st)) : AW X V mb.2.2.1 T M cl sl Q pc als (v :: w :: st) := fun H locs ls hH hS hl => lv_dup2_11 C.1 C.2.1 hd (by rw [tv_cat]; exact hv) (by rw [tv_cat]; exact hw) (k H locs ls hH hS hl)
theorem ar_if_eq (C : Cx X V mb d) {x : Int32} {off : Int} {tgt : Nat} (hd : decode mb.2.1 pc = .ok (.ifCond .eq off, 3)) (ht : (pc : Int) + off = (tgt : Int)) (kt : x = 0 → AW X V mb.2.2.1 T M cl sl Q tgt als st) (kf : ¬ x = 0 → AW X V mb.2.2.1 T M cl sl Q (pc + 3) als st) : AW X V mb.2.2.1 T M cl sl Q pc als (.int x :: st) := fun H locs ls hH hS hl => lv_if_eq C.1 C.2.1 hd ht (fun c => kt c H locs ls hH hS hl) (fun c => kf c H locs ls hH hS hl)
theorem ar_icmp_eq (C : Cx X V mb d) {x y : Int32} {off : Int} {tgt : Nat} (hd : decode mb.2.1 pc = .ok (.if_icmp .eq off, 3)) (ht : (pc : Int) + off = (tgt : Int)) (kt : x = y → AW X V mb.2.2.1 T M cl sl Q tgt als st) (kf : ¬ x = y → AW X V mb.2.2.1 T M cl sl Q (pc + 3) als st) : AW X V mb.2.2.1 T M cl sl Q pc als (.int y :: .int x :: st) := fun H locs ls hH hS hl => lv_icmp_eq C.1 C.2.1 hd ht (fun c => kt c H locs ls hH hS hl) (fun c => kf c H locs ls hH hS hl)
theorem ar_if_ne (C : Cx X V mb d) {x : Int32} {off : Int} {tgt : Nat} (hd : decode mb.2.1 pc = .ok (.ifCond .ne off, 3)) (ht : (pc : Int) + off = (tgt : Int)) (kt : ¬ x = 0 → AW X V mb.2.2.1 T M cl sl Q tgt als st) (kf : x = 0 → AW X V mb.2.2.1 T M cl sl Q (pc + 3) als st) : AW X V mb.2.2.1 T M cl sl Q pc als (.int x :: st) := fun H locs ls hH hS hl => lv_if_ne C.1 C.2.1 hd ht (fun c => kt c H locs ls hH hS hl) (fun c => kf c H locs ls hH hS hl)
theorem ar_icmp_ne (C : Cx X V mb d) {x y : Int32} {off : Int} {tgt : Nat} (hd : decode mb.2.1 pc = .ok (.if_icmp .ne off, 3)) (ht : (pc : Int) + off = (tgt : Int)) (kt : ¬ x = y → AW X V mb.2.2.1 T M cl sl Q tgt als st) (kf : x = y → AW X V mb.2.2.1 T M cl sl Q (pc + 3) als st) : AW X V mb.2.2.1 T M cl sl Q pc als (.int y :: .int x :: st) := fun H locs ls hH hS hl => lv_icmp_ne C.1 C.2.1 hd ht (fun c => kt c H locs ls hH hS hl) (fun c => kf c H locs ls hH hS hl)
theorem ar_if_lt (C : Cx X V mb d) {x : Int32} {off : Int} {tgt : Nat} (hd : decode mb.2.1 pc = .ok (.ifCond .lt off, 3)) (ht : (pc : Int) + off = (tgt : Int)) (kt : x < 0 → AW X V mb.2.2.1 T M cl sl Q tgt als st) (kf : ¬ x < 0 → AW X V mb.2.2.1 T M cl sl Q (pc + 3) als st) : AW X V mb.2.2.1 T M cl sl Q pc als (.int x :: st) := fun H locs ls hH hS hl => lv_if_lt C.1 C.2.1 hd ht (fun c => kt c H locs ls hH hS hl) (fun c => kf c H locs ls hH hS hl)
theorem ar_icmp_lt (C : Cx X V mb d) {x y : Int32} {off : Int} {tgt : Nat} (hd : decode mb.2.1 pc = .ok (.if_icmp .lt off, 3)) (ht : (pc : Int) + off = (tgt : Int)) (kt : x < y → AW X V mb.2.2.1 T M cl sl Q tgt als st) (kf : ¬ x < y → AW X V mb.2.2.1 T M cl sl Q (pc + 3) als st) : AW X V mb.2.2.1 T M cl sl Q pc als (.int y :: .int x :: st) := fun H locs ls hH hS hl => lv_icmp_lt C.1 C.2.1 hd ht (fun c => kt c H locs ls hH hS hl) (fun c => kf c H locs ls hH hS hl)
theorem ar_if_ge (C : Cx X V mb d) {x : Int32} {off : Int} {tgt : Nat} (hd : decode mb.2.1 pc = .ok (.ifCond .ge off, 3)) (ht : (pc : Int) + off = (tgt : Int)) (kt : 0 ≤ x → AW X V mb.2.2.1 T M cl sl Q tgt als st) (kf : ¬ 0 ≤ x → AW X V mb.2.2.1 T M cl sl Q (pc + 3) als st) : AW X V mb.2.2.1 T M cl sl Q pc als (.int x :: st) := fun H locs ls hH hS hl => lv_if_ge C.1 C.2.1 hd ht (fun c => kt c H locs ls hH hS hl) (fun c => kf c H locs ls hH hS hl)
theorem ar_icmp_ge (C : Cx X V mb d) {x y : Int32} {off : Int} {tgt : Nat} (hd : decode mb.2.1 pc = .ok (.if_icmp .ge off, 3)) (ht : (pc : Int) + off = (tgt : Int)) (kt : y ≤ x → AW X V mb.2.2.1 T M cl sl Q tgt als st) (kf : ¬ y ≤ x → AW X V mb.2.2.1 T M cl sl Q (pc + 3) als st) : AW X V mb.2.2.1 T M cl sl Q pc als (.int y :: .int x :: st) := fun H locs ls hH hS hl => lv_icmp_ge C.1 C.2.1 hd ht (fun c => kt c H locs ls hH hS hl) (fun c => kf c H locs ls hH hS hl)
theorem ar_if_gt (C : Cx X V mb d) {x : Int32} {off : Int} {tgt : Nat} (hd : decode mb.2.1 pc = .ok (.ifCond .gt off, 3)) (ht : (pc : Int) + off = (tgt : Int)) (kt : 0 < x → AW X V mb.2.2.1 T M cl sl Q tgt als st) (kf : ¬ 0 < x → AW X V mb.2.2.1 T M cl sl Q (pc + 3) als st) : AW X V mb.2.2.1 T M cl sl Q pc als (.int x :: st) := fun H locs ls hH hS hl => lv_if_gt C.1 C.2.1 hd ht (fun c => kt c H locs ls hH hS hl) (fun c => kf c H locs ls hH hS hl)
theorem ar_icmp_gt (C : Cx X V mb d) {x y : Int32} {off : Int} {tgt : Nat} (hd : decode mb.2.1 pc = .ok (.if_icmp .gt off, 3)) (ht : (pc : Int) + off = (tgt : Int)) (kt : y < x → AW X V mb.2.2.1 T M cl sl Q tgt als st) (kf : ¬ y < x → AW X V mb.2.2.1 T M cl sl Q (pc + 3) als st) : AW X V mb.2.2.1 T M cl sl Q pc als (.int y :: .int x :: st) := fun H locs ls hH hS hl => lv_icmp_gt C.1 C.2.1 hd ht (fun c => kt c H locs ls hH hS hl) (fun c => kf c H locs ls hH hS hl)
theorem ar_if_le (C : Cx X V mb d) {x : Int32} {off : Int} {tgt : Nat} (hd : decode mb.2.1 pc = .ok (.ifCond .le off, 3)) (ht : (pc : Int) + off = (tgt : Int)) (kt : x ≤ 0 → AW X V mb.2.2.1 T M cl sl Q tgt als st) (kf : ¬ x ≤ 0 → AW X V mb.2.2.1 T M cl sl Q (pc + 3) als st) : AW X V mb.2.2.1 T M cl sl Q pc als (.int x :: st) := fun H locs ls hH hS hl => lv_if_le C.1 C.2.1 hd ht (fun c => kt c H locs ls hH hS hl) (fun c => kf c H locs ls hH hS hl)
theorem ar_icmp_le (C : Cx X V mb d) {x y : Int32} {off : Int} {tgt : Nat} (hd : decode mb.2.1 pc = .ok (.if_icmp .le off, 3)) (ht : (pc : Int) + off = (tgt : Int)) (kt : x ≤ y → AW X V mb.2.2.1 T M cl sl Q tgt als st) (kf : ¬ x ≤ y → AW X V mb.2.2.1 T M cl sl Q (pc + 3) als st) : AW X V mb.2.2.1 T M cl sl Q pc als (.int y :: .int x :: st) := fun H locs ls hH hS hl => lv_icmp_le C.1 C.2.1 hd ht (fun c => kt c H locs ls hH hS hl) (fun c => kf c H locs ls hH hS hl)
def bI (b : Bool) : Int32 := if b then 1 else 0
theorem bI_0 (b : Bool) : bI b = 0 ↔ b = false := by cases b <;> decide
theorem bI_n0 (b : Bool) : ¬ bI b = 0 ↔ b = true := by cases b <;> decide
theorem bI_nar (b : Bool) : narrow .boolean (.int (bI b)) = .int (bI b) := by cases b <;> decide
theorem bI_vnar (b : Bool) : vp_nar .boolean (bI b) = bI b := by cases b <;> decide
theorem ar_if_eqB (C : Cx X V mb d) {b : Bool} {off : Int} {tgt : Nat} (hd : decode mb.2.1 pc = .ok (.ifCond .eq off, 3)) (ht : (pc : Int) + off = (tgt : Int)) (kt : b = false → AW X V mb.2.2.1 T M cl sl Q tgt als st) (kf : b = true → AW X V mb.2.2.1 T M cl sl Q (pc + 3) als st) : AW X V mb.2.2.1 T M cl sl Q pc als (.int (bI b) :: st) := ar_if_eq C hd ht (fun c => kt ((bI_0 b).mp c)) (fun c => kf ((bI_n0 b).mp c))
theorem ar_if_neB (C : Cx X V mb d) {b : Bool} {off : Int} {tgt : Nat} (hd : decode mb.2.1 pc = .ok (.ifCond .ne off, 3)) (ht : (pc : Int) + off = (tgt : Int)) (kt : b = true → AW X V mb.2.2.1 T M cl sl Q tgt als st) (kf : b = false → AW X V mb.2.2.1 T M cl sl Q (pc + 3) als st) : AW X V mb.2.2.1 T M cl sl Q pc als (.int (bI b) :: st) := ar_if_ne C hd ht (fun c => kt ((bI_n0 b).mp c)) (fun c => kf ((bI_0 b).mp c))
theorem ar_goto (C : Cx X V mb d) {off : Int} {tgt : Nat} (hd : decode mb.2.1 pc = .ok (.goto off, 3)) (ht : (pc : Int) + off = (tgt : Int)) (k : AW X V mb.2.2.1 T M cl sl Q tgt als st) : AW X V mb.2.2.1 T M cl sl Q pc als st := fun H locs ls hH hS hl => lv_goto C.1 C.2.1 hd ht (k H locs ls hH hS hl)
theorem ar_tableOut (C : Cx X V mb d) {dflt lo hi : Int} {offs : Array Int} {len : Nat} {x : Int32} {tgt : Nat} (hd : decode mb.2.1 pc = .ok (.tableswitch dflt lo hi offs, len)) (h : x.toInt < lo ∨ hi < x.toInt) (ht : (pc : Int) + dflt = (tgt : Int)) (k : AW X V mb.2.2.1 T M cl sl Q tgt als st) : AW X V mb.2.2.1 T M cl sl Q pc als (.int x :: st) := fun H locs ls hH hS hl => lv_tableOut C.1 C.2.1 hd h ht (k H locs ls hH hS hl)
theorem ar_tableIn (C : Cx X V mb d) {dflt lo hi : Int} {offs : Array Int} {len : Nat} {x : Int32} {off : Int} {tgt : Nat} (hd : decode mb.2.1 pc = .ok (.tableswitch dflt lo hi offs, len)) (h1 : ¬ x.toInt < lo) (h2 : ¬ hi < x.toInt) (ho : offs[(x.toInt - lo).toNat]? = some off) (ht : (pc : Int) + off = (tgt : Int)) (k : AW X V mb.2.2.1 T M cl sl Q tgt als st) : AW X V mb.2.2.1 T M cl sl Q pc als (.int x :: st) := fun H locs ls hH hS hl => lv_tableIn C.1 C.2.1 hd h1 h2 ho ht (k H locs ls hH hS hl)
theorem ar_lookup (C : Cx X V mb d) {dflt : Int} {ps : Array (Int × Int)} {len : Nat} {x : Int32} {off : Int} {tgt : Nat} (hd : decode mb.2.1 pc = .ok (.lookupswitch dflt ps, len)) (hp : (ps.toList.zip (ps.toList.drop 1)).all (fun (a, next) => a.1 < next.1) = true) (ho : Op.lookupswitch.offset ps.toList dflt x.toInt = off) (ht : (pc : Int) + off = (tgt : Int)) (k : AW X V mb.2.2.1 T M cl sl Q tgt als st) : AW X V mb.2.2.1 T M cl sl Q pc als (.int x :: st) := fun H locs ls hH hS hl => lv_lookup C.1 C.2.1 hd hp ho ht (k H locs ls hH hS hl)
/-- cell k is of the kind c (13 classes; 20 ints, 21 booleans, 22 to 25 rows of references), with n places -/
def KD (T : Tt) (k c n : Nat) : Prop := k < T.1 ∧ T.2.1 k = (c, n)
/-- what the tables say of a class -/
theorem cls_ok : ∀ c, c < 13 → vwCl[c]? = some (clsC c, clsF c, nfc c) := by
  intro c h
  match c, h with
  | 0, _ => rfl | 1, _ => rfl | 2, _ => rfl | 3, _ => rfl | 4, _ => rfl | 5, _ => rfl | 6, _ => rfl | 7, _ => rfl | 8, _ => rfl | 9, _ => rfl | 10, _ => rfl | 11, _ => rfl | 12, _ => rfl
theorem cls_ty : ∀ c, c < 13 → ∀ k, k < nfc c → parseFieldDescriptor (clsF c k).2.2.1 = some (tyc c k) := by
  intro c h
  match c, h with
  | 0, _ => exact tyX0_ok | 1, _ => exact tyX1_ok | 2, _ => exact tyX2_ok | 3, _ => exact tyX3_ok | 4, _ => exact tyX4_ok | 5, _ => exact tyX5_ok | 6, _ => exact tyX6_ok | 7, _ => exact tyX7_ok | 8, _ => exact tyX8_ok | 9, _ => exact tyX9_ok | 10, _ => exact tyX10_ok | 11, _ => exact tyX11_ok | 12, _ => exact tyX12_ok
theorem cls_nm : ∀ c, c < 13 → ∀ a, a < nfc c → ∀ b, b < nfc c → a ≠ b → (clsF c a).2.1 ≠ (clsF c b).2.1 := by
  intro c h
  match c, h with
  | 0, _ => exact nmX0 | 1, _ => exact nmX1 | 2, _ => exact nmX2 | 3, _ => exact nmX3 | 4, _ => exact nmX4 | 5, _ => exact nmX5 | 6, _ => exact nmX6 | 7, _ => exact nmX7 | 8, _ => exact nmX8 | 9, _ => exact nmX9 | 10, _ => exact nmX10 | 11, _ => exact nmX11 | 12, _ => exact nmX12
/-- a field by its pool number: field j of class c, of type ty, final or not; the class's own link or a nest mate's -/
def FL (own : String) (idx c j : Nat) (ty : FieldType) (fin : Bool) : Prop := c < 13 ∧ j < nfc c ∧ tyc c j = ty ∧ (clsF c j).2.2.2 = fin ∧ (clsF c j).1 = clsC c ∧ (∀ w ∈ u_ws (clsC c) (clsF c) (nfc c), w ∈ wA) ∧
  (Cond.fieldLink own idx (clsC c) (clsF c j).2.1 (clsF c j).2.2.1 ∈ wA ∨ ∃ host, Cond.fieldLinkNest own idx (clsC c) (clsF c j).2.1 (clsF c j).2.2.1 host ∈ wN)
theorem ar_get0 (C : Cx X V mb d) {idx c j k n : Nat} {ty : FieldType} {fin : Bool} {v : Value} (F : FL mb.1.cls idx c j ty fin) (K : KD T k c n) (hv : fv V T M k c j = tv V v) (hd : decode mb.2.1 pc = .ok (.getfield idx, 3)) (kk : AW X V mb.2.2.1 T M cl sl Q (pc + 3) als (v :: st)) : AW X V mb.2.2.1 T M cl sl Q pc als (.ref k :: st) := by
  intro H locs ls hH hS hl
  obtain ⟨h13, hj, -, -, hdecl, hin, hlk⟩ := F
  have he := wsW_get (V := V) (M := M) K.1
  rw [cell_o K.2 h13] at he
  have hf : ((List.range (nfc c)).map (fv V T M k c))[j]? = some (tv V v) := by simp [hj, hv]
  rcases hlk with hlk | ⟨host, hlk⟩
  · exact va_get C.1 C.2.1 C.2.2.2.2.1 hin C.2.2.2.1 C.2.2.2.2.2.1.1 hH.1 k he (cls_ok c h13) j hj (C.2.2.2.2.1 _ hlk) (fun x h => by rw [hdecl] at h; exact h) hf hd (kk H locs ls hH hS hl)
  · exact va_getN C.1 C.2.1 C.2.2.2.2.1 hin C.2.2.2.1 C.2.2.2.2.2.1.1 hH.1 k he (cls_ok c h13) j hj (va_Nw.use rfl (C.2.2.2.2.2.1.2.1 _ hlk)) (fun x h => by rw [hdecl] at h; exact h) hf hd (kk H locs ls hH hS hl)
theorem ar_geti (C : Cx X V mb d) {idx c j k n : Nat} {fin : Bool} (F : FL mb.1.cls idx c j .int fin) (K : KD T k c n) (hd : decode mb.2.1 pc = .ok (.getfield idx, 3)) (kk : AW X V mb.2.2.1 T M cl sl Q (pc + 3) als (.int (M.1 k j) :: st)) : AW X V mb.2.2.1 T M cl sl Q pc als (.ref k :: st) := ar_get0 C F K (by rw [fv, F.2.2.1]; rfl) hd kk
theorem ar_getl (C : Cx X V mb d) {idx c j k n : Nat} {fin : Bool} (F : FL mb.1.cls idx c j .long fin) (K : KD T k c n) (hd : decode mb.2.1 pc = .ok (.getfield idx, 3)) (kk : AW X V mb.2.2.1 T M cl sl Q (pc + 3) als (.long (M.2 k j) :: st)) : AW X V mb.2.2.1 T M cl sl Q pc als (.ref k :: st) := ar_get0 C F K (by rw [fv, F.2.2.1]; rfl) hd kk
/-- a type of references -/
def isR : FieldType → Bool
  | .object _ => true
  | .array _ => true
  | _ => false
theorem fv_r {c j k : Nat} {ty : FieldType} (h : tyc c j = ty) (hr : isR ty = true) : fv V T M k c j = va_rf ((T.2.2 k j).map (V.2.2.1 + ·)) := by
  rw [fv, h]
  cases ty <;> first | rfl | cases hr
theorem ar_getr (C : Cx X V mb d) {idx c j k n r : Nat} {ty : FieldType} {fin : Bool} (F : FL mb.1.cls idx c j ty fin) (hr : isR ty = true) (K : KD T k c n) (hT : T.2.2 k j = some r) (hd : decode mb.2.1 pc = .ok (.getfield idx, 3)) (kk : AW X V mb.2.2.1 T M cl sl Q (pc + 3) als (.ref r :: st)) : AW X V mb.2.2.1 T M cl sl Q pc als (.ref k :: st) := ar_get0 C F K (by rw [fv_r F.2.2.1 hr, hT]; rfl) hd kk
/-- what a store leaves -/
theorem Hp_set {k : Nat} {E : va_E} {T' : Tt} {M' : Mm} {H1 : Heap} (hk : k < T.1) (h1 : T'.1 = T.1) (h2 : cellE V T' M' k = E) (h3 : ∀ i, i ≠ k → cellE V T' M' i = cellE V T M i) (hP : va_P V.1 vwCl ((wsW V T M).set k (V.2.2.1 + k, E)) H1) : va_P V.1 vwCl (wsW V T' M') H1 := by
  rw [wsW_set hk h1 h2 h3] at hP
  exact hP

theorem KD_small {k c n : Nat} (K : KD T0 k c n) : n < 2 ^ 31 := by
  have h := T0_small k K.1
  have e : T0ty k = (c, n) := K.2
  rw [e] at h
  simp at h
  omega
theorem Hp0 {H1 : Heap} (h : va_P V.1 vwCl (wsW V T0 M) H1) : Hp V T0 M H1 := ⟨h, fun q => absurd q (by decide)⟩
theorem fs_wi {k c j : Nat} {v : Int32} (ht : tyc c j = .int) : ((List.range (nfc c)).map (fv V T M k c)).set j (.int v) = (List.range (nfc c)).map (fv V T (wi M k j v) k c) := by
  refine fs_set ?_ (fun i hi => ?_)
  · rw [fv, ht]; simp [wi]
  · have e : (wi M k j v).1 k i = M.1 k i := by simp [wi, hi]
    simp only [fv, e]
    rfl
theorem fs_wl {k c j : Nat} {v : Int64} (ht : tyc c j = .long) : ((List.range (nfc c)).map (fv V T M k c)).set j (.long v) = (List.range (nfc c)).map (fv V T (wl M k j v) k c) := by
  refine fs_set ?_ (fun i hi => ?_)
  · rw [fv, ht]; simp [wl]
  · have e : (wl M k j v).2 k i = M.2 k i := by simp [wl, hi]
    simp only [fv, e]
    rfl
/-- a field is written: M' is what it leaves -/
theorem ar_put0 (C : Cx X V mb d) {idx c j k n : Nat} {ty : FieldType} {v : Value} {M' : Mm} (F : FL mb.1.cls idx c j ty false) (K : KD T0 k c n) (hn : narrow ty (tv V v) = tv V v) (hf : fits ty (tv V v) = true) (h1 : ((List.range (nfc c)).map (fv V T0 M k c)).set j (tv V v) = (List.range (nfc c)).map (fv V T0 M' k c)) (h2 : ∀ i, i ≠ k → cellE V T0 M' i = cellE V T0 M i) (hd : decode mb.2.1 pc = .ok (.putfield idx, 3)) (kk : AW X V mb.2.2.1 T0 M' cl sl Q (pc + 3) als st) : AW X V mb.2.2.1 T0 M cl sl Q pc als (v :: .ref k :: st) := by
  intro H locs ls hH hS hl
  obtain ⟨h13, hj, hty, hfin, hdecl, hin, hlk⟩ := F
  have he := wsW_get (V := V) (M := M) K.1
  rw [cell_o K.2 h13] at he
  have hpd : parseFieldDescriptor (clsF c j).2.2.1 = some ty := by rw [cls_ty c h13 j hj, hty]
  have hln : j < ((List.range (nfc c)).map (fv V T0 M k c)).length := by simpa using hj
  have fin : ∀ H1 : Heap, va_P V.1 vwCl ((wsW V T0 M).set k (V.2.2.1 + k, .inr (c, ((List.range (nfc c)).map (fv V T0 M k c)).set j (tv V v)))) H1 → Hp V T0 M' H1 := fun H1 hP => Hp0 (Hp_set K.1 rfl (by rw [cell_o K.2 h13, h1]) h2 hP)
  rcases hlk with hlk | ⟨host, hlk⟩
  · exact va_put C.1 C.2.1 C.2.2.2.2.1 hin (tyc c) (cls_ty c h13) (cls_nm c h13) C.2.2.2.1 C.2.2.2.2.2.1.1 hH.1 (wsW_D V T0 M) hS k he (cls_ok c h13) j hj (C.2.2.2.2.1 _ hlk) (fun x h => by rw [hdecl] at h; exact h) hfin hpd hn hf hln hd (fun H1 locs1 hP _ hS1 => kk H1 locs1 ls (fin H1 hP) hS1 hl)
  · exact va_putN C.1 C.2.1 C.2.2.2.2.1 hin (tyc c) (cls_ty c h13) (cls_nm c h13) C.2.2.2.1 C.2.2.2.2.2.1.1 hH.1 (wsW_D V T0 M) hS k he (cls_ok c h13) j hj (va_Nw.use rfl (C.2.2.2.2.2.1.2.1 _ hlk)) (fun x h => by rw [hdecl] at h; exact h) hfin hpd hn hf hln hd (fun H1 locs1 hP _ hS1 => kk H1 locs1 ls (fin H1 hP) hS1 hl)
theorem ar_puti (C : Cx X V mb d) {idx c j k n : Nat} {v : Int32} (F : FL mb.1.cls idx c j .int false) (K : KD T0 k c n) (hd : decode mb.2.1 pc = .ok (.putfield idx, 3)) (kk : AW X V mb.2.2.1 T0 (wi M k j v) cl sl Q (pc + 3) als st) : AW X V mb.2.2.1 T0 M cl sl Q pc als (.int v :: .ref k :: st) := ar_put0 C F K rfl rfl (fs_wi F.2.2.1) cellE_wi hd kk
theorem ar_putl (C : Cx X V mb d) {idx c j k n : Nat} {v : Int64} (F : FL mb.1.cls idx c j .long false) (K : KD T0 k c n) (hd : decode mb.2.1 pc = .ok (.putfield idx, 3)) (kk : AW X V mb.2.2.1 T0 (wl M k j v) cl sl Q (pc + 3) als st) : AW X V mb.2.2.1 T0 M cl sl Q pc als (.long v :: .ref k :: st) := ar_put0 C F K rfl rfl (fs_wl F.2.2.1) cellE_wl hd kk
/-- arrays of numbers: the index is the number j -/
theorem ar_iald (C : Cx X V mb d) {k n j : Nat} {i : Int32} (K : KD T0 k 20 n) (e : i = nI j) (hj : j < n) (hd : decode mb.2.1 pc = .ok (.iaload, 1)) (kk : AW X V mb.2.2.1 T0 M cl sl Q (pc + 1) als (.int (M.1 k j) :: st)) : AW X V mb.2.2.1 T0 M cl sl Q pc als (.int i :: .ref k :: st) := by
  intro H locs ls hH hS hl
  subst e
  have he := wsW_get (V := V) (M := M) K.1
  rw [cell_i K.2] at he
  have h := kk H locs ls hH hS hl
  refine va_iald C.1 C.2.1 C.2.2.2.2.2.1.1 hH.1 k 0 he rfl (vp_in_nI hj (KD_small K)) hd ?_
  rw [nI_clamp (Nat.lt_trans hj (KD_small K))]
  exact h
theorem ar_zald (C : Cx X V mb d) {k n j : Nat} {i : Int32} (K : KD T0 k 21 n) (e : i = nI j) (hj : j < n) (hd : decode mb.2.1 pc = .ok (.baload, 1)) (kk : AW X V mb.2.2.1 T0 M cl sl Q (pc + 1) als (.int (M.1 k j) :: st)) : AW X V mb.2.2.1 T0 M cl sl Q pc als (.int i :: .ref k :: st) := by
  intro H locs ls hH hS hl
  subst e
  have he := wsW_get (V := V) (M := M) K.1
  rw [cell_z K.2] at he
  have h := kk H locs ls hH hS hl
  refine va_zald C.1 C.2.1 C.2.2.2.2.2.1.1 hH.1 k 1 he rfl (vp_in_nI hj (KD_small K)) hd ?_
  rw [nI_clamp (Nat.lt_trans hj (KD_small K))]
  exact h
theorem wi_upd (M : Mm) (k j : Nat) (v : Int32) : (wi M k j v).1 k = upd (M.1 k) j v := by
  funext b
  simp [wi, upd]
theorem ar_iast (C : Cx X V mb d) {k n j : Nat} {i x : Int32} (K : KD T0 k 20 n) (e : i = nI j) (hj : j < n) (hd : decode mb.2.1 pc = .ok (.iastore, 1)) (kk : AW X V mb.2.2.1 T0 (wi M k j x) cl sl Q (pc + 1) als st) : AW X V mb.2.2.1 T0 M cl sl Q pc als (.int x :: .int i :: .ref k :: st) := by
  intro H locs ls hH hS hl
  subst e
  have he := wsW_get (V := V) (M := M) K.1
  rw [cell_i K.2] at he
  refine va_iast C.1 C.2.1 C.2.2.2.2.2.1.1 hH.1 (wsW_D V T0 M) hS k 0 he rfl (vp_in_nI hj (KD_small K)) hd (fun H1 locs1 hP _ hS1 => kk H1 locs1 ls (Hp0 (Hp_set K.1 rfl ?_ cellE_wi hP)) hS1 hl)
  rw [cell_i K.2, wi_upd, nI_clamp (Nat.lt_trans hj (KD_small K))]
theorem ar_zast (C : Cx X V mb d) {k n j : Nat} {i x : Int32} (K : KD T0 k 21 n) (e : i = nI j) (hj : j < n) (hx : vp_nar .boolean x = x) (hd : decode mb.2.1 pc = .ok (.bastore, 1)) (kk : AW X V mb.2.2.1 T0 (wi M k j x) cl sl Q (pc + 1) als st) : AW X V mb.2.2.1 T0 M cl sl Q pc als (.int x :: .int i :: .ref k :: st) := by
  intro H locs ls hH hS hl
  subst e
  have he := wsW_get (V := V) (M := M) K.1
  rw [cell_z K.2] at he
  refine va_zast C.1 C.2.1 C.2.2.2.2.2.1.1 hH.1 (wsW_D V T0 M) hS k 1 he rfl (vp_in_nI hj (KD_small K)) hd (fun H1 locs1 hP _ hS1 => kk H1 locs1 ls (Hp0 (Hp_set K.1 rfl ?_ cellE_wi hP)) hS1 hl)
  rw [cell_z K.2, wi_upd, nI_clamp (Nat.lt_trans hj (KD_small K)), hx]
theorem tys_r {c : Nat} (h1 : 22 ≤ c) (h2 : c < 26) : ∃ E : String, (tysV V)[c - 20]? = some (V.2.1 (c - 20), .object E) := by
  rcases (show c = 22 ∨ c = 23 ∨ c = 24 ∨ c = 25 by omega) with rfl | rfl | rfl | rfl <;> exact ⟨_, rfl⟩
theorem ar_aald (C : Cx X V mb d) {k c n j r : Nat} {i : Int32} (K : KD T0 k c n) (h1 : 22 ≤ c) (h2 : c < 26) (e : i = nI j) (hj : j < n) (hr : T0r k j = some r) (hd : decode mb.2.1 pc = .ok (.aaload, 1)) (kk : AW X V mb.2.2.1 T0 M cl sl Q (pc + 1) als (.ref r :: st)) : AW X V mb.2.2.1 T0 M cl sl Q pc als (.int i :: .ref k :: st) := by
  intro H locs ls hH hS hl
  subst e
  obtain ⟨E, hE⟩ := tys_r (V := V) h1 h2
  have he := wsW_get (V := V) (M := M) K.1
  rw [cell_r K.2 h1] at he
  have h := kk H locs ls hH hS hl
  refine va_aldq C.1 C.2.1 C.2.2.2.2.2.1.1 hH.1 k (c - 20) he hE (vp_in_nI hj (KD_small K)) hd ?_
  rw [nI_clamp (Nat.lt_trans hj (KD_small K)), show T0.2.2 k j = some r from hr]
  exact h
theorem ar_alen (C : Cx X V mb d) {k n : Nat} (K : KD T0 k 20 n) (hd : decode mb.2.1 pc = .ok (.arraylength, 1)) (kk : AW X V mb.2.2.1 T0 M cl sl Q (pc + 1) als (.int (nI n) :: st)) : AW X V mb.2.2.1 T0 M cl sl Q pc als (.ref k :: st) := by
  intro H locs ls hH hS hl
  have he := wsW_get (V := V) (M := M) K.1
  rw [cell_i K.2] at he
  exact va_alen C.1 C.2.1 C.2.2.2.2.2.1.1 hH.1 k 0 he rfl rfl hd (kk H locs ls hH hS hl)
/-- the two tables of the room's bounds -/
theorem ar_gets1 (C : Cx X V mb d) {idx : Nat} (w : Cond.fieldLink mb.1.cls idx RX11 "NUMBER_LEAST" "[I" ∈ wA) (hd : decode mb.2.1 pc = .ok (.getstatic idx, 3)) (kk : AW X V mb.2.2.1 T M cl sl Q (pc + 3) als (.retAddr 1 :: st)) : AW X V mb.2.2.1 T M cl sl Q pc als st := fun H locs ls hH hS hl =>
  va_gets C.1 C.2.1 C.2.2.2.2.2.1.2.2.2.2.1.1 hS C.2.2.2.1 (C.2.2.2.2.1 _ w) (fun _ h => h) hd (kk H locs ls hH hS hl)
theorem ar_gets2 (C : Cx X V mb d) {idx : Nat} (w : Cond.fieldLink mb.1.cls idx RX11 "NUMBER_MOST" "[I" ∈ wA) (hd : decode mb.2.1 pc = .ok (.getstatic idx, 3)) (kk : AW X V mb.2.2.1 T M cl sl Q (pc + 3) als (.retAddr 2 :: st)) : AW X V mb.2.2.1 T M cl sl Q pc als st := fun H locs ls hH hS hl =>
  va_gets C.1 C.2.1 C.2.2.2.2.2.1.2.2.2.2.2.1 hS C.2.2.2.1 (C.2.2.2.2.1 _ w) (fun _ h => h) hd (kk H locs ls hH hS hl)
theorem tab_ld {s : State} {A : Nat → Prop} {H : Heap} {locs : List Loc} {t j : Nat} {f : Nat → Int32} (h : va_T .int t 7 (fun j => .int (f j)) A s s.heap) (hS : va_S A s.heap H locs) (hj : j < 7) : ∃ cell : Cell, H[t]? = some cell ∧ s.isArrayOf cell .int ∧ cell.vm ≠ .unknown ∧ ¬ (nI j < 0 ∨ cell.slots.size ≤ (nI j).toNatClampNeg) ∧ cell.slots[(nI j).toNatClampNeg]? = some (.int (f j)) := by
  obtain ⟨cell, h1, h2, h3, h4, h5, h6, h7⟩ := h
  refine ⟨cell, by rw [hS.2.1 t (Array.getElem?_eq_some_iff.mp h1).1 h7]; exact h1, h2, h3, ?_, ?_⟩
  · rw [nI_clamp (by omega)]
    rintro (q | q)
    · exact nI_pos (by omega) q
    · omega
  · rw [nI_clamp (by omega)]; exact h6 j hj
theorem ar_iald1 (C : Cx X V mb d) {j : Nat} {i : Int32} (e : i = nI j) (hj : j < 7) (hd : decode mb.2.1 pc = .ok (.iaload, 1)) (kk : AW X V mb.2.2.1 T M cl sl Q (pc + 1) als (.int (nLeast j) :: st)) : AW X V mb.2.2.1 T M cl sl Q pc als (.int i :: .retAddr 1 :: st) := by
  intro H locs ls hH hS hl
  subst e
  obtain ⟨cell, a1, a2, a3, a4, a5⟩ := tab_ld C.2.2.2.2.2.1.2.2.2.2.1.2 hS hj
  exact W.iald (v := .int (nLeast j)) C.1 C.2.1 a1 a2 a3 a4 a5 rfl rfl hd (kk H locs ls hH hS hl)
theorem ar_iald2 (C : Cx X V mb d) {j : Nat} {i : Int32} (e : i = nI j) (hj : j < 7) (hd : decode mb.2.1 pc = .ok (.iaload, 1)) (kk : AW X V mb.2.2.1 T M cl sl Q (pc + 1) als (.int (nMost j) :: st)) : AW X V mb.2.2.1 T M cl sl Q pc als (.int i :: .retAddr 2 :: st) := by
  intro H locs ls hH hS hl
  subst e
  obtain ⟨cell, a1, a2, a3, a4, a5⟩ := tab_ld C.2.2.2.2.2.1.2.2.2.2.2.2 hS hj
  exact W.iald (v := .int (nMost j)) C.1 C.2.1 a1 a2 a3 a4 a5 rfl rfl hd (kk H locs ls hH hS hl)

end ROWS
/-! CONTRACTS: 'from these arguments, in this world, the method returns, and post holds' -/
def rmd (d mc ms : Nat) : Room := { frames := d, cells := mc, slots := ms, locals := 34 * d }
def PcV (V : Vx) (ar : List Value) (T : Tt) (M : Mm) : Array Value → State → Prop := fun v U => v = (tvs V ar).toArray ∧ Hp V T M U.heap ∧ Ks V U
def QcV (V : Vx) (post : Option Value → Tt → Mm → Prop) : Array Value → State → Outcome → State → Prop := fun _ st oc t => (∃ (r : Option Value) (T' : Tt) (M' : Mm), oc = .returned (r.map (tv V)) ∧ post r T' M' ∧ Hp V T' M' t.heap) ∧ va_F (AV V) st t
def wsm (mb : MB) : List Cond := Cond.code mb.1 mb.2.1 mb.2.2.1 mb.2.2.2 :: wA
def AM (mb : MB) (d : Nat) (ar : List Value) (T : Tt) (M : Mm) (post : Option Value → Tt → Mm → Prop) (mc ms : Nat) : Prop := ∀ (l : Launch) (V : Vx), Met l mb.1 (wsm mb) (rmd d mc ms) (PcV V ar T M) (QcV V post) mc ms (AV V)
abbrev QM (X : Ctx) (V : Vx) (post : Option Value → Tt → Mm → Prop) (mc ms : Nat) : State → Prop := MQ (cB X) (QcV V post) (cA X) (cS X) mc ms (AV V)
theorem lg_len (V : Vx) : ∀ ar : List Value, (lg_sl (tvs V ar)).length = (lg_sl ar).length
  | [] => rfl
  | v :: ar => by
    have h := lg_len V ar
    simp only [tvs, lg_sl, List.map_cons, List.flatMap_cons, List.length_append, tv_cat] at h ⊢
    rw [h]
    split <;> rfl
theorem lv_args_tv (V : Vx) : ∀ (ar : List Value) (i : Nat), lv_args i (tvs V ar) = tvl V (lv_args i ar)
  | [], _ => rfl
  | v :: ar, i => by
    show (i, tv V v) :: lv_args (if (tv V v).category = 2 then i + 2 else i + 1) (tvs V ar) = (i, tv V v) :: tvl V (lv_args (if v.category = 2 then i + 2 else i + 1) ar)
    rw [tv_cat, lv_args_tv V ar]
theorem AM_of {mb : MB} {d : Nat} {ar : List Value} {T : Tt} {M : Mm} {post : Option Value → Tt → Mm → Prop} {mc ms : Nat} (hy : plainName mb.1.cls = true) (hlen : (lg_sl ar).length ≤ mb.2.2.1)
    (body : ∀ (X : Ctx) (V : Vx), Cx X V mb d → (cR X).cells = mc → (cR X).slots = ms → AW X V mb.2.2.1 T M 0 0 (QM X V post mc ms) 0 (lv_args 0 ar) []) : AM mb d ar T M post mc ms := by
  intro l V
  refine Met.ofW (cc := mb.2.1) (maxL := mb.2.2.1) (ret := mb.2.2.2) hy rfl ?_
  intro p e s m args below meth c s₁ B hml hv
  obtain ⟨rfl, hH, hK⟩ := hv
  have hts := atoms_spec (ws := wsm mb) B.pre
  have hown : s.vm.findClass mb.1.cls = some m.cls := findClass_of_methodNamed B.named
  have hin : meth.name = mb.1.name := (name_of_methodNamed B.named B.method).1
  have C : Cx (p, l, e, rmd d mc ms, s, m, (tvs V ar).toArray, below, meth, c) V mb d := ⟨B.exec, B.bytes, hml, hown, fun w hw => hts w (List.mem_cons_of_mem _ hw), hK, B.returns, B.notSynchronized, hin, Nat.le_refl _, Nat.le_refl _⟩
  have hl := lv_entry (tvs V ar) (n := mb.2.2.1) (by rw [lg_len]; exact hlen)
  rw [lv_args_tv] at hl
  rw [lg_entry_eq]
  exact body _ V C rfl rfl s.heap [] _ hH va_S.rf hl
section ROWS2
variable {X : Ctx} {V : Vx} {mb : MB} {d : Nat} {T : Tt} {M : Mm} {cl sl : Nat} {Q : State → Prop} {pc : Nat} {als als' : List (Nat × Value)} {st : List Value} {post : Option Value → Tt → Mm → Prop}
theorem QcV_i {r : Option Value} {H : Heap} {locs : List Loc} {t : State} (hp : post r T M) (hH : Hp V T M H) (hS : va_S (AV V) (cS X).heap H locs) (ht : t.heap = H) : QcV V post (cA X) (cS X) (.returned (r.map (tv V))) t := ⟨⟨r, T, M, rfl, hp, by rw [ht]; exact hH⟩, hS.F ht⟩
theorem ar_ireturn (C : Cx X V mb d) (hr : mb.2.2.2 = some .int) {v : Int32} (hd : decode mb.2.1 pc = .ok (.ireturn, 1)) (hp : post (some (.int v)) T M) : AW X V mb.2.2.1 T M cl sl (QM X V post cl sl) pc als [.int v] := fun _ _ _ hH hS _ =>
  W.iret C.1 C.2.1 (C.2.2.2.2.2.2.1.trans hr) (fun t ht _ => QcV_i (X := X) (r := some (.int v)) hp hH hS ht) hS.2.2 hd C.2.2.2.2.2.2.2.1
theorem ar_zreturn (C : Cx X V mb d) (hr : mb.2.2.2 = some .boolean) {v : Int32} (hn : narrow .boolean (.int v) = .int v) (hd : decode mb.2.1 pc = .ok (.ireturn, 1)) (hp : post (some (.int v)) T M) : AW X V mb.2.2.1 T M cl sl (QM X V post cl sl) pc als [.int v] := fun _ _ _ hH hS _ =>
  W.zret C.1 C.2.1 (C.2.2.2.2.2.2.1.trans hr) hn (fun t ht _ => QcV_i (X := X) (r := some (.int v)) hp hH hS ht) hS.2.2 hd C.2.2.2.2.2.2.2.1
theorem ar_lreturn (C : Cx X V mb d) (hr : mb.2.2.2 = some .long) {v : Int64} (hd : decode mb.2.1 pc = .ok (.lreturn, 1)) (hp : post (some (.long v)) T M) : AW X V mb.2.2.1 T M cl sl (QM X V post cl sl) pc als [.long v] := fun _ _ _ hH hS _ =>
  W.lret C.1 C.2.1 (C.2.2.2.2.2.2.1.trans hr) (fun t ht _ => QcV_i (X := X) (r := some (.long v)) hp hH hS ht) hS.2.2 hd C.2.2.2.2.2.2.2.1
theorem ar_return (C : Cx X V mb d) (hr : mb.2.2.2 = none) (hd : decode mb.2.1 pc = .ok (.return_, 1)) (hp : post none T M) : AW X V mb.2.2.1 T M cl sl (QM X V post cl sl) pc als [] := fun _ _ _ hH hS _ =>
  W.vret C.1 C.2.1 (C.2.2.2.2.2.2.1.trans hr) (fun t ht _ => QcV_i (X := X) (r := none) hp hH hS ht) hS.2.2 hd C.2.2.2.2.2.2.2.1
theorem PcV_blind (ar : List Value) : FrameBlind (PcV V ar T M) := fun a U g mk h => ⟨h.1, h.2.1, Ks_calling g mk a h.2.2⟩
theorem PcV_at (C : Cx X V mb d) {ar : List Value} {H : Heap} {locs : List Loc} (hH : Hp V T M H) (hS : va_S (AV V) (cS X).heap H locs) : ∀ U : State, U.heap = H → (cS X).WarmedH U.vm → PcV V ar T M (tvs V ar).toArray U := fun _ hU hW => ⟨rfl, by rw [hU]; exact hH, Ks_to C.2.2.2.2.2.1 hU hS hW⟩
/-- behind a call -/
theorem run_cont {H : Heap} {locs : List Loc} {ls : Array Slot} {st0 : List Value} {a : Array Value} {mc ms : Nat} (hr : va_Run (cP X) (cL X) (cE X) (cR X) (cS X) (cM X) (cA X) (cB X) (cT X) (cC X) H locs cl sl mc ms (F0 (cM X) pc ls st0) (tvs V st) (QcV V post a) (AV V)) (hS : va_S (AV V) (cS X).heap H locs) {nL : Nat} (hl : lv_has ls nL (tvl V als))
    (kk : ∀ (r : Option Value) (T' : Tt) (M' : Mm), post r T' M' → AW X V nL T' M' (cl + mc) (sl + ms) Q (pc + 3) als (r.toList ++ st)) : WX X H locs cl sl Q (F0 (cM X) pc ls st0) := by
  intro U hU Y
  obtain ⟨v, st₀, t, U', L, h0, Y', hL, e1, e2, ⟨⟨r, T', M', hv, hp, hb⟩, hz, hk⟩, stp⟩ := hr U hU Y
  cases hv
  rw [h0] at hz hk
  have hb' : Hp V T' M' U'.heap := by rw [e1]; exact hb
  obtain ⟨t2, a1, b1⟩ := kk r T' M' hp U'.heap (locs ++ L) ls hb'
    ⟨Nat.le_trans hS.1 (by rw [e1]; exact hz), fun q h1 h2 => by rw [e1, hk q (Nat.lt_of_lt_of_le h1 hS.1) h2]; exact hS.2.1 q h1 h2, fun q hq => by
      rcases List.mem_append.mp hq with h | h
      · exact hS.2.2 q h
      · exact hL q h⟩ hl U' rfl Y'
  refine ⟨t2, stp t2 ?_, b1⟩
  have e3 : tvs V (r.toList ++ st) = (r.map (tv V)).toList ++ tvs V st := by cases r <;> rfl
  rw [e3] at a1
  exact a1
/-- a method by its pool number -/
def LK (own : String) (idx : Nat) (b : MB) (n : Nat) : Prop := (Cond.methodLink own idx b.1 ∈ wA ∨ ∃ host, Cond.methodLinkNest own idx b.1 host ∈ wN) ∧ Cond.initialized b.1.cls ∈ wA ∧ Cond.code b.1 b.2.1 b.2.2.1 b.2.2.2 ∈ wA ∧ (b.1.cls ≠ "java/lang/invoke/MethodHandle" ∧ b.1.cls ≠ "java/lang/invoke/VarHandle" ∧ (parseMethodDescriptor b.1.desc).map (fun d => d.parameters.length) = some n) ∧ b.2.2.1 ≤ 15
def SL (own : String) (idx : Nat) (b : MB) (n : Nat) : Prop := LK own idx b n ∧ Cond.static b.1 ∈ wA
def VL (own : String) (idx : Nat) (b : MB) (n c : Nat) : Prop := LK own idx b n ∧ Cond.instanceMethod b.1 ∈ wA ∧ Cond.selects b.1.cls b.1 b.1 ∈ wA ∧ c < 13 ∧ clsC c = b.1.cls
def IL (own : String) (idx : Nat) (b : MB) (n : Nat) : Prop := LK own idx b n ∧ Cond.instanceMethod b.1 ∈ wA ∧ b.1.name = "<init>" ∧ b.2.2.2 = none
theorem wsm_good {b : MB} (h : Cond.code b.1 b.2.1 b.2.2.1 b.2.2.2 ∈ wA) : GoodIn wA (wsm b) := fun w hw => by
  rcases List.mem_cons.mp hw with rfl | hw
  · exact wA_good h
  · exact wA_good hw
theorem room_ok (C : Cx X V mb d) {d' nL mc ms : Nat} (h : d' + 1 ≤ d) (hn : nL ≤ 15) : (rmd d' mc ms).frames + 1 ≤ (cR X).frames ∧ 8 + (nL + 11) + (rmd d' mc ms).locals ≤ (cR X).locals := by
  have h1 := C.2.2.2.2.2.2.2.2.2.1
  have h2 := C.2.2.2.2.2.2.2.2.2.2
  show d' + 1 ≤ _ ∧ 8 + (nL + 11) + 34 * d' ≤ _
  omega
theorem tvs_app (V : Vx) (ar st : List Value) : tvs V (ar.reverse ++ st) = (tvs V ar).reverse ++ tvs V st := by simp [tvs]
theorem tvs_cats (V : Vx) (st : List Value) : ((tvs V st).map fun v => v.category).sum = (st.map fun v => v.category).sum := by
  induction st with
  | nil => rfl
  | cons v st ih => simp only [tvs, List.map_cons, List.sum_cons, tv_cat] at ih ⊢; rw [ih]
theorem cfix (C : Cx X V mb d) : CallFix (cP X) (cM X) (cC X) mb.2.1 mb.2.2.1 (cS X) (cA X) wA mb.1.cls := ⟨C.1, C.2.1, C.2.2.1, C.2.2.2.1, C.2.2.2.2.1⟩
theorem ar_callS (C : Cx X V mb d) {idx n d' : Nat} {b : MB} {ar : List Value} {mc ms : Nat} {st0 : List Value} (L : SL mb.1.cls idx b n) (hM : AM b d' ar T M post mc ms) (hdd : d' + 1 ≤ d) (hn : ar.length = n) (hst : (st.map fun v => v.category).sum ≤ 8) (hs0 : st0 = ar.reverse ++ st) (hroom : cl + mc ≤ (cR X).cells ∧ sl + ms ≤ (cR X).slots) (hd : decode mb.2.1 pc = .ok (.invokestatic idx, 3))
    (kk : ∀ (r : Option Value) (T' : Tt) (M' : Mm), post r T' M' → AW X V mb.2.2.1 T' M' (cl + mc) (sl + ms) Q (pc + 3) als (r.toList ++ st)) : AW X V mb.2.2.1 T M cl sl Q pc als st0 := by
  intro H locs ls hH hS hl
  obtain ⟨⟨hlk, hini, hcode, hnm, h15⟩, hstat⟩ := L
  subst hs0
  have hW : 2 * (F0 (cM X) pc ls (tvs V (ar.reverse ++ st))).monitorRoom + ((tvs V st).map fun v => v.category).sum ≤ 8 := lv_room (by rw [tvs_cats]; exact hst)
  rcases hlk with hlk | ⟨host, hlk⟩
  · exact run_cont (va_runS (As := tvs V ar) (rest := tvs V st) (cfix C) (hM (cL X) V) ⟨callB_of n C.2.2.2.2.1 (wsm_good hcode) rfl rfl rfl (C.2.2.2.2.1 _ hini) (C.2.2.2.2.1 _ hlk) hnm (room_ok C hdd h15), C.2.2.2.2.1 _ hstat⟩ ⟨PcV_blind ar, PcV_at C hH hS⟩ rfl (by simpa [tvs] using hn) hl.1 (tvs_app V ar st) hW hd hroom) hS hl kk
  · exact run_cont (va_runSN (As := tvs V ar) (rest := tvs V st) (cfix C) (hM (cL X) V) ⟨va_cnB n C.2.2.2.2.1 (wsm_good hcode) rfl rfl rfl (C.2.2.2.2.2.1.2.1 _ hlk) (C.2.2.2.2.1 _ hini) hnm (room_ok C hdd h15), C.2.2.2.2.1 _ hstat, trivial⟩ ⟨PcV_blind ar, PcV_at C hH hS⟩ rfl (by simpa [tvs] using hn) hl.1 (tvs_app V ar st) hW hd hroom) hS hl kk
theorem ar_callV (C : Cx X V mb d) {idx n d' c k kn : Nat} {b : MB} {ar : List Value} {mc ms : Nat} {st0 : List Value} (L : VL mb.1.cls idx b n c) (K : KD T k c kn) (hM : AM b d' (.ref k :: ar) T M post mc ms) (hdd : d' + 1 ≤ d) (hn : ar.length = n) (hst : (st.map fun v => v.category).sum ≤ 8) (hs0 : st0 = ar.reverse ++ .ref k :: st) (hroom : cl + mc ≤ (cR X).cells ∧ sl + ms ≤ (cR X).slots) (hd : decode mb.2.1 pc = .ok (.invokevirtual idx, 3))
    (kk : ∀ (r : Option Value) (T' : Tt) (M' : Mm), post r T' M' → AW X V mb.2.2.1 T' M' (cl + mc) (sl + ms) Q (pc + 3) als (r.toList ++ st)) : AW X V mb.2.2.1 T M cl sl Q pc als st0 := by
  intro H locs ls hH hS hl
  obtain ⟨⟨hlk, hini, hcode, hnm, h15⟩, hinst, hsel, h13, hcls⟩ := L
  subst hs0
  have hW : 2 * (F0 (cM X) pc ls (tvs V (ar.reverse ++ .ref k :: st))).monitorRoom + ((tvs V st).map fun v => v.category).sum ≤ 8 := lv_room (by rw [tvs_cats]; exact hst)
  have he := wsW_get (V := V) (M := M) K.1
  rw [cell_o K.2 h13] at he
  have hrec := va_recv C.2.2.2.2.2.1.1 hH.1 (cls_ok c h13) he
  rw [hcls] at hrec
  have happ : tvs V (ar.reverse ++ .ref k :: st) = (tvs V ar).reverse ++ .ref (V.2.2.1 + k) :: tvs V st := tvs_app V ar (.ref k :: st)
  rcases hlk with hlk | ⟨host, hlk⟩
  · exact run_cont (va_runV (As := tvs V ar) (rest := tvs V st) (cfix C) (hM (cL X) V) ⟨callB_of n C.2.2.2.2.1 (wsm_good hcode) rfl rfl rfl (C.2.2.2.2.1 _ hini) (C.2.2.2.2.1 _ hlk) hnm (room_ok C hdd h15), C.2.2.2.2.1 _ hinst, C.2.2.2.2.1 _ hsel⟩ ⟨PcV_blind _, hrec, PcV_at C hH hS⟩ rfl (by simpa [tvs] using hn) hl.1 happ hW hd hroom) hS hl kk
  · exact run_cont (va_runVN (As := tvs V ar) (rest := tvs V st) (cfix C) (hM (cL X) V) ⟨va_cnB n C.2.2.2.2.1 (wsm_good hcode) rfl rfl rfl (C.2.2.2.2.2.1.2.1 _ hlk) (C.2.2.2.2.1 _ hini) hnm (room_ok C hdd h15), C.2.2.2.2.1 _ hinst, C.2.2.2.2.1 _ hsel⟩ ⟨PcV_blind _, hrec, PcV_at C hH hS⟩ rfl (by simpa [tvs] using hn) hl.1 happ hW hd hroom) hS hl kk
end ROWS2
end
section
abbrev mX11_init : MB := (yX11_init, cX11_init, 2, none)
theorem mwX11_init : Cond.initialized mX11_init.1.cls ∈ wA ∧ Cond.code mX11_init.1 mX11_init.2.1 mX11_init.2.2.1 mX11_init.2.2.2 ∈ wA ∧ (mX11_init.1.cls ≠ "java/lang/invoke/MethodHandle" ∧ mX11_init.1.cls ≠ "java/lang/invoke/VarHandle" ∧ (parseMethodDescriptor mX11_init.1.desc).map (fun d => d.parameters.length) = some 0) ∧ mX11_init.2.2.1 ≤ 15 := ⟨wA_t 1 (by decide +kernel) rfl, wA_t 20 (by decide +kernel) rfl, ⟨by decide +kernel, by decide +kernel, by decide +kernel⟩, by decide⟩
abbrev mX4_init : MB := (yX4_init, cX4_init, 1, none)
theorem mwX4_init : Cond.initialized mX4_init.1.cls ∈ wA ∧ Cond.code mX4_init.1 mX4_init.2.1 mX4_init.2.2.1 mX4_init.2.2.2 ∈ wA ∧ (mX4_init.1.cls ≠ "java/lang/invoke/MethodHandle" ∧ mX4_init.1.cls ≠ "java/lang/invoke/VarHandle" ∧ (parseMethodDescriptor mX4_init.1.desc).map (fun d => d.parameters.length) = some 0) ∧ mX4_init.2.2.1 ≤ 15 := ⟨wA_t 2 (by decide +kernel) rfl, wA_t 30 (by decide +kernel) rfl, ⟨by decide +kernel, by decide +kernel, by decide +kernel⟩, by decide⟩
abbrev mX2_init : MB := (yX2_init, cX2_init, 1, none)
theorem mwX2_init : Cond.initialized mX2_init.1.cls ∈ wA ∧ Cond.code mX2_init.1 mX2_init.2.1 mX2_init.2.2.1 mX2_init.2.2.2 ∈ wA ∧ (mX2_init.1.cls ≠ "java/lang/invoke/MethodHandle" ∧ mX2_init.1.cls ≠ "java/lang/invoke/VarHandle" ∧ (parseMethodDescriptor mX2_init.1.desc).map (fun d => d.parameters.length) = some 0) ∧ mX2_init.2.2.1 ≤ 15 := ⟨wA_t 3 (by decide +kernel) rfl, wA_t 52 (by decide +kernel) rfl, ⟨by decide +kernel, by decide +kernel, by decide +kernel⟩, by decide⟩
abbrev mX1_init : MB := (yX1_init, cX1_init, 1, none)
theorem mwX1_init : Cond.initialized mX1_init.1.cls ∈ wA ∧ Cond.code mX1_init.1 mX1_init.2.1 mX1_init.2.2.1 mX1_init.2.2.2 ∈ wA ∧ (mX1_init.1.cls ≠ "java/lang/invoke/MethodHandle" ∧ mX1_init.1.cls ≠ "java/lang/invoke/VarHandle" ∧ (parseMethodDescriptor mX1_init.1.desc).map (fun d => d.parameters.length) = some 0) ∧ mX1_init.2.2.1 ≤ 15 := ⟨wA_t 4 (by decide +kernel) rfl, wA_t 87 (by decide +kernel) rfl, ⟨by decide +kernel, by decide +kernel, by decide +kernel⟩, by decide⟩
abbrev mX5_init : MB := (yX5_init, cX5_init, 1, none)
theorem mwX5_init : Cond.initialized mX5_init.1.cls ∈ wA ∧ Cond.code mX5_init.1 mX5_init.2.1 mX5_init.2.2.1 mX5_init.2.2.2 ∈ wA ∧ (mX5_init.1.cls ≠ "java/lang/invoke/MethodHandle" ∧ mX5_init.1.cls ≠ "java/lang/invoke/VarHandle" ∧ (parseMethodDescriptor mX5_init.1.desc).map (fun d => d.parameters.length) = some 0) ∧ mX5_init.2.2.1 ≤ 15 := ⟨wA_t 5 (by decide +kernel) rfl, wA_t 93 (by decide +kernel) rfl, ⟨by decide +kernel, by decide +kernel, by decide +kernel⟩, by decide⟩
abbrev mX3_init : MB := (yX3_init, cX3_init, 1, none)
theorem mwX3_init : Cond.initialized mX3_init.1.cls ∈ wA ∧ Cond.code mX3_init.1 mX3_init.2.1 mX3_init.2.2.1 mX3_init.2.2.2 ∈ wA ∧ (mX3_init.1.cls ≠ "java/lang/invoke/MethodHandle" ∧ mX3_init.1.cls ≠ "java/lang/invoke/VarHandle" ∧ (parseMethodDescriptor mX3_init.1.desc).map (fun d => d.parameters.length) = some 0) ∧ mX3_init.2.2.1 ≤ 15 := ⟨wA_t 6 (by decide +kernel) rfl, wA_t 114 (by decide +kernel) rfl, ⟨by decide +kernel, by decide +kernel, by decide +kernel⟩, by decide⟩
abbrev mX7_init : MB := (yX7_init, cX7_init, 1, none)
theorem mwX7_init : Cond.initialized mX7_init.1.cls ∈ wA ∧ Cond.code mX7_init.1 mX7_init.2.1 mX7_init.2.2.1 mX7_init.2.2.2 ∈ wA ∧ (mX7_init.1.cls ≠ "java/lang/invoke/MethodHandle" ∧ mX7_init.1.cls ≠ "java/lang/invoke/VarHandle" ∧ (parseMethodDescriptor mX7_init.1.desc).map (fun d => d.parameters.length) = some 0) ∧ mX7_init.2.2.1 ≤ 15 := ⟨wA_t 7 (by decide +kernel) rfl, wA_t 135 (by decide +kernel) rfl, ⟨by decide +kernel, by decide +kernel, by decide +kernel⟩, by decide⟩
abbrev mX8_init : MB := (yX8_init, cX8_init, 1, none)
theorem mwX8_init : Cond.initialized mX8_init.1.cls ∈ wA ∧ Cond.code mX8_init.1 mX8_init.2.1 mX8_init.2.2.1 mX8_init.2.2.2 ∈ wA ∧ (mX8_init.1.cls ≠ "java/lang/invoke/MethodHandle" ∧ mX8_init.1.cls ≠ "java/lang/invoke/VarHandle" ∧ (parseMethodDescriptor mX8_init.1.desc).map (fun d => d.parameters.length) = some 0) ∧ mX8_init.2.2.1 ≤ 15 := ⟨wA_t 8 (by decide +kernel) rfl, wA_t 149 (by decide +kernel) rfl, ⟨by decide +kernel, by decide +kernel, by decide +kernel⟩, by decide⟩
abbrev mX0_init : MB := (yX0_init, cX0_init, 1, none)
theorem mwX0_init : Cond.initialized mX0_init.1.cls ∈ wA ∧ Cond.code mX0_init.1 mX0_init.2.1 mX0_init.2.2.1 mX0_init.2.2.2 ∈ wA ∧ (mX0_init.1.cls ≠ "java/lang/invoke/MethodHandle" ∧ mX0_init.1.cls ≠ "java/lang/invoke/VarHandle" ∧ (parseMethodDescriptor mX0_init.1.desc).map (fun d => d.parameters.length) = some 0) ∧ mX0_init.2.2.1 ≤ 15 := ⟨wA_t 9 (by decide +kernel) rfl, wA_t 176 (by decide +kernel) rfl, ⟨by decide +kernel, by decide +kernel, by decide +kernel⟩, by decide⟩
abbrev mX6_init : MB := (yX6_init, cX6_init, 1, none)
theorem mwX6_init : Cond.initialized mX6_init.1.cls ∈ wA ∧ Cond.code mX6_init.1 mX6_init.2.1 mX6_init.2.2.1 mX6_init.2.2.2 ∈ wA ∧ (mX6_init.1.cls ≠ "java/lang/invoke/MethodHandle" ∧ mX6_init.1.cls ≠ "java/lang/invoke/VarHandle" ∧ (parseMethodDescriptor mX6_init.1.desc).map (fun d => d.parameters.length) = some 0) ∧ mX6_init.2.2.1 ≤ 15 := ⟨wA_t 10 (by decide +kernel) rfl, wA_t 199 (by decide +kernel) rfl, ⟨by decide +kernel, by decide +kernel, by decide +kernel⟩, by decide⟩
abbrev mX9_init : MB := (yX9_init, cX9_init, 1, none)
theorem mwX9_init : Cond.initialized mX9_init.1.cls ∈ wA ∧ Cond.code mX9_init.1 mX9_init.2.1 mX9_init.2.2.1 mX9_init.2.2.2 ∈ wA ∧ (mX9_init.1.cls ≠ "java/lang/invoke/MethodHandle" ∧ mX9_init.1.cls ≠ "java/lang/invoke/VarHandle" ∧ (parseMethodDescriptor mX9_init.1.desc).map (fun d => d.parameters.length) = some 0) ∧ mX9_init.2.2.1 ≤ 15 := ⟨wA_t 11 (by decide +kernel) rfl, wA_t 216 (by decide +kernel) rfl, ⟨by decide +kernel, by decide +kernel, by decide +kernel⟩, by decide⟩
abbrev mX10_init : MB := (yX10_init, cX10_init, 1, none)
theorem mwX10_init : Cond.initialized mX10_init.1.cls ∈ wA ∧ Cond.code mX10_init.1 mX10_init.2.1 mX10_init.2.2.1 mX10_init.2.2.2 ∈ wA ∧ (mX10_init.1.cls ≠ "java/lang/invoke/MethodHandle" ∧ mX10_init.1.cls ≠ "java/lang/invoke/VarHandle" ∧ (parseMethodDescriptor mX10_init.1.desc).map (fun d => d.parameters.length) = some 0) ∧ mX10_init.2.2.1 ≤ 15 := ⟨wA_t 12 (by decide +kernel) rfl, wA_t 242 (by decide +kernel) rfl, ⟨by decide +kernel, by decide +kernel, by decide +kernel⟩, by decide⟩
abbrev mX11_sheet : MB := (yX11_sheet, cX11_sheet, 4, some .int)
theorem mwX11_sheet : Cond.initialized mX11_sheet.1.cls ∈ wA ∧ Cond.code mX11_sheet.1 mX11_sheet.2.1 mX11_sheet.2.2.1 mX11_sheet.2.2.2 ∈ wA ∧ (mX11_sheet.1.cls ≠ "java/lang/invoke/MethodHandle" ∧ mX11_sheet.1.cls ≠ "java/lang/invoke/VarHandle" ∧ (parseMethodDescriptor mX11_sheet.1.desc).map (fun d => d.parameters.length) = some 3) ∧ mX11_sheet.2.2.1 ≤ 15 := ⟨wA_t 1 (by decide +kernel) rfl, wA_t 304 (by decide +kernel) rfl, ⟨by decide +kernel, by decide +kernel, by decide +kernel⟩, by decide⟩
abbrev mX11_isSheet : MB := (yX11_isSheet, cX11_isSheet, 1, some .boolean)
theorem mwX11_isSheet : Cond.initialized mX11_isSheet.1.cls ∈ wA ∧ Cond.code mX11_isSheet.1 mX11_isSheet.2.1 mX11_isSheet.2.2.1 mX11_isSheet.2.2.2 ∈ wA ∧ (mX11_isSheet.1.cls ≠ "java/lang/invoke/MethodHandle" ∧ mX11_isSheet.1.cls ≠ "java/lang/invoke/VarHandle" ∧ (parseMethodDescriptor mX11_isSheet.1.desc).map (fun d => d.parameters.length) = some 1) ∧ mX11_isSheet.2.2.1 ≤ 15 := ⟨wA_t 1 (by decide +kernel) rfl, wA_t 307 (by decide +kernel) rfl, ⟨by decide +kernel, by decide +kernel, by decide +kernel⟩, by decide⟩
abbrev mX11_within : MB := (yX11_within, cX11_within, 3, some .boolean)
theorem mwX11_within : Cond.initialized mX11_within.1.cls ∈ wA ∧ Cond.code mX11_within.1 mX11_within.2.1 mX11_within.2.2.1 mX11_within.2.2.2 ∈ wA ∧ (mX11_within.1.cls ≠ "java/lang/invoke/MethodHandle" ∧ mX11_within.1.cls ≠ "java/lang/invoke/VarHandle" ∧ (parseMethodDescriptor mX11_within.1.desc).map (fun d => d.parameters.length) = some 3) ∧ mX11_within.2.2.1 ≤ 15 := ⟨wA_t 1 (by decide +kernel) rfl, wA_t 310 (by decide +kernel) rfl, ⟨by decide +kernel, by decide +kernel, by decide +kernel⟩, by decide⟩
abbrev mX11_found : MB := (yX11_found, cX11_found, 2, some .int)
theorem mwX11_found : Cond.initialized mX11_found.1.cls ∈ wA ∧ Cond.code mX11_found.1 mX11_found.2.1 mX11_found.2.2.1 mX11_found.2.2.2 ∈ wA ∧ (mX11_found.1.cls ≠ "java/lang/invoke/MethodHandle" ∧ mX11_found.1.cls ≠ "java/lang/invoke/VarHandle" ∧ (parseMethodDescriptor mX11_found.1.desc).map (fun d => d.parameters.length) = some 1) ∧ mX11_found.2.2.1 ≤ 15 := ⟨wA_t 1 (by decide +kernel) rfl, wA_t 315 (by decide +kernel) rfl, ⟨by decide +kernel, by decide +kernel, by decide +kernel⟩, by decide⟩
abbrev mX6_lay : MB := (yX6_lay, cX6_lay, 4, none)
theorem mwX6_lay : Cond.initialized mX6_lay.1.cls ∈ wA ∧ Cond.code mX6_lay.1 mX6_lay.2.1 mX6_lay.2.2.1 mX6_lay.2.2.2 ∈ wA ∧ (mX6_lay.1.cls ≠ "java/lang/invoke/MethodHandle" ∧ mX6_lay.1.cls ≠ "java/lang/invoke/VarHandle" ∧ (parseMethodDescriptor mX6_lay.1.desc).map (fun d => d.parameters.length) = some 2) ∧ mX6_lay.2.2.1 ≤ 15 := ⟨wA_t 10 (by decide +kernel) rfl, wA_t 320 (by decide +kernel) rfl, ⟨by decide +kernel, by decide +kernel, by decide +kernel⟩, by decide⟩
abbrev mX11_clean : MB := (yX11_clean, cX11_clean, 2, some .int)
theorem mwX11_clean : Cond.initialized mX11_clean.1.cls ∈ wA ∧ Cond.code mX11_clean.1 mX11_clean.2.1 mX11_clean.2.2.1 mX11_clean.2.2.2 ∈ wA ∧ (mX11_clean.1.cls ≠ "java/lang/invoke/MethodHandle" ∧ mX11_clean.1.cls ≠ "java/lang/invoke/VarHandle" ∧ (parseMethodDescriptor mX11_clean.1.desc).map (fun d => d.parameters.length) = some 1) ∧ mX11_clean.2.2.1 ≤ 15 := ⟨wA_t 1 (by decide +kernel) rfl, wA_t 324 (by decide +kernel) rfl, ⟨by decide +kernel, by decide +kernel, by decide +kernel⟩, by decide⟩
abbrev mX11_set : MB := (yX11_set, cX11_set, 5, some .int)
theorem mwX11_set : Cond.initialized mX11_set.1.cls ∈ wA ∧ Cond.code mX11_set.1 mX11_set.2.1 mX11_set.2.2.1 mX11_set.2.2.2 ∈ wA ∧ (mX11_set.1.cls ≠ "java/lang/invoke/MethodHandle" ∧ mX11_set.1.cls ≠ "java/lang/invoke/VarHandle" ∧ (parseMethodDescriptor mX11_set.1.desc).map (fun d => d.parameters.length) = some 3) ∧ mX11_set.2.2.1 ≤ 15 := ⟨wA_t 1 (by decide +kernel) rfl, wA_t 328 (by decide +kernel) rfl, ⟨by decide +kernel, by decide +kernel, by decide +kernel⟩, by decide⟩
abbrev mX6_isMissing : MB := (yX6_isMissing, cX6_isMissing, 1, some .boolean)
theorem mwX6_isMissing : Cond.initialized mX6_isMissing.1.cls ∈ wA ∧ Cond.code mX6_isMissing.1 mX6_isMissing.2.1 mX6_isMissing.2.2.1 mX6_isMissing.2.2.2 ∈ wA ∧ (mX6_isMissing.1.cls ≠ "java/lang/invoke/MethodHandle" ∧ mX6_isMissing.1.cls ≠ "java/lang/invoke/VarHandle" ∧ (parseMethodDescriptor mX6_isMissing.1.desc).map (fun d => d.parameters.length) = some 0) ∧ mX6_isMissing.2.2.1 ≤ 15 := ⟨wA_t 10 (by decide +kernel) rfl, wA_t 332 (by decide +kernel) rfl, ⟨by decide +kernel, by decide +kernel, by decide +kernel⟩, by decide⟩
abbrev mX6_holds : MB := (yX6_holds, cX6_holds, 3, some .boolean)
theorem mwX6_holds : Cond.initialized mX6_holds.1.cls ∈ wA ∧ Cond.code mX6_holds.1 mX6_holds.2.1 mX6_holds.2.2.1 mX6_holds.2.2.2 ∈ wA ∧ (mX6_holds.1.cls ≠ "java/lang/invoke/MethodHandle" ∧ mX6_holds.1.cls ≠ "java/lang/invoke/VarHandle" ∧ (parseMethodDescriptor mX6_holds.1.desc).map (fun d => d.parameters.length) = some 2) ∧ mX6_holds.2.2.1 ≤ 15 := ⟨wA_t 10 (by decide +kernel) rfl, wA_t 336 (by decide +kernel) rfl, ⟨by decide +kernel, by decide +kernel, by decide +kernel⟩, by decide⟩
abbrev mX6_write : MB := (yX6_write, cX6_write, 3, some .int)
theorem mwX6_write : Cond.initialized mX6_write.1.cls ∈ wA ∧ Cond.code mX6_write.1 mX6_write.2.1 mX6_write.2.2.1 mX6_write.2.2.2 ∈ wA ∧ (mX6_write.1.cls ≠ "java/lang/invoke/MethodHandle" ∧ mX6_write.1.cls ≠ "java/lang/invoke/VarHandle" ∧ (parseMethodDescriptor mX6_write.1.desc).map (fun d => d.parameters.length) = some 2) ∧ mX6_write.2.2.1 ≤ 15 := ⟨wA_t 10 (by decide +kernel) rfl, wA_t 340 (by decide +kernel) rfl, ⟨by decide +kernel, by decide +kernel, by decide +kernel⟩, by decide⟩
abbrev mX11_copy : MB := (yX11_copy, cX11_copy, 8, some .int)
theorem mwX11_copy : Cond.initialized mX11_copy.1.cls ∈ wA ∧ Cond.code mX11_copy.1 mX11_copy.2.1 mX11_copy.2.2.1 mX11_copy.2.2.2 ∈ wA ∧ (mX11_copy.1.cls ≠ "java/lang/invoke/MethodHandle" ∧ mX11_copy.1.cls ≠ "java/lang/invoke/VarHandle" ∧ (parseMethodDescriptor mX11_copy.1.desc).map (fun d => d.parameters.length) = some 5) ∧ mX11_copy.2.2.1 ≤ 15 := ⟨wA_t 1 (by decide +kernel) rfl, wA_t 344 (by decide +kernel) rfl, ⟨by decide +kernel, by decide +kernel, by decide +kernel⟩, by decide⟩
abbrev mX11_drop : MB := (yX11_drop, cX11_drop, 2, some .int)
theorem mwX11_drop : Cond.initialized mX11_drop.1.cls ∈ wA ∧ Cond.code mX11_drop.1 mX11_drop.2.1 mX11_drop.2.2.1 mX11_drop.2.2.2 ∈ wA ∧ (mX11_drop.1.cls ≠ "java/lang/invoke/MethodHandle" ∧ mX11_drop.1.cls ≠ "java/lang/invoke/VarHandle" ∧ (parseMethodDescriptor mX11_drop.1.desc).map (fun d => d.parameters.length) = some 1) ∧ mX11_drop.2.2.1 ≤ 15 := ⟨wA_t 1 (by decide +kernel) rfl, wA_t 351 (by decide +kernel) rfl, ⟨by decide +kernel, by decide +kernel, by decide +kernel⟩, by decide⟩
abbrev mX6_lose : MB := (yX6_lose, cX6_lose, 2, some .int)
theorem mwX6_lose : Cond.initialized mX6_lose.1.cls ∈ wA ∧ Cond.code mX6_lose.1 mX6_lose.2.1 mX6_lose.2.2.1 mX6_lose.2.2.2 ∈ wA ∧ (mX6_lose.1.cls ≠ "java/lang/invoke/MethodHandle" ∧ mX6_lose.1.cls ≠ "java/lang/invoke/VarHandle" ∧ (parseMethodDescriptor mX6_lose.1.desc).map (fun d => d.parameters.length) = some 0) ∧ mX6_lose.2.2.1 ≤ 15 := ⟨wA_t 10 (by decide +kernel) rfl, wA_t 355 (by decide +kernel) rfl, ⟨by decide +kernel, by decide +kernel, by decide +kernel⟩, by decide⟩
abbrev mX11_room : MB := (yX11_room, cX11_room, 4, some .int)
theorem mwX11_room : Cond.initialized mX11_room.1.cls ∈ wA ∧ Cond.code mX11_room.1 mX11_room.2.1 mX11_room.2.2.1 mX11_room.2.2.2 ∈ wA ∧ (mX11_room.1.cls ≠ "java/lang/invoke/MethodHandle" ∧ mX11_room.1.cls ≠ "java/lang/invoke/VarHandle" ∧ (parseMethodDescriptor mX11_room.1.desc).map (fun d => d.parameters.length) = some 2) ∧ mX11_room.2.2.1 ≤ 15 := ⟨wA_t 1 (by decide +kernel) rfl, wA_t 359 (by decide +kernel) rfl, ⟨by decide +kernel, by decide +kernel, by decide +kernel⟩, by decide⟩
abbrev mX11_bend : MB := (yX11_bend, cX11_bend, 4, some .int)
theorem mwX11_bend : Cond.initialized mX11_bend.1.cls ∈ wA ∧ Cond.code mX11_bend.1 mX11_bend.2.1 mX11_bend.2.2.1 mX11_bend.2.2.2 ∈ wA ∧ (mX11_bend.1.cls ≠ "java/lang/invoke/MethodHandle" ∧ mX11_bend.1.cls ≠ "java/lang/invoke/VarHandle" ∧ (parseMethodDescriptor mX11_bend.1.desc).map (fun d => d.parameters.length) = some 2) ∧ mX11_bend.2.2.1 ≤ 15 := ⟨wA_t 1 (by decide +kernel) rfl, wA_t 367 (by decide +kernel) rfl, ⟨by decide +kernel, by decide +kernel, by decide +kernel⟩, by decide⟩
abbrev mX11_told : MB := (yX11_told, cX11_told, 2, some .int)
theorem mwX11_told : Cond.initialized mX11_told.1.cls ∈ wA ∧ Cond.code mX11_told.1 mX11_told.2.1 mX11_told.2.2.1 mX11_told.2.2.2 ∈ wA ∧ (mX11_told.1.cls ≠ "java/lang/invoke/MethodHandle" ∧ mX11_told.1.cls ≠ "java/lang/invoke/VarHandle" ∧ (parseMethodDescriptor mX11_told.1.desc).map (fun d => d.parameters.length) = some 1) ∧ mX11_told.2.2.1 ≤ 15 := ⟨wA_t 1 (by decide +kernel) rfl, wA_t 371 (by decide +kernel) rfl, ⟨by decide +kernel, by decide +kernel, by decide +kernel⟩, by decide⟩
abbrev mX11_thing : MB := (yX11_thing, cX11_thing, 4, some .int)
theorem mwX11_thing : Cond.initialized mX11_thing.1.cls ∈ wA ∧ Cond.code mX11_thing.1 mX11_thing.2.1 mX11_thing.2.2.1 mX11_thing.2.2.2 ∈ wA ∧ (mX11_thing.1.cls ≠ "java/lang/invoke/MethodHandle" ∧ mX11_thing.1.cls ≠ "java/lang/invoke/VarHandle" ∧ (parseMethodDescriptor mX11_thing.1.desc).map (fun d => d.parameters.length) = some 3) ∧ mX11_thing.2.2.1 ≤ 15 := ⟨wA_t 1 (by decide +kernel) rfl, wA_t 375 (by decide +kernel) rfl, ⟨by decide +kernel, by decide +kernel, by decide +kernel⟩, by decide⟩
abbrev mX11_isPlace : MB := (yX11_isPlace, cX11_isPlace, 3, some .boolean)
theorem mwX11_isPlace : Cond.initialized mX11_isPlace.1.cls ∈ wA ∧ Cond.code mX11_isPlace.1 mX11_isPlace.2.1 mX11_isPlace.2.2.1 mX11_isPlace.2.2.2 ∈ wA ∧ (mX11_isPlace.1.cls ≠ "java/lang/invoke/MethodHandle" ∧ mX11_isPlace.1.cls ≠ "java/lang/invoke/VarHandle" ∧ (parseMethodDescriptor mX11_isPlace.1.desc).map (fun d => d.parameters.length) = some 3) ∧ mX11_isPlace.2.2.1 ≤ 15 := ⟨wA_t 1 (by decide +kernel) rfl, wA_t 378 (by decide +kernel) rfl, ⟨by decide +kernel, by decide +kernel, by decide +kernel⟩, by decide⟩
abbrev mX11_isFlatPlace : MB := (yX11_isFlatPlace, cX11_isFlatPlace, 1, some .boolean)
theorem mwX11_isFlatPlace : Cond.initialized mX11_isFlatPlace.1.cls ∈ wA ∧ Cond.code mX11_isFlatPlace.1 mX11_isFlatPlace.2.1 mX11_isFlatPlace.2.2.1 mX11_isFlatPlace.2.2.2 ∈ wA ∧ (mX11_isFlatPlace.1.cls ≠ "java/lang/invoke/MethodHandle" ∧ mX11_isFlatPlace.1.cls ≠ "java/lang/invoke/VarHandle" ∧ (parseMethodDescriptor mX11_isFlatPlace.1.desc).map (fun d => d.parameters.length) = some 1) ∧ mX11_isFlatPlace.2.2.1 ≤ 15 := ⟨wA_t 1 (by decide +kernel) rfl, wA_t 381 (by decide +kernel) rfl, ⟨by decide +kernel, by decide +kernel, by decide +kernel⟩, by decide⟩
abbrev mX9_put : MB := (yX9_put, cX9_put, 4, none)
theorem mwX9_put : Cond.initialized mX9_put.1.cls ∈ wA ∧ Cond.code mX9_put.1 mX9_put.2.1 mX9_put.2.2.1 mX9_put.2.2.2 ∈ wA ∧ (mX9_put.1.cls ≠ "java/lang/invoke/MethodHandle" ∧ mX9_put.1.cls ≠ "java/lang/invoke/VarHandle" ∧ (parseMethodDescriptor mX9_put.1.desc).map (fun d => d.parameters.length) = some 3) ∧ mX9_put.2.2.1 ≤ 15 := ⟨wA_t 11 (by decide +kernel) rfl, wA_t 386 (by decide +kernel) rfl, ⟨by decide +kernel, by decide +kernel, by decide +kernel⟩, by decide⟩
abbrev mX11_move : MB := (yX11_move, cX11_move, 5, some .int)
theorem mwX11_move : Cond.initialized mX11_move.1.cls ∈ wA ∧ Cond.code mX11_move.1 mX11_move.2.1 mX11_move.2.2.1 mX11_move.2.2.2 ∈ wA ∧ (mX11_move.1.cls ≠ "java/lang/invoke/MethodHandle" ∧ mX11_move.1.cls ≠ "java/lang/invoke/VarHandle" ∧ (parseMethodDescriptor mX11_move.1.desc).map (fun d => d.parameters.length) = some 4) ∧ mX11_move.2.2.1 ≤ 15 := ⟨wA_t 1 (by decide +kernel) rfl, wA_t 390 (by decide +kernel) rfl, ⟨by decide +kernel, by decide +kernel, by decide +kernel⟩, by decide⟩
abbrev mX11_isThing : MB := (yX11_isThing, cX11_isThing, 2, some .boolean)
theorem mwX11_isThing : Cond.initialized mX11_isThing.1.cls ∈ wA ∧ Cond.code mX11_isThing.1 mX11_isThing.2.1 mX11_isThing.2.2.1 mX11_isThing.2.2.2 ∈ wA ∧ (mX11_isThing.1.cls ≠ "java/lang/invoke/MethodHandle" ∧ mX11_isThing.1.cls ≠ "java/lang/invoke/VarHandle" ∧ (parseMethodDescriptor mX11_isThing.1.desc).map (fun d => d.parameters.length) = some 1) ∧ mX11_isThing.2.2.1 ≤ 15 := ⟨wA_t 1 (by decide +kernel) rfl, wA_t 394 (by decide +kernel) rfl, ⟨by decide +kernel, by decide +kernel, by decide +kernel⟩, by decide⟩
abbrev mX11_picture : MB := (yX11_picture, cX11_picture, 4, some .int)
theorem mwX11_picture : Cond.initialized mX11_picture.1.cls ∈ wA ∧ Cond.code mX11_picture.1 mX11_picture.2.1 mX11_picture.2.2.1 mX11_picture.2.2.2 ∈ wA ∧ (mX11_picture.1.cls ≠ "java/lang/invoke/MethodHandle" ∧ mX11_picture.1.cls ≠ "java/lang/invoke/VarHandle" ∧ (parseMethodDescriptor mX11_picture.1.desc).map (fun d => d.parameters.length) = some 2) ∧ mX11_picture.2.2.1 ≤ 15 := ⟨wA_t 1 (by decide +kernel) rfl, wA_t 398 (by decide +kernel) rfl, ⟨by decide +kernel, by decide +kernel, by decide +kernel⟩, by decide⟩
abbrev mX2_take : MB := (yX2_take, cX2_take, 4, none)
theorem mwX2_take : Cond.initialized mX2_take.1.cls ∈ wA ∧ Cond.code mX2_take.1 mX2_take.2.1 mX2_take.2.2.1 mX2_take.2.2.2 ∈ wA ∧ (mX2_take.1.cls ≠ "java/lang/invoke/MethodHandle" ∧ mX2_take.1.cls ≠ "java/lang/invoke/VarHandle" ∧ (parseMethodDescriptor mX2_take.1.desc).map (fun d => d.parameters.length) = some 2) ∧ mX2_take.2.2.1 ≤ 15 := ⟨wA_t 3 (by decide +kernel) rfl, wA_t 402 (by decide +kernel) rfl, ⟨by decide +kernel, by decide +kernel, by decide +kernel⟩, by decide⟩
abbrev mX4_firstAt : MB := (yX4_firstAt, cX4_firstAt, 2, some .int)
theorem mwX4_firstAt : Cond.initialized mX4_firstAt.1.cls ∈ wA ∧ Cond.code mX4_firstAt.1 mX4_firstAt.2.1 mX4_firstAt.2.2.1 mX4_firstAt.2.2.2 ∈ wA ∧ (mX4_firstAt.1.cls ≠ "java/lang/invoke/MethodHandle" ∧ mX4_firstAt.1.cls ≠ "java/lang/invoke/VarHandle" ∧ (parseMethodDescriptor mX4_firstAt.1.desc).map (fun d => d.parameters.length) = some 2) ∧ mX4_firstAt.2.2.1 ≤ 15 := ⟨wA_t 2 (by decide +kernel) rfl, wA_t 405 (by decide +kernel) rfl, ⟨by decide +kernel, by decide +kernel, by decide +kernel⟩, by decide⟩
abbrev mX11_by : MB := (yX11_by, cX11_by, 2, some .int)
theorem mwX11_by : Cond.initialized mX11_by.1.cls ∈ wA ∧ Cond.code mX11_by.1 mX11_by.2.1 mX11_by.2.2.1 mX11_by.2.2.2 ∈ wA ∧ (mX11_by.1.cls ≠ "java/lang/invoke/MethodHandle" ∧ mX11_by.1.cls ≠ "java/lang/invoke/VarHandle" ∧ (parseMethodDescriptor mX11_by.1.desc).map (fun d => d.parameters.length) = some 2) ∧ mX11_by.2.2.1 ≤ 15 := ⟨wA_t 1 (by decide +kernel) rfl, wA_t 408 (by decide +kernel) rfl, ⟨by decide +kernel, by decide +kernel, by decide +kernel⟩, by decide⟩
abbrev mX4_columnOf : MB := (yX4_columnOf, cX4_columnOf, 2, some .int)
theorem mwX4_columnOf : Cond.initialized mX4_columnOf.1.cls ∈ wA ∧ Cond.code mX4_columnOf.1 mX4_columnOf.2.1 mX4_columnOf.2.2.1 mX4_columnOf.2.2.2 ∈ wA ∧ (mX4_columnOf.1.cls ≠ "java/lang/invoke/MethodHandle" ∧ mX4_columnOf.1.cls ≠ "java/lang/invoke/VarHandle" ∧ (parseMethodDescriptor mX4_columnOf.1.desc).map (fun d => d.parameters.length) = some 1) ∧ mX4_columnOf.2.2.1 ≤ 15 := ⟨wA_t 2 (by decide +kernel) rfl, wA_t 411 (by decide +kernel) rfl, ⟨by decide +kernel, by decide +kernel, by decide +kernel⟩, by decide⟩
abbrev mJ9_floorDiv_7cf53 : MB := (yJ9_floorDiv_7cf53, cJ9_floorDiv_7cf53, 3, some .int)
theorem mwJ9_floorDiv_7cf53 : Cond.initialized mJ9_floorDiv_7cf53.1.cls ∈ wA ∧ Cond.code mJ9_floorDiv_7cf53.1 mJ9_floorDiv_7cf53.2.1 mJ9_floorDiv_7cf53.2.2.1 mJ9_floorDiv_7cf53.2.2.2 ∈ wA ∧ (mJ9_floorDiv_7cf53.1.cls ≠ "java/lang/invoke/MethodHandle" ∧ mJ9_floorDiv_7cf53.1.cls ≠ "java/lang/invoke/VarHandle" ∧ (parseMethodDescriptor mJ9_floorDiv_7cf53.1.desc).map (fun d => d.parameters.length) = some 2) ∧ mJ9_floorDiv_7cf53.2.2.1 ≤ 15 := ⟨wA_t 15 (by decide +kernel) rfl, wA_t 414 (by decide +kernel) rfl, ⟨by decide +kernel, by decide +kernel, by decide +kernel⟩, by decide⟩
abbrev mJ9_min_7cf53 : MB := (yJ9_min_7cf53, cJ9_min_7cf53, 2, some .int)
theorem mwJ9_min_7cf53 : Cond.initialized mJ9_min_7cf53.1.cls ∈ wA ∧ Cond.code mJ9_min_7cf53.1 mJ9_min_7cf53.2.1 mJ9_min_7cf53.2.2.1 mJ9_min_7cf53.2.2.2 ∈ wA ∧ (mJ9_min_7cf53.1.cls ≠ "java/lang/invoke/MethodHandle" ∧ mJ9_min_7cf53.1.cls ≠ "java/lang/invoke/VarHandle" ∧ (parseMethodDescriptor mJ9_min_7cf53.1.desc).map (fun d => d.parameters.length) = some 2) ∧ mJ9_min_7cf53.2.2.1 ≤ 15 := ⟨wA_t 15 (by decide +kernel) rfl, wA_t 417 (by decide +kernel) rfl, ⟨by decide +kernel, by decide +kernel, by decide +kernel⟩, by decide⟩
abbrev mJ9_max_7cf53 : MB := (yJ9_max_7cf53, cJ9_max_7cf53, 2, some .int)
theorem mwJ9_max_7cf53 : Cond.initialized mJ9_max_7cf53.1.cls ∈ wA ∧ Cond.code mJ9_max_7cf53.1 mJ9_max_7cf53.2.1 mJ9_max_7cf53.2.2.1 mJ9_max_7cf53.2.2.2 ∈ wA ∧ (mJ9_max_7cf53.1.cls ≠ "java/lang/invoke/MethodHandle" ∧ mJ9_max_7cf53.1.cls ≠ "java/lang/invoke/VarHandle" ∧ (parseMethodDescriptor mJ9_max_7cf53.1.desc).map (fun d => d.parameters.length) = some 2) ∧ mJ9_max_7cf53.2.2.1 ≤ 15 := ⟨wA_t 15 (by decide +kernel) rfl, wA_t 420 (by decide +kernel) rfl, ⟨by decide +kernel, by decide +kernel, by decide +kernel⟩, by decide⟩
abbrev mX4_reach : MB := (yX4_reach, cX4_reach, 3, some .int)
theorem mwX4_reach : Cond.initialized mX4_reach.1.cls ∈ wA ∧ Cond.code mX4_reach.1 mX4_reach.2.1 mX4_reach.2.2.1 mX4_reach.2.2.2 ∈ wA ∧ (mX4_reach.1.cls ≠ "java/lang/invoke/MethodHandle" ∧ mX4_reach.1.cls ≠ "java/lang/invoke/VarHandle" ∧ (parseMethodDescriptor mX4_reach.1.desc).map (fun d => d.parameters.length) = some 2) ∧ mX4_reach.2.2.1 ≤ 15 := ⟨wA_t 2 (by decide +kernel) rfl, wA_t 424 (by decide +kernel) rfl, ⟨by decide +kernel, by decide +kernel, by decide +kernel⟩, by decide⟩
abbrev mX4_blurBy : MB := (yX4_blurBy, cX4_blurBy, 4, some .int)
theorem mwX4_blurBy : Cond.initialized mX4_blurBy.1.cls ∈ wA ∧ Cond.code mX4_blurBy.1 mX4_blurBy.2.1 mX4_blurBy.2.2.1 mX4_blurBy.2.2.2 ∈ wA ∧ (mX4_blurBy.1.cls ≠ "java/lang/invoke/MethodHandle" ∧ mX4_blurBy.1.cls ≠ "java/lang/invoke/VarHandle" ∧ (parseMethodDescriptor mX4_blurBy.1.desc).map (fun d => d.parameters.length) = some 2) ∧ mX4_blurBy.2.2.1 ≤ 15 := ⟨wA_t 2 (by decide +kernel) rfl, wA_t 429 (by decide +kernel) rfl, ⟨by decide +kernel, by decide +kernel, by decide +kernel⟩, by decide⟩
abbrev mJ9_abs_0f7a4 : MB := (yJ9_abs_0f7a4, cJ9_abs_0f7a4, 1, some .int)
theorem mwJ9_abs_0f7a4 : Cond.initialized mJ9_abs_0f7a4.1.cls ∈ wA ∧ Cond.code mJ9_abs_0f7a4.1 mJ9_abs_0f7a4.2.1 mJ9_abs_0f7a4.2.2.1 mJ9_abs_0f7a4.2.2.2 ∈ wA ∧ (mJ9_abs_0f7a4.1.cls ≠ "java/lang/invoke/MethodHandle" ∧ mJ9_abs_0f7a4.1.cls ≠ "java/lang/invoke/VarHandle" ∧ (parseMethodDescriptor mJ9_abs_0f7a4.1.desc).map (fun d => d.parameters.length) = some 1) ∧ mJ9_abs_0f7a4.2.2.1 ≤ 15 := ⟨wA_t 15 (by decide +kernel) rfl, wA_t 432 (by decide +kernel) rfl, ⟨by decide +kernel, by decide +kernel, by decide +kernel⟩, by decide⟩
abbrev mX11_focused : MB := (yX11_focused, cX11_focused, 4, some .int)
theorem mwX11_focused : Cond.initialized mX11_focused.1.cls ∈ wA ∧ Cond.code mX11_focused.1 mX11_focused.2.1 mX11_focused.2.2.1 mX11_focused.2.2.2 ∈ wA ∧ (mX11_focused.1.cls ≠ "java/lang/invoke/MethodHandle" ∧ mX11_focused.1.cls ≠ "java/lang/invoke/VarHandle" ∧ (parseMethodDescriptor mX11_focused.1.desc).map (fun d => d.parameters.length) = some 2) ∧ mX11_focused.2.2.1 ≤ 15 := ⟨wA_t 1 (by decide +kernel) rfl, wA_t 436 (by decide +kernel) rfl, ⟨by decide +kernel, by decide +kernel, by decide +kernel⟩, by decide⟩
abbrev mX4_sharpestDepth : MB := (yX4_sharpestDepth, cX4_sharpestDepth, 6, some .int)
theorem mwX4_sharpestDepth : Cond.initialized mX4_sharpestDepth.1.cls ∈ wA ∧ Cond.code mX4_sharpestDepth.1 mX4_sharpestDepth.2.1 mX4_sharpestDepth.2.2.1 mX4_sharpestDepth.2.2.2 ∈ wA ∧ (mX4_sharpestDepth.1.cls ≠ "java/lang/invoke/MethodHandle" ∧ mX4_sharpestDepth.1.cls ≠ "java/lang/invoke/VarHandle" ∧ (parseMethodDescriptor mX4_sharpestDepth.1.desc).map (fun d => d.parameters.length) = some 1) ∧ mX4_sharpestDepth.2.2.1 ≤ 15 := ⟨wA_t 2 (by decide +kernel) rfl, wA_t 440 (by decide +kernel) rfl, ⟨by decide +kernel, by decide +kernel, by decide +kernel⟩, by decide⟩
abbrev mX4_blurAt : MB := (yX4_blurAt, cX4_blurAt, 3, some .int)
theorem mwX4_blurAt : Cond.initialized mX4_blurAt.1.cls ∈ wA ∧ Cond.code mX4_blurAt.1 mX4_blurAt.2.1 mX4_blurAt.2.2.1 mX4_blurAt.2.2.2 ∈ wA ∧ (mX4_blurAt.1.cls ≠ "java/lang/invoke/MethodHandle" ∧ mX4_blurAt.1.cls ≠ "java/lang/invoke/VarHandle" ∧ (parseMethodDescriptor mX4_blurAt.1.desc).map (fun d => d.parameters.length) = some 2) ∧ mX4_blurAt.2.2.1 ≤ 15 := ⟨wA_t 2 (by decide +kernel) rfl, wA_t 444 (by decide +kernel) rfl, ⟨by decide +kernel, by decide +kernel, by decide +kernel⟩, by decide⟩
abbrev mX4_columnAt : MB := (yX4_columnAt, cX4_columnAt, 2, some .int)
theorem mwX4_columnAt : Cond.initialized mX4_columnAt.1.cls ∈ wA ∧ Cond.code mX4_columnAt.1 mX4_columnAt.2.1 mX4_columnAt.2.2.1 mX4_columnAt.2.2.2 ∈ wA ∧ (mX4_columnAt.1.cls ≠ "java/lang/invoke/MethodHandle" ∧ mX4_columnAt.1.cls ≠ "java/lang/invoke/VarHandle" ∧ (parseMethodDescriptor mX4_columnAt.1.desc).map (fun d => d.parameters.length) = some 2) ∧ mX4_columnAt.2.2.1 ≤ 15 := ⟨wA_t 2 (by decide +kernel) rfl, wA_t 447 (by decide +kernel) rfl, ⟨by decide +kernel, by decide +kernel, by decide +kernel⟩, by decide⟩
abbrev mX11_bent : MB := (yX11_bent, cX11_bent, 3, some .int)
theorem mwX11_bent : Cond.initialized mX11_bent.1.cls ∈ wA ∧ Cond.code mX11_bent.1 mX11_bent.2.1 mX11_bent.2.2.1 mX11_bent.2.2.2 ∈ wA ∧ (mX11_bent.1.cls ≠ "java/lang/invoke/MethodHandle" ∧ mX11_bent.1.cls ≠ "java/lang/invoke/VarHandle" ∧ (parseMethodDescriptor mX11_bent.1.desc).map (fun d => d.parameters.length) = some 0) ∧ mX11_bent.2.2.1 ≤ 15 := ⟨wA_t 1 (by decide +kernel) rfl, wA_t 456 (by decide +kernel) rfl, ⟨by decide +kernel, by decide +kernel, by decide +kernel⟩, by decide⟩
abbrev mX4_clearBlurs : MB := (yX4_clearBlurs, cX4_clearBlurs, 2, none)
theorem mwX4_clearBlurs : Cond.initialized mX4_clearBlurs.1.cls ∈ wA ∧ Cond.code mX4_clearBlurs.1 mX4_clearBlurs.2.1 mX4_clearBlurs.2.2.1 mX4_clearBlurs.2.2.2 ∈ wA ∧ (mX4_clearBlurs.1.cls ≠ "java/lang/invoke/MethodHandle" ∧ mX4_clearBlurs.1.cls ≠ "java/lang/invoke/VarHandle" ∧ (parseMethodDescriptor mX4_clearBlurs.1.desc).map (fun d => d.parameters.length) = some 0) ∧ mX4_clearBlurs.2.2.1 ≤ 15 := ⟨wA_t 2 (by decide +kernel) rfl, wA_t 460 (by decide +kernel) rfl, ⟨by decide +kernel, by decide +kernel, by decide +kernel⟩, by decide⟩
abbrev mX4_addBlurs : MB := (yX4_addBlurs, cX4_addBlurs, 4, none)
theorem mwX4_addBlurs : Cond.initialized mX4_addBlurs.1.cls ∈ wA ∧ Cond.code mX4_addBlurs.1 mX4_addBlurs.2.1 mX4_addBlurs.2.2.1 mX4_addBlurs.2.2.2 ∈ wA ∧ (mX4_addBlurs.1.cls ≠ "java/lang/invoke/MethodHandle" ∧ mX4_addBlurs.1.cls ≠ "java/lang/invoke/VarHandle" ∧ (parseMethodDescriptor mX4_addBlurs.1.desc).map (fun d => d.parameters.length) = some 1) ∧ mX4_addBlurs.2.2.1 ≤ 15 := ⟨wA_t 2 (by decide +kernel) rfl, wA_t 465 (by decide +kernel) rfl, ⟨by decide +kernel, by decide +kernel, by decide +kernel⟩, by decide⟩
abbrev mX4_bestBend : MB := (yX4_bestBend, cX4_bestBend, 3, some .int)
theorem mwX4_bestBend : Cond.initialized mX4_bestBend.1.cls ∈ wA ∧ Cond.code mX4_bestBend.1 mX4_bestBend.2.1 mX4_bestBend.2.2.1 mX4_bestBend.2.2.2 ∈ wA ∧ (mX4_bestBend.1.cls ≠ "java/lang/invoke/MethodHandle" ∧ mX4_bestBend.1.cls ≠ "java/lang/invoke/VarHandle" ∧ (parseMethodDescriptor mX4_bestBend.1.desc).map (fun d => d.parameters.length) = some 0) ∧ mX4_bestBend.2.2.1 ≤ 15 := ⟨wA_t 2 (by decide +kernel) rfl, wA_t 469 (by decide +kernel) rfl, ⟨by decide +kernel, by decide +kernel, by decide +kernel⟩, by decide⟩
abbrev mX4_bendsMade : MB := (yX4_bendsMade, cX4_bendsMade, 3, some .int)
theorem mwX4_bendsMade : Cond.initialized mX4_bendsMade.1.cls ∈ wA ∧ Cond.code mX4_bendsMade.1 mX4_bendsMade.2.1 mX4_bendsMade.2.2.1 mX4_bendsMade.2.2.2 ∈ wA ∧ (mX4_bendsMade.1.cls ≠ "java/lang/invoke/MethodHandle" ∧ mX4_bendsMade.1.cls ≠ "java/lang/invoke/VarHandle" ∧ (parseMethodDescriptor mX4_bendsMade.1.desc).map (fun d => d.parameters.length) = some 0) ∧ mX4_bendsMade.2.2.1 ≤ 15 := ⟨wA_t 2 (by decide +kernel) rfl, wA_t 473 (by decide +kernel) rfl, ⟨by decide +kernel, by decide +kernel, by decide +kernel⟩, by decide⟩
abbrev mX11_mark : MB := (yX11_mark, cX11_mark, 6, some .int)
theorem mwX11_mark : Cond.initialized mX11_mark.1.cls ∈ wA ∧ Cond.code mX11_mark.1 mX11_mark.2.1 mX11_mark.2.2.1 mX11_mark.2.2.2 ∈ wA ∧ (mX11_mark.1.cls ≠ "java/lang/invoke/MethodHandle" ∧ mX11_mark.1.cls ≠ "java/lang/invoke/VarHandle" ∧ (parseMethodDescriptor mX11_mark.1.desc).map (fun d => d.parameters.length) = some 4) ∧ mX11_mark.2.2.1 ≤ 15 := ⟨wA_t 1 (by decide +kernel) rfl, wA_t 477 (by decide +kernel) rfl, ⟨by decide +kernel, by decide +kernel, by decide +kernel⟩, by decide⟩
abbrev mX11_isTrace : MB := (yX11_isTrace, cX11_isTrace, 1, some .boolean)
theorem mwX11_isTrace : Cond.initialized mX11_isTrace.1.cls ∈ wA ∧ Cond.code mX11_isTrace.1 mX11_isTrace.2.1 mX11_isTrace.2.2.1 mX11_isTrace.2.2.2 ∈ wA ∧ (mX11_isTrace.1.cls ≠ "java/lang/invoke/MethodHandle" ∧ mX11_isTrace.1.cls ≠ "java/lang/invoke/VarHandle" ∧ (parseMethodDescriptor mX11_isTrace.1.desc).map (fun d => d.parameters.length) = some 1) ∧ mX11_isTrace.2.2.1 ≤ 15 := ⟨wA_t 1 (by decide +kernel) rfl, wA_t 480 (by decide +kernel) rfl, ⟨by decide +kernel, by decide +kernel, by decide +kernel⟩, by decide⟩
abbrev mX11_isNumber : MB := (yX11_isNumber, cX11_isNumber, 1, some .boolean)
theorem mwX11_isNumber : Cond.initialized mX11_isNumber.1.cls ∈ wA ∧ Cond.code mX11_isNumber.1 mX11_isNumber.2.1 mX11_isNumber.2.2.1 mX11_isNumber.2.2.2 ∈ wA ∧ (mX11_isNumber.1.cls ≠ "java/lang/invoke/MethodHandle" ∧ mX11_isNumber.1.cls ≠ "java/lang/invoke/VarHandle" ∧ (parseMethodDescriptor mX11_isNumber.1.desc).map (fun d => d.parameters.length) = some 1) ∧ mX11_isNumber.2.2.1 ≤ 15 := ⟨wA_t 1 (by decide +kernel) rfl, wA_t 483 (by decide +kernel) rfl, ⟨by decide +kernel, by decide +kernel, by decide +kernel⟩, by decide⟩
abbrev mX10_put : MB := (yX10_put, cX10_put, 4, none)
theorem mwX10_put : Cond.initialized mX10_put.1.cls ∈ wA ∧ Cond.code mX10_put.1 mX10_put.2.1 mX10_put.2.2.1 mX10_put.2.2.2 ∈ wA ∧ (mX10_put.1.cls ≠ "java/lang/invoke/MethodHandle" ∧ mX10_put.1.cls ≠ "java/lang/invoke/VarHandle" ∧ (parseMethodDescriptor mX10_put.1.desc).map (fun d => d.parameters.length) = some 3) ∧ mX10_put.2.2.1 ≤ 15 := ⟨wA_t 12 (by decide +kernel) rfl, wA_t 487 (by decide +kernel) rfl, ⟨by decide +kernel, by decide +kernel, by decide +kernel⟩, by decide⟩
abbrev mX11_rub : MB := (yX11_rub, cX11_rub, 4, some .int)
theorem mwX11_rub : Cond.initialized mX11_rub.1.cls ∈ wA ∧ Cond.code mX11_rub.1 mX11_rub.2.1 mX11_rub.2.2.1 mX11_rub.2.2.2 ∈ wA ∧ (mX11_rub.1.cls ≠ "java/lang/invoke/MethodHandle" ∧ mX11_rub.1.cls ≠ "java/lang/invoke/VarHandle" ∧ (parseMethodDescriptor mX11_rub.1.desc).map (fun d => d.parameters.length) = some 2) ∧ mX11_rub.2.2.1 ≤ 15 := ⟨wA_t 1 (by decide +kernel) rfl, wA_t 491 (by decide +kernel) rfl, ⟨by decide +kernel, by decide +kernel, by decide +kernel⟩, by decide⟩
abbrev mX11_draw : MB := (yX11_draw, cX11_draw, 4, some .int)
theorem mwX11_draw : Cond.initialized mX11_draw.1.cls ∈ wA ∧ Cond.code mX11_draw.1 mX11_draw.2.1 mX11_draw.2.2.1 mX11_draw.2.2.2 ∈ wA ∧ (mX11_draw.1.cls ≠ "java/lang/invoke/MethodHandle" ∧ mX11_draw.1.cls ≠ "java/lang/invoke/VarHandle" ∧ (parseMethodDescriptor mX11_draw.1.desc).map (fun d => d.parameters.length) = some 1) ∧ mX11_draw.2.2.1 ≤ 15 := ⟨wA_t 1 (by decide +kernel) rfl, wA_t 495 (by decide +kernel) rfl, ⟨by decide +kernel, by decide +kernel, by decide +kernel⟩, by decide⟩
abbrev mX10_clear : MB := (yX10_clear, cX10_clear, 2, none)
theorem mwX10_clear : Cond.initialized mX10_clear.1.cls ∈ wA ∧ Cond.code mX10_clear.1 mX10_clear.2.1 mX10_clear.2.2.1 mX10_clear.2.2.2 ∈ wA ∧ (mX10_clear.1.cls ≠ "java/lang/invoke/MethodHandle" ∧ mX10_clear.1.cls ≠ "java/lang/invoke/VarHandle" ∧ (parseMethodDescriptor mX10_clear.1.desc).map (fun d => d.parameters.length) = some 0) ∧ mX10_clear.2.2.1 ≤ 15 := ⟨wA_t 12 (by decide +kernel) rfl, wA_t 499 (by decide +kernel) rfl, ⟨by decide +kernel, by decide +kernel, by decide +kernel⟩, by decide⟩
abbrev mX4_shows : MB := (yX4_shows, cX4_shows, 2, some .boolean)
theorem mwX4_shows : Cond.initialized mX4_shows.1.cls ∈ wA ∧ Cond.code mX4_shows.1 mX4_shows.2.1 mX4_shows.2.2.1 mX4_shows.2.2.2 ∈ wA ∧ (mX4_shows.1.cls ≠ "java/lang/invoke/MethodHandle" ∧ mX4_shows.1.cls ≠ "java/lang/invoke/VarHandle" ∧ (parseMethodDescriptor mX4_shows.1.desc).map (fun d => d.parameters.length) = some 1) ∧ mX4_shows.2.2.1 ≤ 15 := ⟨wA_t 2 (by decide +kernel) rfl, wA_t 503 (by decide +kernel) rfl, ⟨by decide +kernel, by decide +kernel, by decide +kernel⟩, by decide⟩
abbrev mX10_marksMade : MB := (yX10_marksMade, cX10_marksMade, 3, some .int)
theorem mwX10_marksMade : Cond.initialized mX10_marksMade.1.cls ∈ wA ∧ Cond.code mX10_marksMade.1 mX10_marksMade.2.1 mX10_marksMade.2.2.1 mX10_marksMade.2.2.2 ∈ wA ∧ (mX10_marksMade.1.cls ≠ "java/lang/invoke/MethodHandle" ∧ mX10_marksMade.1.cls ≠ "java/lang/invoke/VarHandle" ∧ (parseMethodDescriptor mX10_marksMade.1.desc).map (fun d => d.parameters.length) = some 0) ∧ mX10_marksMade.2.2.1 ≤ 15 := ⟨wA_t 12 (by decide +kernel) rfl, wA_t 508 (by decide +kernel) rfl, ⟨by decide +kernel, by decide +kernel, by decide +kernel⟩, by decide⟩
abbrev mX11_marked : MB := (yX11_marked, cX11_marked, 5, some .int)
theorem mwX11_marked : Cond.initialized mX11_marked.1.cls ∈ wA ∧ Cond.code mX11_marked.1 mX11_marked.2.1 mX11_marked.2.2.1 mX11_marked.2.2.2 ∈ wA ∧ (mX11_marked.1.cls ≠ "java/lang/invoke/MethodHandle" ∧ mX11_marked.1.cls ≠ "java/lang/invoke/VarHandle" ∧ (parseMethodDescriptor mX11_marked.1.desc).map (fun d => d.parameters.length) = some 3) ∧ mX11_marked.2.2.1 ≤ 15 := ⟨wA_t 1 (by decide +kernel) rfl, wA_t 512 (by decide +kernel) rfl, ⟨by decide +kernel, by decide +kernel, by decide +kernel⟩, by decide⟩
abbrev mX11_joined : MB := (yX11_joined, cX11_joined, 4, some .int)
theorem mwX11_joined : Cond.initialized mX11_joined.1.cls ∈ wA ∧ Cond.code mX11_joined.1 mX11_joined.2.1 mX11_joined.2.2.1 mX11_joined.2.2.2 ∈ wA ∧ (mX11_joined.1.cls ≠ "java/lang/invoke/MethodHandle" ∧ mX11_joined.1.cls ≠ "java/lang/invoke/VarHandle" ∧ (parseMethodDescriptor mX11_joined.1.desc).map (fun d => d.parameters.length) = some 3) ∧ mX11_joined.2.2.1 ≤ 15 := ⟨wA_t 1 (by decide +kernel) rfl, wA_t 517 (by decide +kernel) rfl, ⟨by decide +kernel, by decide +kernel, by decide +kernel⟩, by decide⟩
abbrev mX1_take : MB := (yX1_take, cX1_take, 4, none)
theorem mwX1_take : Cond.initialized mX1_take.1.cls ∈ wA ∧ Cond.code mX1_take.1 mX1_take.2.1 mX1_take.2.2.1 mX1_take.2.2.2 ∈ wA ∧ (mX1_take.1.cls ≠ "java/lang/invoke/MethodHandle" ∧ mX1_take.1.cls ≠ "java/lang/invoke/VarHandle" ∧ (parseMethodDescriptor mX1_take.1.desc).map (fun d => d.parameters.length) = some 2) ∧ mX1_take.2.2.1 ≤ 15 := ⟨wA_t 4 (by decide +kernel) rfl, wA_t 521 (by decide +kernel) rfl, ⟨by decide +kernel, by decide +kernel, by decide +kernel⟩, by decide⟩
abbrev mX5_insert : MB := (yX5_insert, cX5_insert, 3, none)
theorem mwX5_insert : Cond.initialized mX5_insert.1.cls ∈ wA ∧ Cond.code mX5_insert.1 mX5_insert.2.1 mX5_insert.2.2.1 mX5_insert.2.2.2 ∈ wA ∧ (mX5_insert.1.cls ≠ "java/lang/invoke/MethodHandle" ∧ mX5_insert.1.cls ≠ "java/lang/invoke/VarHandle" ∧ (parseMethodDescriptor mX5_insert.1.desc).map (fun d => d.parameters.length) = some 1) ∧ mX5_insert.2.2.1 ≤ 15 := ⟨wA_t 5 (by decide +kernel) rfl, wA_t 525 (by decide +kernel) rfl, ⟨by decide +kernel, by decide +kernel, by decide +kernel⟩, by decide⟩
abbrev mX1_common : MB := (yX1_common, cX1_common, 1, some .int)
theorem mwX1_common : Cond.initialized mX1_common.1.cls ∈ wA ∧ Cond.code mX1_common.1 mX1_common.2.1 mX1_common.2.2.1 mX1_common.2.2.2 ∈ wA ∧ (mX1_common.1.cls ≠ "java/lang/invoke/MethodHandle" ∧ mX1_common.1.cls ≠ "java/lang/invoke/VarHandle" ∧ (parseMethodDescriptor mX1_common.1.desc).map (fun d => d.parameters.length) = some 0) ∧ mX1_common.2.2.1 ≤ 15 := ⟨wA_t 4 (by decide +kernel) rfl, wA_t 529 (by decide +kernel) rfl, ⟨by decide +kernel, by decide +kernel, by decide +kernel⟩, by decide⟩
abbrev mX1_misfit : MB := (yX1_misfit, cX1_misfit, 1, some .int)
theorem mwX1_misfit : Cond.initialized mX1_misfit.1.cls ∈ wA ∧ Cond.code mX1_misfit.1 mX1_misfit.2.1 mX1_misfit.2.2.1 mX1_misfit.2.2.2 ∈ wA ∧ (mX1_misfit.1.cls ≠ "java/lang/invoke/MethodHandle" ∧ mX1_misfit.1.cls ≠ "java/lang/invoke/VarHandle" ∧ (parseMethodDescriptor mX1_misfit.1.desc).map (fun d => d.parameters.length) = some 0) ∧ mX1_misfit.2.2.1 ≤ 15 := ⟨wA_t 4 (by decide +kernel) rfl, wA_t 533 (by decide +kernel) rfl, ⟨by decide +kernel, by decide +kernel, by decide +kernel⟩, by decide⟩
abbrev mX5_misfit : MB := (yX5_misfit, cX5_misfit, 3, some .int)
theorem mwX5_misfit : Cond.initialized mX5_misfit.1.cls ∈ wA ∧ Cond.code mX5_misfit.1 mX5_misfit.2.1 mX5_misfit.2.2.1 mX5_misfit.2.2.2 ∈ wA ∧ (mX5_misfit.1.cls ≠ "java/lang/invoke/MethodHandle" ∧ mX5_misfit.1.cls ≠ "java/lang/invoke/VarHandle" ∧ (parseMethodDescriptor mX5_misfit.1.desc).map (fun d => d.parameters.length) = some 0) ∧ mX5_misfit.2.2.1 ≤ 15 := ⟨wA_t 5 (by decide +kernel) rfl, wA_t 537 (by decide +kernel) rfl, ⟨by decide +kernel, by decide +kernel, by decide +kernel⟩, by decide⟩
abbrev mX5_middle : MB := (yX5_middle, cX5_middle, 1, some .int)
theorem mwX5_middle : Cond.initialized mX5_middle.1.cls ∈ wA ∧ Cond.code mX5_middle.1 mX5_middle.2.1 mX5_middle.2.2.1 mX5_middle.2.2.2 ∈ wA ∧ (mX5_middle.1.cls ≠ "java/lang/invoke/MethodHandle" ∧ mX5_middle.1.cls ≠ "java/lang/invoke/VarHandle" ∧ (parseMethodDescriptor mX5_middle.1.desc).map (fun d => d.parameters.length) = some 0) ∧ mX5_middle.2.2.1 ≤ 15 := ⟨wA_t 5 (by decide +kernel) rfl, wA_t 541 (by decide +kernel) rfl, ⟨by decide +kernel, by decide +kernel, by decide +kernel⟩, by decide⟩
abbrev mX1_acrossShift : MB := (yX1_acrossShift, cX1_acrossShift, 1, some .int)
theorem mwX1_acrossShift : Cond.initialized mX1_acrossShift.1.cls ∈ wA ∧ Cond.code mX1_acrossShift.1 mX1_acrossShift.2.1 mX1_acrossShift.2.2.1 mX1_acrossShift.2.2.2 ∈ wA ∧ (mX1_acrossShift.1.cls ≠ "java/lang/invoke/MethodHandle" ∧ mX1_acrossShift.1.cls ≠ "java/lang/invoke/VarHandle" ∧ (parseMethodDescriptor mX1_acrossShift.1.desc).map (fun d => d.parameters.length) = some 0) ∧ mX1_acrossShift.2.2.1 ≤ 15 := ⟨wA_t 4 (by decide +kernel) rfl, wA_t 546 (by decide +kernel) rfl, ⟨by decide +kernel, by decide +kernel, by decide +kernel⟩, by decide⟩
abbrev mX1_upShift : MB := (yX1_upShift, cX1_upShift, 1, some .int)
theorem mwX1_upShift : Cond.initialized mX1_upShift.1.cls ∈ wA ∧ Cond.code mX1_upShift.1 mX1_upShift.2.1 mX1_upShift.2.2.1 mX1_upShift.2.2.2 ∈ wA ∧ (mX1_upShift.1.cls ≠ "java/lang/invoke/MethodHandle" ∧ mX1_upShift.1.cls ≠ "java/lang/invoke/VarHandle" ∧ (parseMethodDescriptor mX1_upShift.1.desc).map (fun d => d.parameters.length) = some 0) ∧ mX1_upShift.2.2.1 ≤ 15 := ⟨wA_t 4 (by decide +kernel) rfl, wA_t 551 (by decide +kernel) rfl, ⟨by decide +kernel, by decide +kernel, by decide +kernel⟩, by decide⟩
abbrev mX11_round : MB := (yX11_round, cX11_round, 3, some .int)
theorem mwX11_round : Cond.initialized mX11_round.1.cls ∈ wA ∧ Cond.code mX11_round.1 mX11_round.2.1 mX11_round.2.2.1 mX11_round.2.2.2 ∈ wA ∧ (mX11_round.1.cls ≠ "java/lang/invoke/MethodHandle" ∧ mX11_round.1.cls ≠ "java/lang/invoke/VarHandle" ∧ (parseMethodDescriptor mX11_round.1.desc).map (fun d => d.parameters.length) = some 2) ∧ mX11_round.2.2.1 ≤ 15 := ⟨wA_t 1 (by decide +kernel) rfl, wA_t 555 (by decide +kernel) rfl, ⟨by decide +kernel, by decide +kernel, by decide +kernel⟩, by decide⟩
abbrev mX3_take : MB := (yX3_take, cX3_take, 5, some .boolean)
theorem mwX3_take : Cond.initialized mX3_take.1.cls ∈ wA ∧ Cond.code mX3_take.1 mX3_take.2.1 mX3_take.2.2.1 mX3_take.2.2.2 ∈ wA ∧ (mX3_take.1.cls ≠ "java/lang/invoke/MethodHandle" ∧ mX3_take.1.cls ≠ "java/lang/invoke/VarHandle" ∧ (parseMethodDescriptor mX3_take.1.desc).map (fun d => d.parameters.length) = some 3) ∧ mX3_take.2.2.1 ≤ 15 := ⟨wA_t 6 (by decide +kernel) rfl, wA_t 559 (by decide +kernel) rfl, ⟨by decide +kernel, by decide +kernel, by decide +kernel⟩, by decide⟩
abbrev mX11_around : MB := (yX11_around, cX11_around, 8, some .int)
theorem mwX11_around : Cond.initialized mX11_around.1.cls ∈ wA ∧ Cond.code mX11_around.1 mX11_around.2.1 mX11_around.2.2.1 mX11_around.2.2.2 ∈ wA ∧ (mX11_around.1.cls ≠ "java/lang/invoke/MethodHandle" ∧ mX11_around.1.cls ≠ "java/lang/invoke/VarHandle" ∧ (parseMethodDescriptor mX11_around.1.desc).map (fun d => d.parameters.length) = some 3) ∧ mX11_around.2.2.1 ≤ 15 := ⟨wA_t 1 (by decide +kernel) rfl, wA_t 568 (by decide +kernel) rfl, ⟨by decide +kernel, by decide +kernel, by decide +kernel⟩, by decide⟩
abbrev mX11_closed : MB := (yX11_closed, cX11_closed, 3, some .int)
theorem mwX11_closed : Cond.initialized mX11_closed.1.cls ∈ wA ∧ Cond.code mX11_closed.1 mX11_closed.2.1 mX11_closed.2.2.1 mX11_closed.2.2.2 ∈ wA ∧ (mX11_closed.1.cls ≠ "java/lang/invoke/MethodHandle" ∧ mX11_closed.1.cls ≠ "java/lang/invoke/VarHandle" ∧ (parseMethodDescriptor mX11_closed.1.desc).map (fun d => d.parameters.length) = some 3) ∧ mX11_closed.2.2.1 ≤ 15 := ⟨wA_t 1 (by decide +kernel) rfl, wA_t 571 (by decide +kernel) rfl, ⟨by decide +kernel, by decide +kernel, by decide +kernel⟩, by decide⟩
abbrev mX11_stand : MB := (yX11_stand, cX11_stand, 6, some .int)
theorem mwX11_stand : Cond.initialized mX11_stand.1.cls ∈ wA ∧ Cond.code mX11_stand.1 mX11_stand.2.1 mX11_stand.2.2.1 mX11_stand.2.2.2 ∈ wA ∧ (mX11_stand.1.cls ≠ "java/lang/invoke/MethodHandle" ∧ mX11_stand.1.cls ≠ "java/lang/invoke/VarHandle" ∧ (parseMethodDescriptor mX11_stand.1.desc).map (fun d => d.parameters.length) = some 5) ∧ mX11_stand.2.2.1 ≤ 15 := ⟨wA_t 1 (by decide +kernel) rfl, wA_t 576 (by decide +kernel) rfl, ⟨by decide +kernel, by decide +kernel, by decide +kernel⟩, by decide⟩
abbrev mX11_isStand : MB := (yX11_isStand, cX11_isStand, 4, some .boolean)
theorem mwX11_isStand : Cond.initialized mX11_isStand.1.cls ∈ wA ∧ Cond.code mX11_isStand.1 mX11_isStand.2.1 mX11_isStand.2.2.1 mX11_isStand.2.2.2 ∈ wA ∧ (mX11_isStand.1.cls ≠ "java/lang/invoke/MethodHandle" ∧ mX11_isStand.1.cls ≠ "java/lang/invoke/VarHandle" ∧ (parseMethodDescriptor mX11_isStand.1.desc).map (fun d => d.parameters.length) = some 4) ∧ mX11_isStand.2.2.1 ≤ 15 := ⟨wA_t 1 (by decide +kernel) rfl, wA_t 579 (by decide +kernel) rfl, ⟨by decide +kernel, by decide +kernel, by decide +kernel⟩, by decide⟩
abbrev mX8_put : MB := (yX8_put, cX8_put, 5, none)
theorem mwX8_put : Cond.initialized mX8_put.1.cls ∈ wA ∧ Cond.code mX8_put.1 mX8_put.2.1 mX8_put.2.2.1 mX8_put.2.2.2 ∈ wA ∧ (mX8_put.1.cls ≠ "java/lang/invoke/MethodHandle" ∧ mX8_put.1.cls ≠ "java/lang/invoke/VarHandle" ∧ (parseMethodDescriptor mX8_put.1.desc).map (fun d => d.parameters.length) = some 4) ∧ mX8_put.2.2.1 ≤ 15 := ⟨wA_t 8 (by decide +kernel) rfl, wA_t 583 (by decide +kernel) rfl, ⟨by decide +kernel, by decide +kernel, by decide +kernel⟩, by decide⟩
abbrev mX11_far : MB := (yX11_far, cX11_far, 4, some .long)
theorem mwX11_far : Cond.initialized mX11_far.1.cls ∈ wA ∧ Cond.code mX11_far.1 mX11_far.2.1 mX11_far.2.2.1 mX11_far.2.2.2 ∈ wA ∧ (mX11_far.1.cls ≠ "java/lang/invoke/MethodHandle" ∧ mX11_far.1.cls ≠ "java/lang/invoke/VarHandle" ∧ (parseMethodDescriptor mX11_far.1.desc).map (fun d => d.parameters.length) = some 3) ∧ mX11_far.2.2.1 ≤ 15 := ⟨wA_t 1 (by decide +kernel) rfl, wA_t 587 (by decide +kernel) rfl, ⟨by decide +kernel, by decide +kernel, by decide +kernel⟩, by decide⟩
abbrev mX7_take : MB := (yX7_take, cX7_take, 7, some .boolean)
theorem mwX7_take : Cond.initialized mX7_take.1.cls ∈ wA ∧ Cond.code mX7_take.1 mX7_take.2.1 mX7_take.2.2.1 mX7_take.2.2.2 ∈ wA ∧ (mX7_take.1.cls ≠ "java/lang/invoke/MethodHandle" ∧ mX7_take.1.cls ≠ "java/lang/invoke/VarHandle" ∧ (parseMethodDescriptor mX7_take.1.desc).map (fun d => d.parameters.length) = some 4) ∧ mX7_take.2.2.1 ≤ 15 := ⟨wA_t 7 (by decide +kernel) rfl, wA_t 592 (by decide +kernel) rfl, ⟨by decide +kernel, by decide +kernel, by decide +kernel⟩, by decide⟩
abbrev mX11_high : MB := (yX11_high, cX11_high, 4, some .long)
theorem mwX11_high : Cond.initialized mX11_high.1.cls ∈ wA ∧ Cond.code mX11_high.1 mX11_high.2.1 mX11_high.2.2.1 mX11_high.2.2.2 ∈ wA ∧ (mX11_high.1.cls ≠ "java/lang/invoke/MethodHandle" ∧ mX11_high.1.cls ≠ "java/lang/invoke/VarHandle" ∧ (parseMethodDescriptor mX11_high.1.desc).map (fun d => d.parameters.length) = some 3) ∧ mX11_high.2.2.1 ≤ 15 := ⟨wA_t 1 (by decide +kernel) rfl, wA_t 598 (by decide +kernel) rfl, ⟨by decide +kernel, by decide +kernel, by decide +kernel⟩, by decide⟩
abbrev mX7_highOf : MB := (yX7_highOf, cX7_highOf, 4, some .long)
theorem mwX7_highOf : Cond.initialized mX7_highOf.1.cls ∈ wA ∧ Cond.code mX7_highOf.1 mX7_highOf.2.1 mX7_highOf.2.2.1 mX7_highOf.2.2.2 ∈ wA ∧ (mX7_highOf.1.cls ≠ "java/lang/invoke/MethodHandle" ∧ mX7_highOf.1.cls ≠ "java/lang/invoke/VarHandle" ∧ (parseMethodDescriptor mX7_highOf.1.desc).map (fun d => d.parameters.length) = some 2) ∧ mX7_highOf.2.2.1 ≤ 15 := ⟨wA_t 7 (by decide +kernel) rfl, wA_t 602 (by decide +kernel) rfl, ⟨by decide +kernel, by decide +kernel, by decide +kernel⟩, by decide⟩
abbrev mX11_by_ : MB := (yX11_by_, cX11_by_, 4, some .long)
theorem mwX11_by_ : Cond.initialized mX11_by_.1.cls ∈ wA ∧ Cond.code mX11_by_.1 mX11_by_.2.1 mX11_by_.2.2.1 mX11_by_.2.2.2 ∈ wA ∧ (mX11_by_.1.cls ≠ "java/lang/invoke/MethodHandle" ∧ mX11_by_.1.cls ≠ "java/lang/invoke/VarHandle" ∧ (parseMethodDescriptor mX11_by_.1.desc).map (fun d => d.parameters.length) = some 2) ∧ mX11_by_.2.2.1 ≤ 15 := ⟨wA_t 1 (by decide +kernel) rfl, wA_t 605 (by decide +kernel) rfl, ⟨by decide +kernel, by decide +kernel, by decide +kernel⟩, by decide⟩
abbrev mX11_span : MB := (yX11_span, cX11_span, 13, some .long)
theorem mwX11_span : Cond.initialized mX11_span.1.cls ∈ wA ∧ Cond.code mX11_span.1 mX11_span.2.1 mX11_span.2.2.1 mX11_span.2.2.2 ∈ wA ∧ (mX11_span.1.cls ≠ "java/lang/invoke/MethodHandle" ∧ mX11_span.1.cls ≠ "java/lang/invoke/VarHandle" ∧ (parseMethodDescriptor mX11_span.1.desc).map (fun d => d.parameters.length) = some 4) ∧ mX11_span.2.2.1 ≤ 15 := ⟨wA_t 1 (by decide +kernel) rfl, wA_t 609 (by decide +kernel) rfl, ⟨by decide +kernel, by decide +kernel, by decide +kernel⟩, by decide⟩
abbrev mJ9_min_f86c9 : MB := (yJ9_min_f86c9, cJ9_min_f86c9, 4, some .long)
theorem mwJ9_min_f86c9 : Cond.initialized mJ9_min_f86c9.1.cls ∈ wA ∧ Cond.code mJ9_min_f86c9.1 mJ9_min_f86c9.2.1 mJ9_min_f86c9.2.2.1 mJ9_min_f86c9.2.2.2 ∈ wA ∧ (mJ9_min_f86c9.1.cls ≠ "java/lang/invoke/MethodHandle" ∧ mJ9_min_f86c9.1.cls ≠ "java/lang/invoke/VarHandle" ∧ (parseMethodDescriptor mJ9_min_f86c9.1.desc).map (fun d => d.parameters.length) = some 2) ∧ mJ9_min_f86c9.2.2.1 ≤ 15 := ⟨wA_t 15 (by decide +kernel) rfl, wA_t 613 (by decide +kernel) rfl, ⟨by decide +kernel, by decide +kernel, by decide +kernel⟩, by decide⟩
abbrev mJ9_max_f86c9 : MB := (yJ9_max_f86c9, cJ9_max_f86c9, 4, some .long)
theorem mwJ9_max_f86c9 : Cond.initialized mJ9_max_f86c9.1.cls ∈ wA ∧ Cond.code mJ9_max_f86c9.1 mJ9_max_f86c9.2.1 mJ9_max_f86c9.2.2.1 mJ9_max_f86c9.2.2.2 ∈ wA ∧ (mJ9_max_f86c9.1.cls ≠ "java/lang/invoke/MethodHandle" ∧ mJ9_max_f86c9.1.cls ≠ "java/lang/invoke/VarHandle" ∧ (parseMethodDescriptor mJ9_max_f86c9.1.desc).map (fun d => d.parameters.length) = some 2) ∧ mJ9_max_f86c9.2.2.1 ≤ 15 := ⟨wA_t 15 (by decide +kernel) rfl, wA_t 616 (by decide +kernel) rfl, ⟨by decide +kernel, by decide +kernel, by decide +kernel⟩, by decide⟩
abbrev mX11_studio : MB := (yX11_studio, cX11_studio, 9, some .int)
theorem mwX11_studio : Cond.initialized mX11_studio.1.cls ∈ wA ∧ Cond.code mX11_studio.1 mX11_studio.2.1 mX11_studio.2.2.1 mX11_studio.2.2.2 ∈ wA ∧ (mX11_studio.1.cls ≠ "java/lang/invoke/MethodHandle" ∧ mX11_studio.1.cls ≠ "java/lang/invoke/VarHandle" ∧ (parseMethodDescriptor mX11_studio.1.desc).map (fun d => d.parameters.length) = some 7) ∧ mX11_studio.2.2.1 ≤ 15 := ⟨wA_t 1 (by decide +kernel) rfl, wA_t 620 (by decide +kernel) rfl, ⟨by decide +kernel, by decide +kernel, by decide +kernel⟩, by decide⟩
abbrev mX11_areStudiosTold : MB := (yX11_areStudiosTold, cX11_areStudiosTold, 4, some .boolean)
theorem mwX11_areStudiosTold : Cond.initialized mX11_areStudiosTold.1.cls ∈ wA ∧ Cond.code mX11_areStudiosTold.1 mX11_areStudiosTold.2.1 mX11_areStudiosTold.2.2.1 mX11_areStudiosTold.2.2.2 ∈ wA ∧ (mX11_areStudiosTold.1.cls ≠ "java/lang/invoke/MethodHandle" ∧ mX11_areStudiosTold.1.cls ≠ "java/lang/invoke/VarHandle" ∧ (parseMethodDescriptor mX11_areStudiosTold.1.desc).map (fun d => d.parameters.length) = some 4) ∧ mX11_areStudiosTold.2.2.1 ≤ 15 := ⟨wA_t 1 (by decide +kernel) rfl, wA_t 623 (by decide +kernel) rfl, ⟨by decide +kernel, by decide +kernel, by decide +kernel⟩, by decide⟩
abbrev mX11_studiosRefusal : MB := (yX11_studiosRefusal, cX11_studiosRefusal, 4, some .int)
theorem mwX11_studiosRefusal : Cond.initialized mX11_studiosRefusal.1.cls ∈ wA ∧ Cond.code mX11_studiosRefusal.1 mX11_studiosRefusal.2.1 mX11_studiosRefusal.2.2.1 mX11_studiosRefusal.2.2.2 ∈ wA ∧ (mX11_studiosRefusal.1.cls ≠ "java/lang/invoke/MethodHandle" ∧ mX11_studiosRefusal.1.cls ≠ "java/lang/invoke/VarHandle" ∧ (parseMethodDescriptor mX11_studiosRefusal.1.desc).map (fun d => d.parameters.length) = some 3) ∧ mX11_studiosRefusal.2.2.1 ≤ 15 := ⟨wA_t 1 (by decide +kernel) rfl, wA_t 627 (by decide +kernel) rfl, ⟨by decide +kernel, by decide +kernel, by decide +kernel⟩, by decide⟩
abbrev mX11_areStudios : MB := (yX11_areStudios, cX11_areStudios, 5, some .boolean)
theorem mwX11_areStudios : Cond.initialized mX11_areStudios.1.cls ∈ wA ∧ Cond.code mX11_areStudios.1 mX11_areStudios.2.1 mX11_areStudios.2.2.1 mX11_areStudios.2.2.2 ∈ wA ∧ (mX11_areStudios.1.cls ≠ "java/lang/invoke/MethodHandle" ∧ mX11_areStudios.1.cls ≠ "java/lang/invoke/VarHandle" ∧ (parseMethodDescriptor mX11_areStudios.1.desc).map (fun d => d.parameters.length) = some 3) ∧ mX11_areStudios.2.2.1 ≤ 15 := ⟨wA_t 1 (by decide +kernel) rfl, wA_t 631 (by decide +kernel) rfl, ⟨by decide +kernel, by decide +kernel, by decide +kernel⟩, by decide⟩
abbrev mX11_readStudio : MB := (yX11_readStudio, cX11_readStudio, 6, none)
theorem mwX11_readStudio : Cond.initialized mX11_readStudio.1.cls ∈ wA ∧ Cond.code mX11_readStudio.1 mX11_readStudio.2.1 mX11_readStudio.2.2.1 mX11_readStudio.2.2.2 ∈ wA ∧ (mX11_readStudio.1.cls ≠ "java/lang/invoke/MethodHandle" ∧ mX11_readStudio.1.cls ≠ "java/lang/invoke/VarHandle" ∧ (parseMethodDescriptor mX11_readStudio.1.desc).map (fun d => d.parameters.length) = some 3) ∧ mX11_readStudio.2.2.1 ≤ 15 := ⟨wA_t 1 (by decide +kernel) rfl, wA_t 635 (by decide +kernel) rfl, ⟨by decide +kernel, by decide +kernel, by decide +kernel⟩, by decide⟩
abbrev mX11_painterMisfit : MB := (yX11_painterMisfit, cX11_painterMisfit, 4, some .int)
theorem mwX11_painterMisfit : Cond.initialized mX11_painterMisfit.1.cls ∈ wA ∧ Cond.code mX11_painterMisfit.1 mX11_painterMisfit.2.1 mX11_painterMisfit.2.2.1 mX11_painterMisfit.2.2.2 ∈ wA ∧ (mX11_painterMisfit.1.cls ≠ "java/lang/invoke/MethodHandle" ∧ mX11_painterMisfit.1.cls ≠ "java/lang/invoke/VarHandle" ∧ (parseMethodDescriptor mX11_painterMisfit.1.desc).map (fun d => d.parameters.length) = some 1) ∧ mX11_painterMisfit.2.2.1 ≤ 15 := ⟨wA_t 1 (by decide +kernel) rfl, wA_t 639 (by decide +kernel) rfl, ⟨by decide +kernel, by decide +kernel, by decide +kernel⟩, by decide⟩
abbrev mX8_sees : MB := (yX8_sees, cX8_sees, 2, some .boolean)
theorem mwX8_sees : Cond.initialized mX8_sees.1.cls ∈ wA ∧ Cond.code mX8_sees.1 mX8_sees.2.1 mX8_sees.2.2.1 mX8_sees.2.2.2 ∈ wA ∧ (mX8_sees.1.cls ≠ "java/lang/invoke/MethodHandle" ∧ mX8_sees.1.cls ≠ "java/lang/invoke/VarHandle" ∧ (parseMethodDescriptor mX8_sees.1.desc).map (fun d => d.parameters.length) = some 1) ∧ mX8_sees.2.2.1 ≤ 15 := ⟨wA_t 8 (by decide +kernel) rfl, wA_t 643 (by decide +kernel) rfl, ⟨by decide +kernel, by decide +kernel, by decide +kernel⟩, by decide⟩
abbrev mX11_painterApart : MB := (yX11_painterApart, cX11_painterApart, 5, some .int)
theorem mwX11_painterApart : Cond.initialized mX11_painterApart.1.cls ∈ wA ∧ Cond.code mX11_painterApart.1 mX11_painterApart.2.1 mX11_painterApart.2.2.1 mX11_painterApart.2.2.2 ∈ wA ∧ (mX11_painterApart.1.cls ≠ "java/lang/invoke/MethodHandle" ∧ mX11_painterApart.1.cls ≠ "java/lang/invoke/VarHandle" ∧ (parseMethodDescriptor mX11_painterApart.1.desc).map (fun d => d.parameters.length) = some 2) ∧ mX11_painterApart.2.2.1 ≤ 15 := ⟨wA_t 1 (by decide +kernel) rfl, wA_t 647 (by decide +kernel) rfl, ⟨by decide +kernel, by decide +kernel, by decide +kernel⟩, by decide⟩
abbrev mX8_across : MB := (yX8_across, cX8_across, 2, some .int)
theorem mwX8_across : Cond.initialized mX8_across.1.cls ∈ wA ∧ Cond.code mX8_across.1 mX8_across.2.1 mX8_across.2.2.1 mX8_across.2.2.2 ∈ wA ∧ (mX8_across.1.cls ≠ "java/lang/invoke/MethodHandle" ∧ mX8_across.1.cls ≠ "java/lang/invoke/VarHandle" ∧ (parseMethodDescriptor mX8_across.1.desc).map (fun d => d.parameters.length) = some 1) ∧ mX8_across.2.2.1 ≤ 15 := ⟨wA_t 8 (by decide +kernel) rfl, wA_t 651 (by decide +kernel) rfl, ⟨by decide +kernel, by decide +kernel, by decide +kernel⟩, by decide⟩
abbrev mX8_up : MB := (yX8_up, cX8_up, 2, some .int)
theorem mwX8_up : Cond.initialized mX8_up.1.cls ∈ wA ∧ Cond.code mX8_up.1 mX8_up.2.1 mX8_up.2.2.1 mX8_up.2.2.2 ∈ wA ∧ (mX8_up.1.cls ≠ "java/lang/invoke/MethodHandle" ∧ mX8_up.1.cls ≠ "java/lang/invoke/VarHandle" ∧ (parseMethodDescriptor mX8_up.1.desc).map (fun d => d.parameters.length) = some 1) ∧ mX8_up.2.2.1 ≤ 15 := ⟨wA_t 8 (by decide +kernel) rfl, wA_t 657 (by decide +kernel) rfl, ⟨by decide +kernel, by decide +kernel, by decide +kernel⟩, by decide⟩
abbrev mX11_hasPainterMade : MB := (yX11_hasPainterMade, cX11_hasPainterMade, 4, some .boolean)
theorem mwX11_hasPainterMade : Cond.initialized mX11_hasPainterMade.1.cls ∈ wA ∧ Cond.code mX11_hasPainterMade.1 mX11_hasPainterMade.2.1 mX11_hasPainterMade.2.2.1 mX11_hasPainterMade.2.2.2 ∈ wA ∧ (mX11_hasPainterMade.1.cls ≠ "java/lang/invoke/MethodHandle" ∧ mX11_hasPainterMade.1.cls ≠ "java/lang/invoke/VarHandle" ∧ (parseMethodDescriptor mX11_hasPainterMade.1.desc).map (fun d => d.parameters.length) = some 2) ∧ mX11_hasPainterMade.2.2.1 ≤ 15 := ⟨wA_t 1 (by decide +kernel) rfl, wA_t 662 (by decide +kernel) rfl, ⟨by decide +kernel, by decide +kernel, by decide +kernel⟩, by decide⟩
abbrev mX11_isPainterNear : MB := (yX11_isPainterNear, cX11_isPainterNear, 4, some .boolean)
theorem mwX11_isPainterNear : Cond.initialized mX11_isPainterNear.1.cls ∈ wA ∧ Cond.code mX11_isPainterNear.1 mX11_isPainterNear.2.1 mX11_isPainterNear.2.2.1 mX11_isPainterNear.2.2.2 ∈ wA ∧ (mX11_isPainterNear.1.cls ≠ "java/lang/invoke/MethodHandle" ∧ mX11_isPainterNear.1.cls ≠ "java/lang/invoke/VarHandle" ∧ (parseMethodDescriptor mX11_isPainterNear.1.desc).map (fun d => d.parameters.length) = some 3) ∧ mX11_isPainterNear.2.2.1 ≤ 15 := ⟨wA_t 1 (by decide +kernel) rfl, wA_t 666 (by decide +kernel) rfl, ⟨by decide +kernel, by decide +kernel, by decide +kernel⟩, by decide⟩
abbrev mX11_studios : MB := (yX11_studios, cX11_studios, 8, some .int)
theorem mwX11_studios : Cond.initialized mX11_studios.1.cls ∈ wA ∧ Cond.code mX11_studios.1 mX11_studios.2.1 mX11_studios.2.2.1 mX11_studios.2.2.2 ∈ wA ∧ (mX11_studios.1.cls ≠ "java/lang/invoke/MethodHandle" ∧ mX11_studios.1.cls ≠ "java/lang/invoke/VarHandle" ∧ (parseMethodDescriptor mX11_studios.1.desc).map (fun d => d.parameters.length) = some 6) ∧ mX11_studios.2.2.1 ≤ 15 := ⟨wA_t 1 (by decide +kernel) rfl, wA_t 670 (by decide +kernel) rfl, ⟨by decide +kernel, by decide +kernel, by decide +kernel⟩, by decide⟩
abbrev mX11_bestStudio : MB := (yX11_bestStudio, cX11_bestStudio, 9, some .int)
theorem mwX11_bestStudio : Cond.initialized mX11_bestStudio.1.cls ∈ wA ∧ Cond.code mX11_bestStudio.1 mX11_bestStudio.2.1 mX11_bestStudio.2.2.1 mX11_bestStudio.2.2.2 ∈ wA ∧ (mX11_bestStudio.1.cls ≠ "java/lang/invoke/MethodHandle" ∧ mX11_bestStudio.1.cls ≠ "java/lang/invoke/VarHandle" ∧ (parseMethodDescriptor mX11_bestStudio.1.desc).map (fun d => d.parameters.length) = some 4) ∧ mX11_bestStudio.2.2.1 ≤ 15 := ⟨wA_t 1 (by decide +kernel) rfl, wA_t 674 (by decide +kernel) rfl, ⟨by decide +kernel, by decide +kernel, by decide +kernel⟩, by decide⟩
abbrev mX11_studiosThatMade : MB := (yX11_studiosThatMade, cX11_studiosThatMade, 8, some .int)
theorem mwX11_studiosThatMade : Cond.initialized mX11_studiosThatMade.1.cls ∈ wA ∧ Cond.code mX11_studiosThatMade.1 mX11_studiosThatMade.2.1 mX11_studiosThatMade.2.2.1 mX11_studiosThatMade.2.2.2 ∈ wA ∧ (mX11_studiosThatMade.1.cls ≠ "java/lang/invoke/MethodHandle" ∧ mX11_studiosThatMade.1.cls ≠ "java/lang/invoke/VarHandle" ∧ (parseMethodDescriptor mX11_studiosThatMade.1.desc).map (fun d => d.parameters.length) = some 5) ∧ mX11_studiosThatMade.2.2.1 ≤ 15 := ⟨wA_t 1 (by decide +kernel) rfl, wA_t 678 (by decide +kernel) rfl, ⟨by decide +kernel, by decide +kernel, by decide +kernel⟩, by decide⟩
abbrev mX11_marksOfNoStudio : MB := (yX11_marksOfNoStudio, cX11_marksOfNoStudio, 10, some .int)
theorem mwX11_marksOfNoStudio : Cond.initialized mX11_marksOfNoStudio.1.cls ∈ wA ∧ Cond.code mX11_marksOfNoStudio.1 mX11_marksOfNoStudio.2.1 mX11_marksOfNoStudio.2.2.1 mX11_marksOfNoStudio.2.2.2 ∈ wA ∧ (mX11_marksOfNoStudio.1.cls ≠ "java/lang/invoke/MethodHandle" ∧ mX11_marksOfNoStudio.1.cls ≠ "java/lang/invoke/VarHandle" ∧ (parseMethodDescriptor mX11_marksOfNoStudio.1.desc).map (fun d => d.parameters.length) = some 5) ∧ mX11_marksOfNoStudio.2.2.1 ≤ 15 := ⟨wA_t 1 (by decide +kernel) rfl, wA_t 682 (by decide +kernel) rfl, ⟨by decide +kernel, by decide +kernel, by decide +kernel⟩, by decide⟩
abbrev mX11_spot : MB := (yX11_spot, cX11_spot, 5, some .int)
theorem mwX11_spot : Cond.initialized mX11_spot.1.cls ∈ wA ∧ Cond.code mX11_spot.1 mX11_spot.2.1 mX11_spot.2.2.1 mX11_spot.2.2.2 ∈ wA ∧ (mX11_spot.1.cls ≠ "java/lang/invoke/MethodHandle" ∧ mX11_spot.1.cls ≠ "java/lang/invoke/VarHandle" ∧ (parseMethodDescriptor mX11_spot.1.desc).map (fun d => d.parameters.length) = some 4) ∧ mX11_spot.2.2.1 ≤ 15 := ⟨wA_t 1 (by decide +kernel) rfl, wA_t 686 (by decide +kernel) rfl, ⟨by decide +kernel, by decide +kernel, by decide +kernel⟩, by decide⟩
abbrev mX11_spotAside : MB := (yX11_spotAside, cX11_spotAside, 2, some .int)
theorem mwX11_spotAside : Cond.initialized mX11_spotAside.1.cls ∈ wA ∧ Cond.code mX11_spotAside.1 mX11_spotAside.2.1 mX11_spotAside.2.2.1 mX11_spotAside.2.2.2 ∈ wA ∧ (mX11_spotAside.1.cls ≠ "java/lang/invoke/MethodHandle" ∧ mX11_spotAside.1.cls ≠ "java/lang/invoke/VarHandle" ∧ (parseMethodDescriptor mX11_spotAside.1.desc).map (fun d => d.parameters.length) = some 2) ∧ mX11_spotAside.2.2.1 ≤ 15 := ⟨wA_t 1 (by decide +kernel) rfl, wA_t 689 (by decide +kernel) rfl, ⟨by decide +kernel, by decide +kernel, by decide +kernel⟩, by decide⟩
abbrev mX11_noonOf : MB := (yX11_noonOf, cX11_noonOf, 3, some .int)
theorem mwX11_noonOf : Cond.initialized mX11_noonOf.1.cls ∈ wA ∧ Cond.code mX11_noonOf.1 mX11_noonOf.2.1 mX11_noonOf.2.2.1 mX11_noonOf.2.2.2 ∈ wA ∧ (mX11_noonOf.1.cls ≠ "java/lang/invoke/MethodHandle" ∧ mX11_noonOf.1.cls ≠ "java/lang/invoke/VarHandle" ∧ (parseMethodDescriptor mX11_noonOf.1.desc).map (fun d => d.parameters.length) = some 1) ∧ mX11_noonOf.2.2.1 ≤ 15 := ⟨wA_t 1 (by decide +kernel) rfl, wA_t 692 (by decide +kernel) rfl, ⟨by decide +kernel, by decide +kernel, by decide +kernel⟩, by decide⟩
abbrev mX11_spotAhead : MB := (yX11_spotAhead, cX11_spotAhead, 3, some .int)
theorem mwX11_spotAhead : Cond.initialized mX11_spotAhead.1.cls ∈ wA ∧ Cond.code mX11_spotAhead.1 mX11_spotAhead.2.1 mX11_spotAhead.2.2.1 mX11_spotAhead.2.2.2 ∈ wA ∧ (mX11_spotAhead.1.cls ≠ "java/lang/invoke/MethodHandle" ∧ mX11_spotAhead.1.cls ≠ "java/lang/invoke/VarHandle" ∧ (parseMethodDescriptor mX11_spotAhead.1.desc).map (fun d => d.parameters.length) = some 3) ∧ mX11_spotAhead.2.2.1 ≤ 15 := ⟨wA_t 1 (by decide +kernel) rfl, wA_t 695 (by decide +kernel) rfl, ⟨by decide +kernel, by decide +kernel, by decide +kernel⟩, by decide⟩
abbrev mX11_days : MB := (yX11_days, cX11_days, 9, some .int)
theorem mwX11_days : Cond.initialized mX11_days.1.cls ∈ wA ∧ Cond.code mX11_days.1 mX11_days.2.1 mX11_days.2.2.1 mX11_days.2.2.2 ∈ wA ∧ (mX11_days.1.cls ≠ "java/lang/invoke/MethodHandle" ∧ mX11_days.1.cls ≠ "java/lang/invoke/VarHandle" ∧ (parseMethodDescriptor mX11_days.1.desc).map (fun d => d.parameters.length) = some 4) ∧ mX11_days.2.2.1 ≤ 15 := ⟨wA_t 1 (by decide +kernel) rfl, wA_t 699 (by decide +kernel) rfl, ⟨by decide +kernel, by decide +kernel, by decide +kernel⟩, by decide⟩
abbrev mX11_kind : MB := (yX11_kind, cX11_kind, 2, some .int)
theorem mwX11_kind : Cond.initialized mX11_kind.1.cls ∈ wA ∧ Cond.code mX11_kind.1 mX11_kind.2.1 mX11_kind.2.2.1 mX11_kind.2.2.2 ∈ wA ∧ (mX11_kind.1.cls ≠ "java/lang/invoke/MethodHandle" ∧ mX11_kind.1.cls ≠ "java/lang/invoke/VarHandle" ∧ (parseMethodDescriptor mX11_kind.1.desc).map (fun d => d.parameters.length) = some 1) ∧ mX11_kind.2.2.1 ≤ 15 := ⟨wA_t 1 (by decide +kernel) rfl, wA_t 703 (by decide +kernel) rfl, ⟨by decide +kernel, by decide +kernel, by decide +kernel⟩, by decide⟩
abbrev mX11_kindOf : MB := (yX11_kindOf, cX11_kindOf, 2, some .int)
theorem mwX11_kindOf : Cond.initialized mX11_kindOf.1.cls ∈ wA ∧ Cond.code mX11_kindOf.1 mX11_kindOf.2.1 mX11_kindOf.2.2.1 mX11_kindOf.2.2.2 ∈ wA ∧ (mX11_kindOf.1.cls ≠ "java/lang/invoke/MethodHandle" ∧ mX11_kindOf.1.cls ≠ "java/lang/invoke/VarHandle" ∧ (parseMethodDescriptor mX11_kindOf.1.desc).map (fun d => d.parameters.length) = some 1) ∧ mX11_kindOf.2.2.1 ≤ 15 := ⟨wA_t 1 (by decide +kernel) rfl, wA_t 707 (by decide +kernel) rfl, ⟨by decide +kernel, by decide +kernel, by decide +kernel⟩, by decide⟩
abbrev mX11_as : MB := (yX11_as, cX11_as, 5, some .int)
theorem mwX11_as : Cond.initialized mX11_as.1.cls ∈ wA ∧ Cond.code mX11_as.1 mX11_as.2.1 mX11_as.2.2.1 mX11_as.2.2.2 ∈ wA ∧ (mX11_as.1.cls ≠ "java/lang/invoke/MethodHandle" ∧ mX11_as.1.cls ≠ "java/lang/invoke/VarHandle" ∧ (parseMethodDescriptor mX11_as.1.desc).map (fun d => d.parameters.length) = some 2) ∧ mX11_as.2.2.1 ≤ 15 := ⟨wA_t 1 (by decide +kernel) rfl, wA_t 711 (by decide +kernel) rfl, ⟨by decide +kernel, by decide +kernel, by decide +kernel⟩, by decide⟩
abbrev mX11_ask : MB := (yX11_ask, cX11_ask, 4, some .int)
theorem mwX11_ask : Cond.initialized mX11_ask.1.cls ∈ wA ∧ Cond.code mX11_ask.1 mX11_ask.2.1 mX11_ask.2.2.1 mX11_ask.2.2.2 ∈ wA ∧ (mX11_ask.1.cls ≠ "java/lang/invoke/MethodHandle" ∧ mX11_ask.1.cls ≠ "java/lang/invoke/VarHandle" ∧ (parseMethodDescriptor mX11_ask.1.desc).map (fun d => d.parameters.length) = some 2) ∧ mX11_ask.2.2.1 ≤ 15 := ⟨wA_t 1 (by decide +kernel) rfl, wA_t 715 (by decide +kernel) rfl, ⟨by decide +kernel, by decide +kernel, by decide +kernel⟩, by decide⟩
abbrev mX0_face : MB := (yX0_face, cX0_face, 4, none)
theorem mwX0_face : Cond.initialized mX0_face.1.cls ∈ wA ∧ Cond.code mX0_face.1 mX0_face.2.1 mX0_face.2.2.1 mX0_face.2.2.2 ∈ wA ∧ (mX0_face.1.cls ≠ "java/lang/invoke/MethodHandle" ∧ mX0_face.1.cls ≠ "java/lang/invoke/VarHandle" ∧ (parseMethodDescriptor mX0_face.1.desc).map (fun d => d.parameters.length) = some 3) ∧ mX0_face.2.2.1 ≤ 15 := ⟨wA_t 9 (by decide +kernel) rfl, wA_t 719 (by decide +kernel) rfl, ⟨by decide +kernel, by decide +kernel, by decide +kernel⟩, by decide⟩
abbrev mX0_size : MB := (yX0_size, cX0_size, 2, some .int)
theorem mwX0_size : Cond.initialized mX0_size.1.cls ∈ wA ∧ Cond.code mX0_size.1 mX0_size.2.1 mX0_size.2.2.1 mX0_size.2.2.2 ∈ wA ∧ (mX0_size.1.cls ≠ "java/lang/invoke/MethodHandle" ∧ mX0_size.1.cls ≠ "java/lang/invoke/VarHandle" ∧ (parseMethodDescriptor mX0_size.1.desc).map (fun d => d.parameters.length) = some 1) ∧ mX0_size.2.2.1 ≤ 15 := ⟨wA_t 9 (by decide +kernel) rfl, wA_t 723 (by decide +kernel) rfl, ⟨by decide +kernel, by decide +kernel, by decide +kernel⟩, by decide⟩
abbrev mX0_sizeOfSeen : MB := (yX0_sizeOfSeen, cX0_sizeOfSeen, 1, some .int)
theorem mwX0_sizeOfSeen : Cond.initialized mX0_sizeOfSeen.1.cls ∈ wA ∧ Cond.code mX0_sizeOfSeen.1 mX0_sizeOfSeen.2.1 mX0_sizeOfSeen.2.2.1 mX0_sizeOfSeen.2.2.2 ∈ wA ∧ (mX0_sizeOfSeen.1.cls ≠ "java/lang/invoke/MethodHandle" ∧ mX0_sizeOfSeen.1.cls ≠ "java/lang/invoke/VarHandle" ∧ (parseMethodDescriptor mX0_sizeOfSeen.1.desc).map (fun d => d.parameters.length) = some 0) ∧ mX0_sizeOfSeen.2.2.1 ≤ 15 := ⟨wA_t 9 (by decide +kernel) rfl, wA_t 727 (by decide +kernel) rfl, ⟨by decide +kernel, by decide +kernel, by decide +kernel⟩, by decide⟩
abbrev mX0_begin : MB := (yX0_begin, cX0_begin, 2, none)
theorem mwX0_begin : Cond.initialized mX0_begin.1.cls ∈ wA ∧ Cond.code mX0_begin.1 mX0_begin.2.1 mX0_begin.2.2.1 mX0_begin.2.2.2 ∈ wA ∧ (mX0_begin.1.cls ≠ "java/lang/invoke/MethodHandle" ∧ mX0_begin.1.cls ≠ "java/lang/invoke/VarHandle" ∧ (parseMethodDescriptor mX0_begin.1.desc).map (fun d => d.parameters.length) = some 1) ∧ mX0_begin.2.2.1 ≤ 15 := ⟨wA_t 9 (by decide +kernel) rfl, wA_t 731 (by decide +kernel) rfl, ⟨by decide +kernel, by decide +kernel, by decide +kernel⟩, by decide⟩
abbrev mX0_sizeLent : MB := (yX0_sizeLent, cX0_sizeLent, 1, some .int)
theorem mwX0_sizeLent : Cond.initialized mX0_sizeLent.1.cls ∈ wA ∧ Cond.code mX0_sizeLent.1 mX0_sizeLent.2.1 mX0_sizeLent.2.2.1 mX0_sizeLent.2.2.2 ∈ wA ∧ (mX0_sizeLent.1.cls ≠ "java/lang/invoke/MethodHandle" ∧ mX0_sizeLent.1.cls ≠ "java/lang/invoke/VarHandle" ∧ (parseMethodDescriptor mX0_sizeLent.1.desc).map (fun d => d.parameters.length) = some 0) ∧ mX0_sizeLent.2.2.1 ≤ 15 := ⟨wA_t 9 (by decide +kernel) rfl, wA_t 735 (by decide +kernel) rfl, ⟨by decide +kernel, by decide +kernel, by decide +kernel⟩, by decide⟩
abbrev mX0_sizeOfSharp : MB := (yX0_sizeOfSharp, cX0_sizeOfSharp, 1, some .int)
theorem mwX0_sizeOfSharp : Cond.initialized mX0_sizeOfSharp.1.cls ∈ wA ∧ Cond.code mX0_sizeOfSharp.1 mX0_sizeOfSharp.2.1 mX0_sizeOfSharp.2.2.1 mX0_sizeOfSharp.2.2.2 ∈ wA ∧ (mX0_sizeOfSharp.1.cls ≠ "java/lang/invoke/MethodHandle" ∧ mX0_sizeOfSharp.1.cls ≠ "java/lang/invoke/VarHandle" ∧ (parseMethodDescriptor mX0_sizeOfSharp.1.desc).map (fun d => d.parameters.length) = some 0) ∧ mX0_sizeOfSharp.2.2.1 ≤ 15 := ⟨wA_t 9 (by decide +kernel) rfl, wA_t 739 (by decide +kernel) rfl, ⟨by decide +kernel, by decide +kernel, by decide +kernel⟩, by decide⟩
abbrev mX0_sizeOfLost : MB := (yX0_sizeOfLost, cX0_sizeOfLost, 2, some .int)
theorem mwX0_sizeOfLost : Cond.initialized mX0_sizeOfLost.1.cls ∈ wA ∧ Cond.code mX0_sizeOfLost.1 mX0_sizeOfLost.2.1 mX0_sizeOfLost.2.2.1 mX0_sizeOfLost.2.2.2 ∈ wA ∧ (mX0_sizeOfLost.1.cls ≠ "java/lang/invoke/MethodHandle" ∧ mX0_sizeOfLost.1.cls ≠ "java/lang/invoke/VarHandle" ∧ (parseMethodDescriptor mX0_sizeOfLost.1.desc).map (fun d => d.parameters.length) = some 0) ∧ mX0_sizeOfLost.2.2.1 ≤ 15 := ⟨wA_t 9 (by decide +kernel) rfl, wA_t 743 (by decide +kernel) rfl, ⟨by decide +kernel, by decide +kernel, by decide +kernel⟩, by decide⟩
abbrev mX0_signOfLost : MB := (yX0_signOfLost, cX0_signOfLost, 1, some .int)
theorem mwX0_signOfLost : Cond.initialized mX0_signOfLost.1.cls ∈ wA ∧ Cond.code mX0_signOfLost.1 mX0_signOfLost.2.1 mX0_signOfLost.2.2.1 mX0_signOfLost.2.2.2 ∈ wA ∧ (mX0_signOfLost.1.cls ≠ "java/lang/invoke/MethodHandle" ∧ mX0_signOfLost.1.cls ≠ "java/lang/invoke/VarHandle" ∧ (parseMethodDescriptor mX0_signOfLost.1.desc).map (fun d => d.parameters.length) = some 0) ∧ mX0_signOfLost.2.2.1 ≤ 15 := ⟨wA_t 9 (by decide +kernel) rfl, wA_t 747 (by decide +kernel) rfl, ⟨by decide +kernel, by decide +kernel, by decide +kernel⟩, by decide⟩
abbrev mX0_signLent : MB := (yX0_signLent, cX0_signLent, 1, some .int)
theorem mwX0_signLent : Cond.initialized mX0_signLent.1.cls ∈ wA ∧ Cond.code mX0_signLent.1 mX0_signLent.2.1 mX0_signLent.2.2.1 mX0_signLent.2.2.2 ∈ wA ∧ (mX0_signLent.1.cls ≠ "java/lang/invoke/MethodHandle" ∧ mX0_signLent.1.cls ≠ "java/lang/invoke/VarHandle" ∧ (parseMethodDescriptor mX0_signLent.1.desc).map (fun d => d.parameters.length) = some 0) ∧ mX0_signLent.2.2.1 ≤ 15 := ⟨wA_t 9 (by decide +kernel) rfl, wA_t 751 (by decide +kernel) rfl, ⟨by decide +kernel, by decide +kernel, by decide +kernel⟩, by decide⟩
abbrev mX0_sign : MB := (yX0_sign, cX0_sign, 2, some .int)
theorem mwX0_sign : Cond.initialized mX0_sign.1.cls ∈ wA ∧ Cond.code mX0_sign.1 mX0_sign.2.1 mX0_sign.2.2.1 mX0_sign.2.2.2 ∈ wA ∧ (mX0_sign.1.cls ≠ "java/lang/invoke/MethodHandle" ∧ mX0_sign.1.cls ≠ "java/lang/invoke/VarHandle" ∧ (parseMethodDescriptor mX0_sign.1.desc).map (fun d => d.parameters.length) = some 1) ∧ mX0_sign.2.2.1 ≤ 15 := ⟨wA_t 9 (by decide +kernel) rfl, wA_t 755 (by decide +kernel) rfl, ⟨by decide +kernel, by decide +kernel, by decide +kernel⟩, by decide⟩
abbrev mX0_signOfSeen : MB := (yX0_signOfSeen, cX0_signOfSeen, 1, some .int)
theorem mwX0_signOfSeen : Cond.initialized mX0_signOfSeen.1.cls ∈ wA ∧ Cond.code mX0_signOfSeen.1 mX0_signOfSeen.2.1 mX0_signOfSeen.2.2.1 mX0_signOfSeen.2.2.2 ∈ wA ∧ (mX0_signOfSeen.1.cls ≠ "java/lang/invoke/MethodHandle" ∧ mX0_signOfSeen.1.cls ≠ "java/lang/invoke/VarHandle" ∧ (parseMethodDescriptor mX0_signOfSeen.1.desc).map (fun d => d.parameters.length) = some 0) ∧ mX0_signOfSeen.2.2.1 ≤ 15 := ⟨wA_t 9 (by decide +kernel) rfl, wA_t 759 (by decide +kernel) rfl, ⟨by decide +kernel, by decide +kernel, by decide +kernel⟩, by decide⟩
abbrev mX0_signOfSharp : MB := (yX0_signOfSharp, cX0_signOfSharp, 2, some .int)
theorem mwX0_signOfSharp : Cond.initialized mX0_signOfSharp.1.cls ∈ wA ∧ Cond.code mX0_signOfSharp.1 mX0_signOfSharp.2.1 mX0_signOfSharp.2.2.1 mX0_signOfSharp.2.2.2 ∈ wA ∧ (mX0_signOfSharp.1.cls ≠ "java/lang/invoke/MethodHandle" ∧ mX0_signOfSharp.1.cls ≠ "java/lang/invoke/VarHandle" ∧ (parseMethodDescriptor mX0_signOfSharp.1.desc).map (fun d => d.parameters.length) = some 0) ∧ mX0_signOfSharp.2.2.1 ≤ 15 := ⟨wA_t 9 (by decide +kernel) rfl, wA_t 763 (by decide +kernel) rfl, ⟨by decide +kernel, by decide +kernel, by decide +kernel⟩, by decide⟩
abbrev mX11_trace : MB := (yX11_trace, cX11_trace, 2, some .int)
theorem mwX11_trace : Cond.initialized mX11_trace.1.cls ∈ wA ∧ Cond.code mX11_trace.1 mX11_trace.2.1 mX11_trace.2.2.1 mX11_trace.2.2.2 ∈ wA ∧ (mX11_trace.1.cls ≠ "java/lang/invoke/MethodHandle" ∧ mX11_trace.1.cls ≠ "java/lang/invoke/VarHandle" ∧ (parseMethodDescriptor mX11_trace.1.desc).map (fun d => d.parameters.length) = some 1) ∧ mX11_trace.2.2.1 ≤ 15 := ⟨wA_t 1 (by decide +kernel) rfl, wA_t 767 (by decide +kernel) rfl, ⟨by decide +kernel, by decide +kernel, by decide +kernel⟩, by decide⟩
abbrev mX11_count : MB := (yX11_count, cX11_count, 2, some .int)
theorem mwX11_count : Cond.initialized mX11_count.1.cls ∈ wA ∧ Cond.code mX11_count.1 mX11_count.2.1 mX11_count.2.2.1 mX11_count.2.2.2 ∈ wA ∧ (mX11_count.1.cls ≠ "java/lang/invoke/MethodHandle" ∧ mX11_count.1.cls ≠ "java/lang/invoke/VarHandle" ∧ (parseMethodDescriptor mX11_count.1.desc).map (fun d => d.parameters.length) = some 1) ∧ mX11_count.2.2.1 ≤ 15 := ⟨wA_t 1 (by decide +kernel) rfl, wA_t 771 (by decide +kernel) rfl, ⟨by decide +kernel, by decide +kernel, by decide +kernel⟩, by decide⟩
abbrev mX11_sheetsLaid : MB := (yX11_sheetsLaid, cX11_sheetsLaid, 3, some .int)
theorem mwX11_sheetsLaid : Cond.initialized mX11_sheetsLaid.1.cls ∈ wA ∧ Cond.code mX11_sheetsLaid.1 mX11_sheetsLaid.2.1 mX11_sheetsLaid.2.2.1 mX11_sheetsLaid.2.2.2 ∈ wA ∧ (mX11_sheetsLaid.1.cls ≠ "java/lang/invoke/MethodHandle" ∧ mX11_sheetsLaid.1.cls ≠ "java/lang/invoke/VarHandle" ∧ (parseMethodDescriptor mX11_sheetsLaid.1.desc).map (fun d => d.parameters.length) = some 0) ∧ mX11_sheetsLaid.2.2.1 ≤ 15 := ⟨wA_t 1 (by decide +kernel) rfl, wA_t 775 (by decide +kernel) rfl, ⟨by decide +kernel, by decide +kernel, by decide +kernel⟩, by decide⟩
abbrev mX11_thingsToldAs : MB := (yX11_thingsToldAs, cX11_thingsToldAs, 4, some .int)
theorem mwX11_thingsToldAs : Cond.initialized mX11_thingsToldAs.1.cls ∈ wA ∧ Cond.code mX11_thingsToldAs.1 mX11_thingsToldAs.2.1 mX11_thingsToldAs.2.2.1 mX11_thingsToldAs.2.2.2 ∈ wA ∧ (mX11_thingsToldAs.1.cls ≠ "java/lang/invoke/MethodHandle" ∧ mX11_thingsToldAs.1.cls ≠ "java/lang/invoke/VarHandle" ∧ (parseMethodDescriptor mX11_thingsToldAs.1.desc).map (fun d => d.parameters.length) = some 1) ∧ mX11_thingsToldAs.2.2.1 ≤ 15 := ⟨wA_t 1 (by decide +kernel) rfl, wA_t 779 (by decide +kernel) rfl, ⟨by decide +kernel, by decide +kernel, by decide +kernel⟩, by decide⟩
abbrev mX11_marksOnPaper : MB := (yX11_marksOnPaper, cX11_marksOnPaper, 3, some .int)
theorem mwX11_marksOnPaper : Cond.initialized mX11_marksOnPaper.1.cls ∈ wA ∧ Cond.code mX11_marksOnPaper.1 mX11_marksOnPaper.2.1 mX11_marksOnPaper.2.2.1 mX11_marksOnPaper.2.2.2 ∈ wA ∧ (mX11_marksOnPaper.1.cls ≠ "java/lang/invoke/MethodHandle" ∧ mX11_marksOnPaper.1.cls ≠ "java/lang/invoke/VarHandle" ∧ (parseMethodDescriptor mX11_marksOnPaper.1.desc).map (fun d => d.parameters.length) = some 0) ∧ mX11_marksOnPaper.2.2.1 ≤ 15 := ⟨wA_t 1 (by decide +kernel) rfl, wA_t 783 (by decide +kernel) rfl, ⟨by decide +kernel, by decide +kernel, by decide +kernel⟩, by decide⟩
abbrev mX11_tracesMarked : MB := (yX11_tracesMarked, cX11_tracesMarked, 3, some .int)
theorem mwX11_tracesMarked : Cond.initialized mX11_tracesMarked.1.cls ∈ wA ∧ Cond.code mX11_tracesMarked.1 mX11_tracesMarked.2.1 mX11_tracesMarked.2.2.1 mX11_tracesMarked.2.2.2 ∈ wA ∧ (mX11_tracesMarked.1.cls ≠ "java/lang/invoke/MethodHandle" ∧ mX11_tracesMarked.1.cls ≠ "java/lang/invoke/VarHandle" ∧ (parseMethodDescriptor mX11_tracesMarked.1.desc).map (fun d => d.parameters.length) = some 0) ∧ mX11_tracesMarked.2.2.1 ≤ 15 := ⟨wA_t 1 (by decide +kernel) rfl, wA_t 787 (by decide +kernel) rfl, ⟨by decide +kernel, by decide +kernel, by decide +kernel⟩, by decide⟩
abbrev mX11_status : MB := (yX11_status, cX11_status, 1, some .int)
theorem mwX11_status : Cond.initialized mX11_status.1.cls ∈ wA ∧ Cond.code mX11_status.1 mX11_status.2.1 mX11_status.2.2.1 mX11_status.2.2.2 ∈ wA ∧ (mX11_status.1.cls ≠ "java/lang/invoke/MethodHandle" ∧ mX11_status.1.cls ≠ "java/lang/invoke/VarHandle" ∧ (parseMethodDescriptor mX11_status.1.desc).map (fun d => d.parameters.length) = some 0) ∧ mX11_status.2.2.1 ≤ 15 := ⟨wA_t 1 (by decide +kernel) rfl, wA_t 791 (by decide +kernel) rfl, ⟨by decide +kernel, by decide +kernel, by decide +kernel⟩, by decide⟩
abbrev mX12_init : MB := (yX12_init, cX12_init, 1, none)
theorem mwX12_init : Cond.initialized mX12_init.1.cls ∈ wA ∧ Cond.code mX12_init.1 mX12_init.2.1 mX12_init.2.2.1 mX12_init.2.2.2 ∈ wA ∧ (mX12_init.1.cls ≠ "java/lang/invoke/MethodHandle" ∧ mX12_init.1.cls ≠ "java/lang/invoke/VarHandle" ∧ (parseMethodDescriptor mX12_init.1.desc).map (fun d => d.parameters.length) = some 0) ∧ mX12_init.2.2.1 ≤ 15 := ⟨wA_t 13 (by decide +kernel) rfl, wA_t 796 (by decide +kernel) rfl, ⟨by decide +kernel, by decide +kernel, by decide +kernel⟩, by decide⟩
abbrev mX12_sheet : MB := (yX12_sheet, cX12_sheet, 5, some .int)
theorem mwX12_sheet : Cond.initialized mX12_sheet.1.cls ∈ wA ∧ Cond.code mX12_sheet.1 mX12_sheet.2.1 mX12_sheet.2.2.1 mX12_sheet.2.2.2 ∈ wA ∧ (mX12_sheet.1.cls ≠ "java/lang/invoke/MethodHandle" ∧ mX12_sheet.1.cls ≠ "java/lang/invoke/VarHandle" ∧ (parseMethodDescriptor mX12_sheet.1.desc).map (fun d => d.parameters.length) = some 3) ∧ mX12_sheet.2.2.1 ≤ 15 := ⟨wA_t 13 (by decide +kernel) rfl, wA_t 889 (by decide +kernel) rfl, ⟨by decide +kernel, by decide +kernel, by decide +kernel⟩, by decide⟩
abbrev mX12_isSheet : MB := (yX12_isSheet, cX12_isSheet, 1, some .boolean)
theorem mwX12_isSheet : Cond.initialized mX12_isSheet.1.cls ∈ wA ∧ Cond.code mX12_isSheet.1 mX12_isSheet.2.1 mX12_isSheet.2.2.1 mX12_isSheet.2.2.2 ∈ wA ∧ (mX12_isSheet.1.cls ≠ "java/lang/invoke/MethodHandle" ∧ mX12_isSheet.1.cls ≠ "java/lang/invoke/VarHandle" ∧ (parseMethodDescriptor mX12_isSheet.1.desc).map (fun d => d.parameters.length) = some 1) ∧ mX12_isSheet.2.2.1 ≤ 15 := ⟨wA_t 13 (by decide +kernel) rfl, wA_t 892 (by decide +kernel) rfl, ⟨by decide +kernel, by decide +kernel, by decide +kernel⟩, by decide⟩
abbrev mX12_in : MB := (yX12_in, cX12_in, 6, some .boolean)
theorem mwX12_in : Cond.initialized mX12_in.1.cls ∈ wA ∧ Cond.code mX12_in.1 mX12_in.2.1 mX12_in.2.2.1 mX12_in.2.2.2 ∈ wA ∧ (mX12_in.1.cls ≠ "java/lang/invoke/MethodHandle" ∧ mX12_in.1.cls ≠ "java/lang/invoke/VarHandle" ∧ (parseMethodDescriptor mX12_in.1.desc).map (fun d => d.parameters.length) = some 3) ∧ mX12_in.2.2.1 ≤ 15 := ⟨wA_t 13 (by decide +kernel) rfl, wA_t 896 (by decide +kernel) rfl, ⟨by decide +kernel, by decide +kernel, by decide +kernel⟩, by decide⟩
abbrev mX12_found : MB := (yX12_found, cX12_found, 2, some .int)
theorem mwX12_found : Cond.initialized mX12_found.1.cls ∈ wA ∧ Cond.code mX12_found.1 mX12_found.2.1 mX12_found.2.2.1 mX12_found.2.2.2 ∈ wA ∧ (mX12_found.1.cls ≠ "java/lang/invoke/MethodHandle" ∧ mX12_found.1.cls ≠ "java/lang/invoke/VarHandle" ∧ (parseMethodDescriptor mX12_found.1.desc).map (fun d => d.parameters.length) = some 1) ∧ mX12_found.2.2.1 ≤ 15 := ⟨wA_t 13 (by decide +kernel) rfl, wA_t 902 (by decide +kernel) rfl, ⟨by decide +kernel, by decide +kernel, by decide +kernel⟩, by decide⟩
abbrev mX12_set : MB := (yX12_set, cX12_set, 4, some .int)
theorem mwX12_set : Cond.initialized mX12_set.1.cls ∈ wA ∧ Cond.code mX12_set.1 mX12_set.2.1 mX12_set.2.2.1 mX12_set.2.2.2 ∈ wA ∧ (mX12_set.1.cls ≠ "java/lang/invoke/MethodHandle" ∧ mX12_set.1.cls ≠ "java/lang/invoke/VarHandle" ∧ (parseMethodDescriptor mX12_set.1.desc).map (fun d => d.parameters.length) = some 3) ∧ mX12_set.2.2.1 ≤ 15 := ⟨wA_t 13 (by decide +kernel) rfl, wA_t 907 (by decide +kernel) rfl, ⟨by decide +kernel, by decide +kernel, by decide +kernel⟩, by decide⟩
abbrev mX12_copy : MB := (yX12_copy, cX12_copy, 9, some .int)
theorem mwX12_copy : Cond.initialized mX12_copy.1.cls ∈ wA ∧ Cond.code mX12_copy.1 mX12_copy.2.1 mX12_copy.2.2.1 mX12_copy.2.2.2 ∈ wA ∧ (mX12_copy.1.cls ≠ "java/lang/invoke/MethodHandle" ∧ mX12_copy.1.cls ≠ "java/lang/invoke/VarHandle" ∧ (parseMethodDescriptor mX12_copy.1.desc).map (fun d => d.parameters.length) = some 5) ∧ mX12_copy.2.2.1 ≤ 15 := ⟨wA_t 13 (by decide +kernel) rfl, wA_t 911 (by decide +kernel) rfl, ⟨by decide +kernel, by decide +kernel, by decide +kernel⟩, by decide⟩
abbrev mX12_drop : MB := (yX12_drop, cX12_drop, 2, some .int)
theorem mwX12_drop : Cond.initialized mX12_drop.1.cls ∈ wA ∧ Cond.code mX12_drop.1 mX12_drop.2.1 mX12_drop.2.2.1 mX12_drop.2.2.2 ∈ wA ∧ (mX12_drop.1.cls ≠ "java/lang/invoke/MethodHandle" ∧ mX12_drop.1.cls ≠ "java/lang/invoke/VarHandle" ∧ (parseMethodDescriptor mX12_drop.1.desc).map (fun d => d.parameters.length) = some 1) ∧ mX12_drop.2.2.1 ≤ 15 := ⟨wA_t 13 (by decide +kernel) rfl, wA_t 915 (by decide +kernel) rfl, ⟨by decide +kernel, by decide +kernel, by decide +kernel⟩, by decide⟩
abbrev mX12_room : MB := (yX12_room, cX12_room, 6, some .int)
theorem mwX12_room : Cond.initialized mX12_room.1.cls ∈ wA ∧ Cond.code mX12_room.1 mX12_room.2.1 mX12_room.2.2.1 mX12_room.2.2.2 ∈ wA ∧ (mX12_room.1.cls ≠ "java/lang/invoke/MethodHandle" ∧ mX12_room.1.cls ≠ "java/lang/invoke/VarHandle" ∧ (parseMethodDescriptor mX12_room.1.desc).map (fun d => d.parameters.length) = some 2) ∧ mX12_room.2.2.1 ≤ 15 := ⟨wA_t 13 (by decide +kernel) rfl, wA_t 919 (by decide +kernel) rfl, ⟨by decide +kernel, by decide +kernel, by decide +kernel⟩, by decide⟩
abbrev mX12_bend : MB := (yX12_bend, cX12_bend, 4, some .int)
theorem mwX12_bend : Cond.initialized mX12_bend.1.cls ∈ wA ∧ Cond.code mX12_bend.1 mX12_bend.2.1 mX12_bend.2.2.1 mX12_bend.2.2.2 ∈ wA ∧ (mX12_bend.1.cls ≠ "java/lang/invoke/MethodHandle" ∧ mX12_bend.1.cls ≠ "java/lang/invoke/VarHandle" ∧ (parseMethodDescriptor mX12_bend.1.desc).map (fun d => d.parameters.length) = some 2) ∧ mX12_bend.2.2.1 ≤ 15 := ⟨wA_t 13 (by decide +kernel) rfl, wA_t 924 (by decide +kernel) rfl, ⟨by decide +kernel, by decide +kernel, by decide +kernel⟩, by decide⟩
abbrev mX12_told : MB := (yX12_told, cX12_told, 2, some .int)
theorem mwX12_told : Cond.initialized mX12_told.1.cls ∈ wA ∧ Cond.code mX12_told.1 mX12_told.2.1 mX12_told.2.2.1 mX12_told.2.2.2 ∈ wA ∧ (mX12_told.1.cls ≠ "java/lang/invoke/MethodHandle" ∧ mX12_told.1.cls ≠ "java/lang/invoke/VarHandle" ∧ (parseMethodDescriptor mX12_told.1.desc).map (fun d => d.parameters.length) = some 1) ∧ mX12_told.2.2.1 ≤ 15 := ⟨wA_t 13 (by decide +kernel) rfl, wA_t 932 (by decide +kernel) rfl, ⟨by decide +kernel, by decide +kernel, by decide +kernel⟩, by decide⟩
abbrev mX12_thing : MB := (yX12_thing, cX12_thing, 4, some .int)
theorem mwX12_thing : Cond.initialized mX12_thing.1.cls ∈ wA ∧ Cond.code mX12_thing.1 mX12_thing.2.1 mX12_thing.2.2.1 mX12_thing.2.2.2 ∈ wA ∧ (mX12_thing.1.cls ≠ "java/lang/invoke/MethodHandle" ∧ mX12_thing.1.cls ≠ "java/lang/invoke/VarHandle" ∧ (parseMethodDescriptor mX12_thing.1.desc).map (fun d => d.parameters.length) = some 3) ∧ mX12_thing.2.2.1 ≤ 15 := ⟨wA_t 13 (by decide +kernel) rfl, wA_t 937 (by decide +kernel) rfl, ⟨by decide +kernel, by decide +kernel, by decide +kernel⟩, by decide⟩
abbrev mX12_isPlace : MB := (yX12_isPlace, cX12_isPlace, 3, some .boolean)
theorem mwX12_isPlace : Cond.initialized mX12_isPlace.1.cls ∈ wA ∧ Cond.code mX12_isPlace.1 mX12_isPlace.2.1 mX12_isPlace.2.2.1 mX12_isPlace.2.2.2 ∈ wA ∧ (mX12_isPlace.1.cls ≠ "java/lang/invoke/MethodHandle" ∧ mX12_isPlace.1.cls ≠ "java/lang/invoke/VarHandle" ∧ (parseMethodDescriptor mX12_isPlace.1.desc).map (fun d => d.parameters.length) = some 3) ∧ mX12_isPlace.2.2.1 ≤ 15 := ⟨wA_t 13 (by decide +kernel) rfl, wA_t 940 (by decide +kernel) rfl, ⟨by decide +kernel, by decide +kernel, by decide +kernel⟩, by decide⟩
abbrev mX12_move : MB := (yX12_move, cX12_move, 5, some .int)
theorem mwX12_move : Cond.initialized mX12_move.1.cls ∈ wA ∧ Cond.code mX12_move.1 mX12_move.2.1 mX12_move.2.2.1 mX12_move.2.2.2 ∈ wA ∧ (mX12_move.1.cls ≠ "java/lang/invoke/MethodHandle" ∧ mX12_move.1.cls ≠ "java/lang/invoke/VarHandle" ∧ (parseMethodDescriptor mX12_move.1.desc).map (fun d => d.parameters.length) = some 4) ∧ mX12_move.2.2.1 ≤ 15 := ⟨wA_t 13 (by decide +kernel) rfl, wA_t 948 (by decide +kernel) rfl, ⟨by decide +kernel, by decide +kernel, by decide +kernel⟩, by decide⟩
abbrev mX12_isThing : MB := (yX12_isThing, cX12_isThing, 2, some .boolean)
theorem mwX12_isThing : Cond.initialized mX12_isThing.1.cls ∈ wA ∧ Cond.code mX12_isThing.1 mX12_isThing.2.1 mX12_isThing.2.2.1 mX12_isThing.2.2.2 ∈ wA ∧ (mX12_isThing.1.cls ≠ "java/lang/invoke/MethodHandle" ∧ mX12_isThing.1.cls ≠ "java/lang/invoke/VarHandle" ∧ (parseMethodDescriptor mX12_isThing.1.desc).map (fun d => d.parameters.length) = some 1) ∧ mX12_isThing.2.2.1 ≤ 15 := ⟨wA_t 13 (by decide +kernel) rfl, wA_t 952 (by decide +kernel) rfl, ⟨by decide +kernel, by decide +kernel, by decide +kernel⟩, by decide⟩
abbrev mX12_picture : MB := (yX12_picture, cX12_picture, 4, some .int)
theorem mwX12_picture : Cond.initialized mX12_picture.1.cls ∈ wA ∧ Cond.code mX12_picture.1 mX12_picture.2.1 mX12_picture.2.2.1 mX12_picture.2.2.2 ∈ wA ∧ (mX12_picture.1.cls ≠ "java/lang/invoke/MethodHandle" ∧ mX12_picture.1.cls ≠ "java/lang/invoke/VarHandle" ∧ (parseMethodDescriptor mX12_picture.1.desc).map (fun d => d.parameters.length) = some 2) ∧ mX12_picture.2.2.1 ≤ 15 := ⟨wA_t 13 (by decide +kernel) rfl, wA_t 956 (by decide +kernel) rfl, ⟨by decide +kernel, by decide +kernel, by decide +kernel⟩, by decide⟩
abbrev mX12_firstOf : MB := (yX12_firstOf, cX12_firstOf, 3, some .int)
theorem mwX12_firstOf : Cond.initialized mX12_firstOf.1.cls ∈ wA ∧ Cond.code mX12_firstOf.1 mX12_firstOf.2.1 mX12_firstOf.2.2.1 mX12_firstOf.2.2.2 ∈ wA ∧ (mX12_firstOf.1.cls ≠ "java/lang/invoke/MethodHandle" ∧ mX12_firstOf.1.cls ≠ "java/lang/invoke/VarHandle" ∧ (parseMethodDescriptor mX12_firstOf.1.desc).map (fun d => d.parameters.length) = some 2) ∧ mX12_firstOf.2.2.1 ≤ 15 := ⟨wA_t 13 (by decide +kernel) rfl, wA_t 960 (by decide +kernel) rfl, ⟨by decide +kernel, by decide +kernel, by decide +kernel⟩, by decide⟩
abbrev mX12_columnOf : MB := (yX12_columnOf, cX12_columnOf, 5, some .int)
theorem mwX12_columnOf : Cond.initialized mX12_columnOf.1.cls ∈ wA ∧ Cond.code mX12_columnOf.1 mX12_columnOf.2.1 mX12_columnOf.2.2.1 mX12_columnOf.2.2.2 ∈ wA ∧ (mX12_columnOf.1.cls ≠ "java/lang/invoke/MethodHandle" ∧ mX12_columnOf.1.cls ≠ "java/lang/invoke/VarHandle" ∧ (parseMethodDescriptor mX12_columnOf.1.desc).map (fun d => d.parameters.length) = some 2) ∧ mX12_columnOf.2.2.1 ≤ 15 := ⟨wA_t 13 (by decide +kernel) rfl, wA_t 964 (by decide +kernel) rfl, ⟨by decide +kernel, by decide +kernel, by decide +kernel⟩, by decide⟩
abbrev mX12_farBy : MB := (yX12_farBy, cX12_farBy, 4, some .int)
theorem mwX12_farBy : Cond.initialized mX12_farBy.1.cls ∈ wA ∧ Cond.code mX12_farBy.1 mX12_farBy.2.1 mX12_farBy.2.2.1 mX12_farBy.2.2.2 ∈ wA ∧ (mX12_farBy.1.cls ≠ "java/lang/invoke/MethodHandle" ∧ mX12_farBy.1.cls ≠ "java/lang/invoke/VarHandle" ∧ (parseMethodDescriptor mX12_farBy.1.desc).map (fun d => d.parameters.length) = some 2) ∧ mX12_farBy.2.2.1 ≤ 15 := ⟨wA_t 13 (by decide +kernel) rfl, wA_t 968 (by decide +kernel) rfl, ⟨by decide +kernel, by decide +kernel, by decide +kernel⟩, by decide⟩
abbrev mX12_acrossOf : MB := (yX12_acrossOf, cX12_acrossOf, 2, some .int)
theorem mwX12_acrossOf : Cond.initialized mX12_acrossOf.1.cls ∈ wA ∧ Cond.code mX12_acrossOf.1 mX12_acrossOf.2.1 mX12_acrossOf.2.2.1 mX12_acrossOf.2.2.2 ∈ wA ∧ (mX12_acrossOf.1.cls ≠ "java/lang/invoke/MethodHandle" ∧ mX12_acrossOf.1.cls ≠ "java/lang/invoke/VarHandle" ∧ (parseMethodDescriptor mX12_acrossOf.1.desc).map (fun d => d.parameters.length) = some 1) ∧ mX12_acrossOf.2.2.1 ≤ 15 := ⟨wA_t 13 (by decide +kernel) rfl, wA_t 972 (by decide +kernel) rfl, ⟨by decide +kernel, by decide +kernel, by decide +kernel⟩, by decide⟩
abbrev mX12_downOf : MB := (yX12_downOf, cX12_downOf, 3, some .int)
theorem mwX12_downOf : Cond.initialized mX12_downOf.1.cls ∈ wA ∧ Cond.code mX12_downOf.1 mX12_downOf.2.1 mX12_downOf.2.2.1 mX12_downOf.2.2.2 ∈ wA ∧ (mX12_downOf.1.cls ≠ "java/lang/invoke/MethodHandle" ∧ mX12_downOf.1.cls ≠ "java/lang/invoke/VarHandle" ∧ (parseMethodDescriptor mX12_downOf.1.desc).map (fun d => d.parameters.length) = some 1) ∧ mX12_downOf.2.2.1 ≤ 15 := ⟨wA_t 13 (by decide +kernel) rfl, wA_t 976 (by decide +kernel) rfl, ⟨by decide +kernel, by decide +kernel, by decide +kernel⟩, by decide⟩
abbrev mX12_blurOf : MB := (yX12_blurOf, cX12_blurOf, 2, some .int)
theorem mwX12_blurOf : Cond.initialized mX12_blurOf.1.cls ∈ wA ∧ Cond.code mX12_blurOf.1 mX12_blurOf.2.1 mX12_blurOf.2.2.1 mX12_blurOf.2.2.2 ∈ wA ∧ (mX12_blurOf.1.cls ≠ "java/lang/invoke/MethodHandle" ∧ mX12_blurOf.1.cls ≠ "java/lang/invoke/VarHandle" ∧ (parseMethodDescriptor mX12_blurOf.1.desc).map (fun d => d.parameters.length) = some 1) ∧ mX12_blurOf.2.2.1 ≤ 15 := ⟨wA_t 13 (by decide +kernel) rfl, wA_t 980 (by decide +kernel) rfl, ⟨by decide +kernel, by decide +kernel, by decide +kernel⟩, by decide⟩
abbrev mX12_blurBy : MB := (yX12_blurBy, cX12_blurBy, 5, some .int)
theorem mwX12_blurBy : Cond.initialized mX12_blurBy.1.cls ∈ wA ∧ Cond.code mX12_blurBy.1 mX12_blurBy.2.1 mX12_blurBy.2.2.1 mX12_blurBy.2.2.2 ∈ wA ∧ (mX12_blurBy.1.cls ≠ "java/lang/invoke/MethodHandle" ∧ mX12_blurBy.1.cls ≠ "java/lang/invoke/VarHandle" ∧ (parseMethodDescriptor mX12_blurBy.1.desc).map (fun d => d.parameters.length) = some 2) ∧ mX12_blurBy.2.2.1 ≤ 15 := ⟨wA_t 13 (by decide +kernel) rfl, wA_t 984 (by decide +kernel) rfl, ⟨by decide +kernel, by decide +kernel, by decide +kernel⟩, by decide⟩
abbrev mX12_size : MB := (yX12_size, cX12_size, 1, some .int)
theorem mwX12_size : Cond.initialized mX12_size.1.cls ∈ wA ∧ Cond.code mX12_size.1 mX12_size.2.1 mX12_size.2.2.1 mX12_size.2.2.2 ∈ wA ∧ (mX12_size.1.cls ≠ "java/lang/invoke/MethodHandle" ∧ mX12_size.1.cls ≠ "java/lang/invoke/VarHandle" ∧ (parseMethodDescriptor mX12_size.1.desc).map (fun d => d.parameters.length) = some 1) ∧ mX12_size.2.2.1 ≤ 15 := ⟨wA_t 13 (by decide +kernel) rfl, wA_t 987 (by decide +kernel) rfl, ⟨by decide +kernel, by decide +kernel, by decide +kernel⟩, by decide⟩
abbrev mX12_focused : MB := (yX12_focused, cX12_focused, 7, some .int)
theorem mwX12_focused : Cond.initialized mX12_focused.1.cls ∈ wA ∧ Cond.code mX12_focused.1 mX12_focused.2.1 mX12_focused.2.2.1 mX12_focused.2.2.2 ∈ wA ∧ (mX12_focused.1.cls ≠ "java/lang/invoke/MethodHandle" ∧ mX12_focused.1.cls ≠ "java/lang/invoke/VarHandle" ∧ (parseMethodDescriptor mX12_focused.1.desc).map (fun d => d.parameters.length) = some 2) ∧ mX12_focused.2.2.1 ≤ 15 := ⟨wA_t 13 (by decide +kernel) rfl, wA_t 991 (by decide +kernel) rfl, ⟨by decide +kernel, by decide +kernel, by decide +kernel⟩, by decide⟩
abbrev mX12_bent : MB := (yX12_bent, cX12_bent, 12, some .int)
theorem mwX12_bent : Cond.initialized mX12_bent.1.cls ∈ wA ∧ Cond.code mX12_bent.1 mX12_bent.2.1 mX12_bent.2.2.1 mX12_bent.2.2.2 ∈ wA ∧ (mX12_bent.1.cls ≠ "java/lang/invoke/MethodHandle" ∧ mX12_bent.1.cls ≠ "java/lang/invoke/VarHandle" ∧ (parseMethodDescriptor mX12_bent.1.desc).map (fun d => d.parameters.length) = some 0) ∧ mX12_bent.2.2.1 ≤ 15 := ⟨wA_t 13 (by decide +kernel) rfl, wA_t 995 (by decide +kernel) rfl, ⟨by decide +kernel, by decide +kernel, by decide +kernel⟩, by decide⟩
abbrev mX12_mark : MB := (yX12_mark, cX12_mark, 6, some .int)
theorem mwX12_mark : Cond.initialized mX12_mark.1.cls ∈ wA ∧ Cond.code mX12_mark.1 mX12_mark.2.1 mX12_mark.2.2.1 mX12_mark.2.2.2 ∈ wA ∧ (mX12_mark.1.cls ≠ "java/lang/invoke/MethodHandle" ∧ mX12_mark.1.cls ≠ "java/lang/invoke/VarHandle" ∧ (parseMethodDescriptor mX12_mark.1.desc).map (fun d => d.parameters.length) = some 4) ∧ mX12_mark.2.2.1 ≤ 15 := ⟨wA_t 13 (by decide +kernel) rfl, wA_t 1000 (by decide +kernel) rfl, ⟨by decide +kernel, by decide +kernel, by decide +kernel⟩, by decide⟩
abbrev mX12_isTrace : MB := (yX12_isTrace, cX12_isTrace, 1, some .boolean)
theorem mwX12_isTrace : Cond.initialized mX12_isTrace.1.cls ∈ wA ∧ Cond.code mX12_isTrace.1 mX12_isTrace.2.1 mX12_isTrace.2.2.1 mX12_isTrace.2.2.2 ∈ wA ∧ (mX12_isTrace.1.cls ≠ "java/lang/invoke/MethodHandle" ∧ mX12_isTrace.1.cls ≠ "java/lang/invoke/VarHandle" ∧ (parseMethodDescriptor mX12_isTrace.1.desc).map (fun d => d.parameters.length) = some 1) ∧ mX12_isTrace.2.2.1 ≤ 15 := ⟨wA_t 13 (by decide +kernel) rfl, wA_t 1003 (by decide +kernel) rfl, ⟨by decide +kernel, by decide +kernel, by decide +kernel⟩, by decide⟩
abbrev mX12_isNumber : MB := (yX12_isNumber, cX12_isNumber, 1, some .boolean)
theorem mwX12_isNumber : Cond.initialized mX12_isNumber.1.cls ∈ wA ∧ Cond.code mX12_isNumber.1 mX12_isNumber.2.1 mX12_isNumber.2.2.1 mX12_isNumber.2.2.2 ∈ wA ∧ (mX12_isNumber.1.cls ≠ "java/lang/invoke/MethodHandle" ∧ mX12_isNumber.1.cls ≠ "java/lang/invoke/VarHandle" ∧ (parseMethodDescriptor mX12_isNumber.1.desc).map (fun d => d.parameters.length) = some 1) ∧ mX12_isNumber.2.2.1 ≤ 15 := ⟨wA_t 13 (by decide +kernel) rfl, wA_t 1006 (by decide +kernel) rfl, ⟨by decide +kernel, by decide +kernel, by decide +kernel⟩, by decide⟩
abbrev mX12_rub : MB := (yX12_rub, cX12_rub, 4, some .int)
theorem mwX12_rub : Cond.initialized mX12_rub.1.cls ∈ wA ∧ Cond.code mX12_rub.1 mX12_rub.2.1 mX12_rub.2.2.1 mX12_rub.2.2.2 ∈ wA ∧ (mX12_rub.1.cls ≠ "java/lang/invoke/MethodHandle" ∧ mX12_rub.1.cls ≠ "java/lang/invoke/VarHandle" ∧ (parseMethodDescriptor mX12_rub.1.desc).map (fun d => d.parameters.length) = some 2) ∧ mX12_rub.2.2.1 ≤ 15 := ⟨wA_t 13 (by decide +kernel) rfl, wA_t 1010 (by decide +kernel) rfl, ⟨by decide +kernel, by decide +kernel, by decide +kernel⟩, by decide⟩
abbrev mX12_draw : MB := (yX12_draw, cX12_draw, 4, some .int)
theorem mwX12_draw : Cond.initialized mX12_draw.1.cls ∈ wA ∧ Cond.code mX12_draw.1 mX12_draw.2.1 mX12_draw.2.2.1 mX12_draw.2.2.2 ∈ wA ∧ (mX12_draw.1.cls ≠ "java/lang/invoke/MethodHandle" ∧ mX12_draw.1.cls ≠ "java/lang/invoke/VarHandle" ∧ (parseMethodDescriptor mX12_draw.1.desc).map (fun d => d.parameters.length) = some 1) ∧ mX12_draw.2.2.1 ≤ 15 := ⟨wA_t 13 (by decide +kernel) rfl, wA_t 1014 (by decide +kernel) rfl, ⟨by decide +kernel, by decide +kernel, by decide +kernel⟩, by decide⟩
abbrev mX12_isSeen : MB := (yX12_isSeen, cX12_isSeen, 2, some .boolean)
theorem mwX12_isSeen : Cond.initialized mX12_isSeen.1.cls ∈ wA ∧ Cond.code mX12_isSeen.1 mX12_isSeen.2.1 mX12_isSeen.2.2.1 mX12_isSeen.2.2.2 ∈ wA ∧ (mX12_isSeen.1.cls ≠ "java/lang/invoke/MethodHandle" ∧ mX12_isSeen.1.cls ≠ "java/lang/invoke/VarHandle" ∧ (parseMethodDescriptor mX12_isSeen.1.desc).map (fun d => d.parameters.length) = some 1) ∧ mX12_isSeen.2.2.1 ≤ 15 := ⟨wA_t 13 (by decide +kernel) rfl, wA_t 1018 (by decide +kernel) rfl, ⟨by decide +kernel, by decide +kernel, by decide +kernel⟩, by decide⟩
abbrev mX12_marked : MB := (yX12_marked, cX12_marked, 4, some .int)
theorem mwX12_marked : Cond.initialized mX12_marked.1.cls ∈ wA ∧ Cond.code mX12_marked.1 mX12_marked.2.1 mX12_marked.2.2.1 mX12_marked.2.2.2 ∈ wA ∧ (mX12_marked.1.cls ≠ "java/lang/invoke/MethodHandle" ∧ mX12_marked.1.cls ≠ "java/lang/invoke/VarHandle" ∧ (parseMethodDescriptor mX12_marked.1.desc).map (fun d => d.parameters.length) = some 3) ∧ mX12_marked.2.2.1 ≤ 15 := ⟨wA_t 13 (by decide +kernel) rfl, wA_t 1022 (by decide +kernel) rfl, ⟨by decide +kernel, by decide +kernel, by decide +kernel⟩, by decide⟩
abbrev mX12_joined : MB := (yX12_joined, cX12_joined, 4, some .int)
theorem mwX12_joined : Cond.initialized mX12_joined.1.cls ∈ wA ∧ Cond.code mX12_joined.1 mX12_joined.2.1 mX12_joined.2.2.1 mX12_joined.2.2.2 ∈ wA ∧ (mX12_joined.1.cls ≠ "java/lang/invoke/MethodHandle" ∧ mX12_joined.1.cls ≠ "java/lang/invoke/VarHandle" ∧ (parseMethodDescriptor mX12_joined.1.desc).map (fun d => d.parameters.length) = some 3) ∧ mX12_joined.2.2.1 ≤ 15 := ⟨wA_t 13 (by decide +kernel) rfl, wA_t 1027 (by decide +kernel) rfl, ⟨by decide +kernel, by decide +kernel, by decide +kernel⟩, by decide⟩
abbrev mX12_join : MB := (yX12_join, cX12_join, 5, none)
theorem mwX12_join : Cond.initialized mX12_join.1.cls ∈ wA ∧ Cond.code mX12_join.1 mX12_join.2.1 mX12_join.2.2.1 mX12_join.2.2.2 ∈ wA ∧ (mX12_join.1.cls ≠ "java/lang/invoke/MethodHandle" ∧ mX12_join.1.cls ≠ "java/lang/invoke/VarHandle" ∧ (parseMethodDescriptor mX12_join.1.desc).map (fun d => d.parameters.length) = some 2) ∧ mX12_join.2.2.1 ≤ 15 := ⟨wA_t 13 (by decide +kernel) rfl, wA_t 1032 (by decide +kernel) rfl, ⟨by decide +kernel, by decide +kernel, by decide +kernel⟩, by decide⟩
abbrev mX12_middle : MB := (yX12_middle, cX12_middle, 4, some .int)
theorem mwX12_middle : Cond.initialized mX12_middle.1.cls ∈ wA ∧ Cond.code mX12_middle.1 mX12_middle.2.1 mX12_middle.2.2.1 mX12_middle.2.2.2 ∈ wA ∧ (mX12_middle.1.cls ≠ "java/lang/invoke/MethodHandle" ∧ mX12_middle.1.cls ≠ "java/lang/invoke/VarHandle" ∧ (parseMethodDescriptor mX12_middle.1.desc).map (fun d => d.parameters.length) = some 0) ∧ mX12_middle.2.2.1 ≤ 15 := ⟨wA_t 13 (by decide +kernel) rfl, wA_t 1036 (by decide +kernel) rfl, ⟨by decide +kernel, by decide +kernel, by decide +kernel⟩, by decide⟩
abbrev mX12_sumFrom : MB := (yX12_sumFrom, cX12_sumFrom, 4, some .int)
theorem mwX12_sumFrom : Cond.initialized mX12_sumFrom.1.cls ∈ wA ∧ Cond.code mX12_sumFrom.1 mX12_sumFrom.2.1 mX12_sumFrom.2.2.1 mX12_sumFrom.2.2.2 ∈ wA ∧ (mX12_sumFrom.1.cls ≠ "java/lang/invoke/MethodHandle" ∧ mX12_sumFrom.1.cls ≠ "java/lang/invoke/VarHandle" ∧ (parseMethodDescriptor mX12_sumFrom.1.desc).map (fun d => d.parameters.length) = some 1) ∧ mX12_sumFrom.2.2.1 ≤ 15 := ⟨wA_t 13 (by decide +kernel) rfl, wA_t 1040 (by decide +kernel) rfl, ⟨by decide +kernel, by decide +kernel, by decide +kernel⟩, by decide⟩
abbrev mX12_round : MB := (yX12_round, cX12_round, 3, some .int)
theorem mwX12_round : Cond.initialized mX12_round.1.cls ∈ wA ∧ Cond.code mX12_round.1 mX12_round.2.1 mX12_round.2.2.1 mX12_round.2.2.2 ∈ wA ∧ (mX12_round.1.cls ≠ "java/lang/invoke/MethodHandle" ∧ mX12_round.1.cls ≠ "java/lang/invoke/VarHandle" ∧ (parseMethodDescriptor mX12_round.1.desc).map (fun d => d.parameters.length) = some 2) ∧ mX12_round.2.2.1 ≤ 15 := ⟨wA_t 13 (by decide +kernel) rfl, wA_t 1044 (by decide +kernel) rfl, ⟨by decide +kernel, by decide +kernel, by decide +kernel⟩, by decide⟩
abbrev mX12_goRound : MB := (yX12_goRound, cX12_goRound, 3, some .boolean)
theorem mwX12_goRound : Cond.initialized mX12_goRound.1.cls ∈ wA ∧ Cond.code mX12_goRound.1 mX12_goRound.2.1 mX12_goRound.2.2.1 mX12_goRound.2.2.2 ∈ wA ∧ (mX12_goRound.1.cls ≠ "java/lang/invoke/MethodHandle" ∧ mX12_goRound.1.cls ≠ "java/lang/invoke/VarHandle" ∧ (parseMethodDescriptor mX12_goRound.1.desc).map (fun d => d.parameters.length) = some 1) ∧ mX12_goRound.2.2.1 ≤ 15 := ⟨wA_t 13 (by decide +kernel) rfl, wA_t 1048 (by decide +kernel) rfl, ⟨by decide +kernel, by decide +kernel, by decide +kernel⟩, by decide⟩
abbrev mX12_around : MB := (yX12_around, cX12_around, 8, some .int)
theorem mwX12_around : Cond.initialized mX12_around.1.cls ∈ wA ∧ Cond.code mX12_around.1 mX12_around.2.1 mX12_around.2.2.1 mX12_around.2.2.2 ∈ wA ∧ (mX12_around.1.cls ≠ "java/lang/invoke/MethodHandle" ∧ mX12_around.1.cls ≠ "java/lang/invoke/VarHandle" ∧ (parseMethodDescriptor mX12_around.1.desc).map (fun d => d.parameters.length) = some 3) ∧ mX12_around.2.2.1 ≤ 15 := ⟨wA_t 13 (by decide +kernel) rfl, wA_t 1052 (by decide +kernel) rfl, ⟨by decide +kernel, by decide +kernel, by decide +kernel⟩, by decide⟩
abbrev mX12_stand : MB := (yX12_stand, cX12_stand, 6, some .int)
theorem mwX12_stand : Cond.initialized mX12_stand.1.cls ∈ wA ∧ Cond.code mX12_stand.1 mX12_stand.2.1 mX12_stand.2.2.1 mX12_stand.2.2.2 ∈ wA ∧ (mX12_stand.1.cls ≠ "java/lang/invoke/MethodHandle" ∧ mX12_stand.1.cls ≠ "java/lang/invoke/VarHandle" ∧ (parseMethodDescriptor mX12_stand.1.desc).map (fun d => d.parameters.length) = some 5) ∧ mX12_stand.2.2.1 ≤ 15 := ⟨wA_t 13 (by decide +kernel) rfl, wA_t 1056 (by decide +kernel) rfl, ⟨by decide +kernel, by decide +kernel, by decide +kernel⟩, by decide⟩
abbrev mX12_far : MB := (yX12_far, cX12_far, 4, some .long)
theorem mwX12_far : Cond.initialized mX12_far.1.cls ∈ wA ∧ Cond.code mX12_far.1 mX12_far.2.1 mX12_far.2.2.1 mX12_far.2.2.2 ∈ wA ∧ (mX12_far.1.cls ≠ "java/lang/invoke/MethodHandle" ∧ mX12_far.1.cls ≠ "java/lang/invoke/VarHandle" ∧ (parseMethodDescriptor mX12_far.1.desc).map (fun d => d.parameters.length) = some 3) ∧ mX12_far.2.2.1 ≤ 15 := ⟨wA_t 13 (by decide +kernel) rfl, wA_t 1060 (by decide +kernel) rfl, ⟨by decide +kernel, by decide +kernel, by decide +kernel⟩, by decide⟩
abbrev mX12_isSight : MB := (yX12_isSight, cX12_isSight, 1, some .boolean)
theorem mwX12_isSight : Cond.initialized mX12_isSight.1.cls ∈ wA ∧ Cond.code mX12_isSight.1 mX12_isSight.2.1 mX12_isSight.2.2.1 mX12_isSight.2.2.2 ∈ wA ∧ (mX12_isSight.1.cls ≠ "java/lang/invoke/MethodHandle" ∧ mX12_isSight.1.cls ≠ "java/lang/invoke/VarHandle" ∧ (parseMethodDescriptor mX12_isSight.1.desc).map (fun d => d.parameters.length) = some 1) ∧ mX12_isSight.2.2.1 ≤ 15 := ⟨wA_t 13 (by decide +kernel) rfl, wA_t 1063 (by decide +kernel) rfl, ⟨by decide +kernel, by decide +kernel, by decide +kernel⟩, by decide⟩
abbrev mX12_see : MB := (yX12_see, cX12_see, 8, some .boolean)
theorem mwX12_see : Cond.initialized mX12_see.1.cls ∈ wA ∧ Cond.code mX12_see.1 mX12_see.2.1 mX12_see.2.2.1 mX12_see.2.2.2 ∈ wA ∧ (mX12_see.1.cls ≠ "java/lang/invoke/MethodHandle" ∧ mX12_see.1.cls ≠ "java/lang/invoke/VarHandle" ∧ (parseMethodDescriptor mX12_see.1.desc).map (fun d => d.parameters.length) = some 2) ∧ mX12_see.2.2.1 ≤ 15 := ⟨wA_t 13 (by decide +kernel) rfl, wA_t 1068 (by decide +kernel) rfl, ⟨by decide +kernel, by decide +kernel, by decide +kernel⟩, by decide⟩
abbrev mX12_high : MB := (yX12_high, cX12_high, 6, some .long)
theorem mwX12_high : Cond.initialized mX12_high.1.cls ∈ wA ∧ Cond.code mX12_high.1 mX12_high.2.1 mX12_high.2.2.1 mX12_high.2.2.2 ∈ wA ∧ (mX12_high.1.cls ≠ "java/lang/invoke/MethodHandle" ∧ mX12_high.1.cls ≠ "java/lang/invoke/VarHandle" ∧ (parseMethodDescriptor mX12_high.1.desc).map (fun d => d.parameters.length) = some 3) ∧ mX12_high.2.2.1 ≤ 15 := ⟨wA_t 13 (by decide +kernel) rfl, wA_t 1073 (by decide +kernel) rfl, ⟨by decide +kernel, by decide +kernel, by decide +kernel⟩, by decide⟩
abbrev mX12_span : MB := (yX12_span, cX12_span, 12, some .long)
theorem mwX12_span : Cond.initialized mX12_span.1.cls ∈ wA ∧ Cond.code mX12_span.1 mX12_span.2.1 mX12_span.2.2.1 mX12_span.2.2.2 ∈ wA ∧ (mX12_span.1.cls ≠ "java/lang/invoke/MethodHandle" ∧ mX12_span.1.cls ≠ "java/lang/invoke/VarHandle" ∧ (parseMethodDescriptor mX12_span.1.desc).map (fun d => d.parameters.length) = some 4) ∧ mX12_span.2.2.1 ≤ 15 := ⟨wA_t 13 (by decide +kernel) rfl, wA_t 1077 (by decide +kernel) rfl, ⟨by decide +kernel, by decide +kernel, by decide +kernel⟩, by decide⟩
abbrev mX12_studio : MB := (yX12_studio, cX12_studio, 10, some .int)
theorem mwX12_studio : Cond.initialized mX12_studio.1.cls ∈ wA ∧ Cond.code mX12_studio.1 mX12_studio.2.1 mX12_studio.2.2.1 mX12_studio.2.2.2 ∈ wA ∧ (mX12_studio.1.cls ≠ "java/lang/invoke/MethodHandle" ∧ mX12_studio.1.cls ≠ "java/lang/invoke/VarHandle" ∧ (parseMethodDescriptor mX12_studio.1.desc).map (fun d => d.parameters.length) = some 7) ∧ mX12_studio.2.2.1 ≤ 15 := ⟨wA_t 13 (by decide +kernel) rfl, wA_t 1082 (by decide +kernel) rfl, ⟨by decide +kernel, by decide +kernel, by decide +kernel⟩, by decide⟩
abbrev mX12_lookStudios : MB := (yX12_lookStudios, cX12_lookStudios, 7, some .int)
theorem mwX12_lookStudios : Cond.initialized mX12_lookStudios.1.cls ∈ wA ∧ Cond.code mX12_lookStudios.1 mX12_lookStudios.2.1 mX12_lookStudios.2.2.1 mX12_lookStudios.2.2.2 ∈ wA ∧ (mX12_lookStudios.1.cls ≠ "java/lang/invoke/MethodHandle" ∧ mX12_lookStudios.1.cls ≠ "java/lang/invoke/VarHandle" ∧ (parseMethodDescriptor mX12_lookStudios.1.desc).map (fun d => d.parameters.length) = some 4) ∧ mX12_lookStudios.2.2.1 ≤ 15 := ⟨wA_t 13 (by decide +kernel) rfl, wA_t 1086 (by decide +kernel) rfl, ⟨by decide +kernel, by decide +kernel, by decide +kernel⟩, by decide⟩
abbrev mX12_misfitOf : MB := (yX12_misfitOf, cX12_misfitOf, 5, some .int)
theorem mwX12_misfitOf : Cond.initialized mX12_misfitOf.1.cls ∈ wA ∧ Cond.code mX12_misfitOf.1 mX12_misfitOf.2.1 mX12_misfitOf.2.2.1 mX12_misfitOf.2.2.2 ∈ wA ∧ (mX12_misfitOf.1.cls ≠ "java/lang/invoke/MethodHandle" ∧ mX12_misfitOf.1.cls ≠ "java/lang/invoke/VarHandle" ∧ (parseMethodDescriptor mX12_misfitOf.1.desc).map (fun d => d.parameters.length) = some 2) ∧ mX12_misfitOf.2.2.1 ≤ 15 := ⟨wA_t 13 (by decide +kernel) rfl, wA_t 1090 (by decide +kernel) rfl, ⟨by decide +kernel, by decide +kernel, by decide +kernel⟩, by decide⟩
abbrev mX12_puts : MB := (yX12_puts, cX12_puts, 6, some .boolean)
theorem mwX12_puts : Cond.initialized mX12_puts.1.cls ∈ wA ∧ Cond.code mX12_puts.1 mX12_puts.2.1 mX12_puts.2.2.1 mX12_puts.2.2.2 ∈ wA ∧ (mX12_puts.1.cls ≠ "java/lang/invoke/MethodHandle" ∧ mX12_puts.1.cls ≠ "java/lang/invoke/VarHandle" ∧ (parseMethodDescriptor mX12_puts.1.desc).map (fun d => d.parameters.length) = some 3) ∧ mX12_puts.2.2.1 ≤ 15 := ⟨wA_t 13 (by decide +kernel) rfl, wA_t 1094 (by decide +kernel) rfl, ⟨by decide +kernel, by decide +kernel, by decide +kernel⟩, by decide⟩
abbrev mX12_isMade : MB := (yX12_isMade, cX12_isMade, 6, some .boolean)
theorem mwX12_isMade : Cond.initialized mX12_isMade.1.cls ∈ wA ∧ Cond.code mX12_isMade.1 mX12_isMade.2.1 mX12_isMade.2.2.1 mX12_isMade.2.2.2 ∈ wA ∧ (mX12_isMade.1.cls ≠ "java/lang/invoke/MethodHandle" ∧ mX12_isMade.1.cls ≠ "java/lang/invoke/VarHandle" ∧ (parseMethodDescriptor mX12_isMade.1.desc).map (fun d => d.parameters.length) = some 3) ∧ mX12_isMade.2.2.1 ≤ 15 := ⟨wA_t 13 (by decide +kernel) rfl, wA_t 1098 (by decide +kernel) rfl, ⟨by decide +kernel, by decide +kernel, by decide +kernel⟩, by decide⟩
abbrev mX12_studios : MB := (yX12_studios, cX12_studios, 15, some .int)
theorem mwX12_studios : Cond.initialized mX12_studios.1.cls ∈ wA ∧ Cond.code mX12_studios.1 mX12_studios.2.1 mX12_studios.2.2.1 mX12_studios.2.2.2 ∈ wA ∧ (mX12_studios.1.cls ≠ "java/lang/invoke/MethodHandle" ∧ mX12_studios.1.cls ≠ "java/lang/invoke/VarHandle" ∧ (parseMethodDescriptor mX12_studios.1.desc).map (fun d => d.parameters.length) = some 6) ∧ mX12_studios.2.2.1 ≤ 15 := ⟨wA_t 13 (by decide +kernel) rfl, wA_t 1102 (by decide +kernel) rfl, ⟨by decide +kernel, by decide +kernel, by decide +kernel⟩, by decide⟩
abbrev mX12_spot : MB := (yX12_spot, cX12_spot, 5, some .int)
theorem mwX12_spot : Cond.initialized mX12_spot.1.cls ∈ wA ∧ Cond.code mX12_spot.1 mX12_spot.2.1 mX12_spot.2.2.1 mX12_spot.2.2.2 ∈ wA ∧ (mX12_spot.1.cls ≠ "java/lang/invoke/MethodHandle" ∧ mX12_spot.1.cls ≠ "java/lang/invoke/VarHandle" ∧ (parseMethodDescriptor mX12_spot.1.desc).map (fun d => d.parameters.length) = some 4) ∧ mX12_spot.2.2.1 ≤ 15 := ⟨wA_t 13 (by decide +kernel) rfl, wA_t 1106 (by decide +kernel) rfl, ⟨by decide +kernel, by decide +kernel, by decide +kernel⟩, by decide⟩
abbrev mX12_spotOf : MB := (yX12_spotOf, cX12_spotOf, 5, some .int)
theorem mwX12_spotOf : Cond.initialized mX12_spotOf.1.cls ∈ wA ∧ Cond.code mX12_spotOf.1 mX12_spotOf.2.1 mX12_spotOf.2.2.1 mX12_spotOf.2.2.2 ∈ wA ∧ (mX12_spotOf.1.cls ≠ "java/lang/invoke/MethodHandle" ∧ mX12_spotOf.1.cls ≠ "java/lang/invoke/VarHandle" ∧ (parseMethodDescriptor mX12_spotOf.1.desc).map (fun d => d.parameters.length) = some 4) ∧ mX12_spotOf.2.2.1 ≤ 15 := ⟨wA_t 13 (by decide +kernel) rfl, wA_t 1111 (by decide +kernel) rfl, ⟨by decide +kernel, by decide +kernel, by decide +kernel⟩, by decide⟩
abbrev mX12_days : MB := (yX12_days, cX12_days, 8, some .int)
theorem mwX12_days : Cond.initialized mX12_days.1.cls ∈ wA ∧ Cond.code mX12_days.1 mX12_days.2.1 mX12_days.2.2.1 mX12_days.2.2.2 ∈ wA ∧ (mX12_days.1.cls ≠ "java/lang/invoke/MethodHandle" ∧ mX12_days.1.cls ≠ "java/lang/invoke/VarHandle" ∧ (parseMethodDescriptor mX12_days.1.desc).map (fun d => d.parameters.length) = some 4) ∧ mX12_days.2.2.1 ≤ 15 := ⟨wA_t 13 (by decide +kernel) rfl, wA_t 1115 (by decide +kernel) rfl, ⟨by decide +kernel, by decide +kernel, by decide +kernel⟩, by decide⟩
abbrev mX12_kind : MB := (yX12_kind, cX12_kind, 2, some .int)
theorem mwX12_kind : Cond.initialized mX12_kind.1.cls ∈ wA ∧ Cond.code mX12_kind.1 mX12_kind.2.1 mX12_kind.2.2.1 mX12_kind.2.2.2 ∈ wA ∧ (mX12_kind.1.cls ≠ "java/lang/invoke/MethodHandle" ∧ mX12_kind.1.cls ≠ "java/lang/invoke/VarHandle" ∧ (parseMethodDescriptor mX12_kind.1.desc).map (fun d => d.parameters.length) = some 1) ∧ mX12_kind.2.2.1 ≤ 15 := ⟨wA_t 13 (by decide +kernel) rfl, wA_t 1119 (by decide +kernel) rfl, ⟨by decide +kernel, by decide +kernel, by decide +kernel⟩, by decide⟩
abbrev mX12_kindOf : MB := (yX12_kindOf, cX12_kindOf, 2, some .int)
theorem mwX12_kindOf : Cond.initialized mX12_kindOf.1.cls ∈ wA ∧ Cond.code mX12_kindOf.1 mX12_kindOf.2.1 mX12_kindOf.2.2.1 mX12_kindOf.2.2.2 ∈ wA ∧ (mX12_kindOf.1.cls ≠ "java/lang/invoke/MethodHandle" ∧ mX12_kindOf.1.cls ≠ "java/lang/invoke/VarHandle" ∧ (parseMethodDescriptor mX12_kindOf.1.desc).map (fun d => d.parameters.length) = some 1) ∧ mX12_kindOf.2.2.1 ≤ 15 := ⟨wA_t 13 (by decide +kernel) rfl, wA_t 1123 (by decide +kernel) rfl, ⟨by decide +kernel, by decide +kernel, by decide +kernel⟩, by decide⟩
abbrev mX12_as : MB := (yX12_as, cX12_as, 3, some .int)
theorem mwX12_as : Cond.initialized mX12_as.1.cls ∈ wA ∧ Cond.code mX12_as.1 mX12_as.2.1 mX12_as.2.2.1 mX12_as.2.2.2 ∈ wA ∧ (mX12_as.1.cls ≠ "java/lang/invoke/MethodHandle" ∧ mX12_as.1.cls ≠ "java/lang/invoke/VarHandle" ∧ (parseMethodDescriptor mX12_as.1.desc).map (fun d => d.parameters.length) = some 2) ∧ mX12_as.2.2.1 ≤ 15 := ⟨wA_t 13 (by decide +kernel) rfl, wA_t 1127 (by decide +kernel) rfl, ⟨by decide +kernel, by decide +kernel, by decide +kernel⟩, by decide⟩
abbrev mX12_isOf : MB := (yX12_isOf, cX12_isOf, 2, some .boolean)
theorem mwX12_isOf : Cond.initialized mX12_isOf.1.cls ∈ wA ∧ Cond.code mX12_isOf.1 mX12_isOf.2.1 mX12_isOf.2.2.1 mX12_isOf.2.2.2 ∈ wA ∧ (mX12_isOf.1.cls ≠ "java/lang/invoke/MethodHandle" ∧ mX12_isOf.1.cls ≠ "java/lang/invoke/VarHandle" ∧ (parseMethodDescriptor mX12_isOf.1.desc).map (fun d => d.parameters.length) = some 2) ∧ mX12_isOf.2.2.1 ≤ 15 := ⟨wA_t 13 (by decide +kernel) rfl, wA_t 1130 (by decide +kernel) rfl, ⟨by decide +kernel, by decide +kernel, by decide +kernel⟩, by decide⟩
abbrev mX12_ask : MB := (yX12_ask, cX12_ask, 4, some .int)
theorem mwX12_ask : Cond.initialized mX12_ask.1.cls ∈ wA ∧ Cond.code mX12_ask.1 mX12_ask.2.1 mX12_ask.2.2.1 mX12_ask.2.2.2 ∈ wA ∧ (mX12_ask.1.cls ≠ "java/lang/invoke/MethodHandle" ∧ mX12_ask.1.cls ≠ "java/lang/invoke/VarHandle" ∧ (parseMethodDescriptor mX12_ask.1.desc).map (fun d => d.parameters.length) = some 2) ∧ mX12_ask.2.2.1 ≤ 15 := ⟨wA_t 13 (by decide +kernel) rfl, wA_t 1134 (by decide +kernel) rfl, ⟨by decide +kernel, by decide +kernel, by decide +kernel⟩, by decide⟩
abbrev mX12_markOf : MB := (yX12_markOf, cX12_markOf, 4, some .int)
theorem mwX12_markOf : Cond.initialized mX12_markOf.1.cls ∈ wA ∧ Cond.code mX12_markOf.1 mX12_markOf.2.1 mX12_markOf.2.2.1 mX12_markOf.2.2.2 ∈ wA ∧ (mX12_markOf.1.cls ≠ "java/lang/invoke/MethodHandle" ∧ mX12_markOf.1.cls ≠ "java/lang/invoke/VarHandle" ∧ (parseMethodDescriptor mX12_markOf.1.desc).map (fun d => d.parameters.length) = some 2) ∧ mX12_markOf.2.2.1 ≤ 15 := ⟨wA_t 13 (by decide +kernel) rfl, wA_t 1138 (by decide +kernel) rfl, ⟨by decide +kernel, by decide +kernel, by decide +kernel⟩, by decide⟩
abbrev mX12_began : MB := (yX12_began, cX12_began, 2, none)
theorem mwX12_began : Cond.initialized mX12_began.1.cls ∈ wA ∧ Cond.code mX12_began.1 mX12_began.2.1 mX12_began.2.2.1 mX12_began.2.2.2 ∈ wA ∧ (mX12_began.1.cls ≠ "java/lang/invoke/MethodHandle" ∧ mX12_began.1.cls ≠ "java/lang/invoke/VarHandle" ∧ (parseMethodDescriptor mX12_began.1.desc).map (fun d => d.parameters.length) = some 1) ∧ mX12_began.2.2.1 ≤ 15 := ⟨wA_t 13 (by decide +kernel) rfl, wA_t 1142 (by decide +kernel) rfl, ⟨by decide +kernel, by decide +kernel, by decide +kernel⟩, by decide⟩
abbrev mX12_seenSize : MB := (yX12_seenSize, cX12_seenSize, 4, some .int)
theorem mwX12_seenSize : Cond.initialized mX12_seenSize.1.cls ∈ wA ∧ Cond.code mX12_seenSize.1 mX12_seenSize.2.1 mX12_seenSize.2.2.1 mX12_seenSize.2.2.2 ∈ wA ∧ (mX12_seenSize.1.cls ≠ "java/lang/invoke/MethodHandle" ∧ mX12_seenSize.1.cls ≠ "java/lang/invoke/VarHandle" ∧ (parseMethodDescriptor mX12_seenSize.1.desc).map (fun d => d.parameters.length) = some 2) ∧ mX12_seenSize.2.2.1 ≤ 15 := ⟨wA_t 13 (by decide +kernel) rfl, wA_t 1146 (by decide +kernel) rfl, ⟨by decide +kernel, by decide +kernel, by decide +kernel⟩, by decide⟩
abbrev mX12_trace : MB := (yX12_trace, cX12_trace, 2, some .int)
theorem mwX12_trace : Cond.initialized mX12_trace.1.cls ∈ wA ∧ Cond.code mX12_trace.1 mX12_trace.2.1 mX12_trace.2.2.1 mX12_trace.2.2.2 ∈ wA ∧ (mX12_trace.1.cls ≠ "java/lang/invoke/MethodHandle" ∧ mX12_trace.1.cls ≠ "java/lang/invoke/VarHandle" ∧ (parseMethodDescriptor mX12_trace.1.desc).map (fun d => d.parameters.length) = some 1) ∧ mX12_trace.2.2.1 ≤ 15 := ⟨wA_t 13 (by decide +kernel) rfl, wA_t 1150 (by decide +kernel) rfl, ⟨by decide +kernel, by decide +kernel, by decide +kernel⟩, by decide⟩
abbrev mX12_count : MB := (yX12_count, cX12_count, 6, some .int)
theorem mwX12_count : Cond.initialized mX12_count.1.cls ∈ wA ∧ Cond.code mX12_count.1 mX12_count.2.1 mX12_count.2.2.1 mX12_count.2.2.2 ∈ wA ∧ (mX12_count.1.cls ≠ "java/lang/invoke/MethodHandle" ∧ mX12_count.1.cls ≠ "java/lang/invoke/VarHandle" ∧ (parseMethodDescriptor mX12_count.1.desc).map (fun d => d.parameters.length) = some 1) ∧ mX12_count.2.2.1 ≤ 15 := ⟨wA_t 13 (by decide +kernel) rfl, wA_t 1154 (by decide +kernel) rfl, ⟨by decide +kernel, by decide +kernel, by decide +kernel⟩, by decide⟩
abbrev mX12_status : MB := (yX12_status, cX12_status, 1, some .int)
theorem mwX12_status : Cond.initialized mX12_status.1.cls ∈ wA ∧ Cond.code mX12_status.1 mX12_status.2.1 mX12_status.2.2.1 mX12_status.2.2.2 ∈ wA ∧ (mX12_status.1.cls ≠ "java/lang/invoke/MethodHandle" ∧ mX12_status.1.cls ≠ "java/lang/invoke/VarHandle" ∧ (parseMethodDescriptor mX12_status.1.desc).map (fun d => d.parameters.length) = some 0) ∧ mX12_status.2.2.1 ≤ 15 := ⟨wA_t 13 (by decide +kernel) rfl, wA_t 1158 (by decide +kernel) rfl, ⟨by decide +kernel, by decide +kernel, by decide +kernel⟩, by decide⟩
theorem lkL_9 : IL RL 9 mX11_init 0 := ⟨⟨Or.inl (wA_t 18 (by decide +kernel) rfl), mwX11_init⟩, wA_t 19 (by decide +kernel) rfl, rfl, rfl⟩
theorem lkL_13 : VL RL 13 mX11_sheet 3 11 := ⟨⟨Or.inl (wA_t 301 (by decide +kernel) rfl), mwX11_sheet⟩, wA_t 302 (by decide +kernel) rfl, wA_t 303 (by decide +kernel) rfl, by decide, rfl⟩
theorem lkX11_90 : SL RX11 90 mX11_isSheet 1 := ⟨⟨Or.inl (wA_t 305 (by decide +kernel) rfl), mwX11_isSheet⟩, wA_t 306 (by decide +kernel) rfl⟩
theorem lkX11_94 : SL RX11 94 mX11_within 3 := ⟨⟨Or.inl (wA_t 308 (by decide +kernel) rfl), mwX11_within⟩, wA_t 309 (by decide +kernel) rfl⟩
theorem lkX11_99 : VL RX11 99 mX11_found 1 11 := ⟨⟨Or.inl (wA_t 312 (by decide +kernel) rfl), mwX11_found⟩, wA_t 314 (by decide +kernel) rfl, wA_p 0 (by decide +kernel) rfl, by decide, rfl⟩
theorem lkX11_107 : VL RX11 107 mX11_clean 1 11 := ⟨⟨Or.inl (wA_t 321 (by decide +kernel) rfl), mwX11_clean⟩, wA_t 323 (by decide +kernel) rfl, wA_p 2 (by decide +kernel) rfl, by decide, rfl⟩
theorem lkL_18 : VL RL 18 mX11_set 3 11 := ⟨⟨Or.inl (wA_t 325 (by decide +kernel) rfl), mwX11_set⟩, wA_t 326 (by decide +kernel) rfl, wA_t 327 (by decide +kernel) rfl, by decide, rfl⟩
theorem lkL_22 : VL RL 22 mX11_copy 5 11 := ⟨⟨Or.inl (wA_t 341 (by decide +kernel) rfl), mwX11_copy⟩, wA_t 342 (by decide +kernel) rfl, wA_t 343 (by decide +kernel) rfl, by decide, rfl⟩
theorem lkL_27 : VL RL 27 mX11_drop 1 11 := ⟨⟨Or.inl (wA_t 348 (by decide +kernel) rfl), mwX11_drop⟩, wA_t 349 (by decide +kernel) rfl, wA_t 350 (by decide +kernel) rfl, by decide, rfl⟩
theorem lkL_32 : VL RL 32 mX11_room 2 11 := ⟨⟨Or.inl (wA_t 356 (by decide +kernel) rfl), mwX11_room⟩, wA_t 357 (by decide +kernel) rfl, wA_t 358 (by decide +kernel) rfl, by decide, rfl⟩
theorem lkL_37 : VL RL 37 mX11_bend 2 11 := ⟨⟨Or.inl (wA_t 364 (by decide +kernel) rfl), mwX11_bend⟩, wA_t 365 (by decide +kernel) rfl, wA_t 366 (by decide +kernel) rfl, by decide, rfl⟩
theorem lkL_41 : VL RL 41 mX11_told 1 11 := ⟨⟨Or.inl (wA_t 368 (by decide +kernel) rfl), mwX11_told⟩, wA_t 369 (by decide +kernel) rfl, wA_t 370 (by decide +kernel) rfl, by decide, rfl⟩
theorem lkL_45 : VL RL 45 mX11_thing 3 11 := ⟨⟨Or.inl (wA_t 372 (by decide +kernel) rfl), mwX11_thing⟩, wA_t 373 (by decide +kernel) rfl, wA_t 374 (by decide +kernel) rfl, by decide, rfl⟩
theorem lkX11_151 : SL RX11 151 mX11_isPlace 3 := ⟨⟨Or.inl (wA_t 376 (by decide +kernel) rfl), mwX11_isPlace⟩, wA_t 377 (by decide +kernel) rfl⟩
theorem lkX11_219 : SL RX11 219 mX11_isFlatPlace 1 := ⟨⟨Or.inl (wA_t 379 (by decide +kernel) rfl), mwX11_isFlatPlace⟩, wA_t 380 (by decide +kernel) rfl⟩
theorem lkL_49 : VL RL 49 mX11_move 4 11 := ⟨⟨Or.inl (wA_t 387 (by decide +kernel) rfl), mwX11_move⟩, wA_t 388 (by decide +kernel) rfl, wA_t 389 (by decide +kernel) rfl, by decide, rfl⟩
theorem lkX11_159 : VL RX11 159 mX11_isThing 1 11 := ⟨⟨Or.inl (wA_t 391 (by decide +kernel) rfl), mwX11_isThing⟩, wA_t 393 (by decide +kernel) rfl, wA_p 8 (by decide +kernel) rfl, by decide, rfl⟩
theorem lkL_54 : VL RL 54 mX11_picture 2 11 := ⟨⟨Or.inl (wA_t 395 (by decide +kernel) rfl), mwX11_picture⟩, wA_t 396 (by decide +kernel) rfl, wA_t 397 (by decide +kernel) rfl, by decide, rfl⟩
theorem lkX4_34 : SL RX4 34 mJ9_floorDiv_7cf53 2 := ⟨⟨Or.inl (wA_t 412 (by decide +kernel) rfl), mwJ9_floorDiv_7cf53⟩, wA_t 413 (by decide +kernel) rfl⟩
theorem lkX4_39 : SL RX4 39 mJ9_min_7cf53 2 := ⟨⟨Or.inl (wA_t 415 (by decide +kernel) rfl), mwJ9_min_7cf53⟩, wA_t 416 (by decide +kernel) rfl⟩
theorem lkX4_42 : SL RX4 42 mJ9_max_7cf53 2 := ⟨⟨Or.inl (wA_t 418 (by decide +kernel) rfl), mwJ9_max_7cf53⟩, wA_t 419 (by decide +kernel) rfl⟩
theorem lkX4_53 : SL RX4 53 mJ9_abs_0f7a4 1 := ⟨⟨Or.inl (wA_t 430 (by decide +kernel) rfl), mwJ9_abs_0f7a4⟩, wA_t 431 (by decide +kernel) rfl⟩
theorem lkL_58 : VL RL 58 mX11_focused 2 11 := ⟨⟨Or.inl (wA_t 433 (by decide +kernel) rfl), mwX11_focused⟩, wA_t 434 (by decide +kernel) rfl, wA_t 435 (by decide +kernel) rfl, by decide, rfl⟩
theorem lkX4_65 : VL RX4 65 mX4_blurAt 2 4 := ⟨⟨Or.inl (wA_t 441 (by decide +kernel) rfl), mwX4_blurAt⟩, wA_t 443 (by decide +kernel) rfl, wA_p 13 (by decide +kernel) rfl, by decide, rfl⟩
theorem lkX4_56 : SL RX4 56 mX4_columnAt 2 := ⟨⟨Or.inl (wA_t 445 (by decide +kernel) rfl), mwX4_columnAt⟩, wA_t 446 (by decide +kernel) rfl⟩
theorem lkX4_45 : SL RX4 45 mX4_firstAt 2 := ⟨⟨Or.inl (wA_t 448 (by decide +kernel) rfl), mwX4_firstAt⟩, wA_t 404 (by decide +kernel) rfl⟩
theorem lkX4_49 : SL RX4 49 mX4_columnOf 1 := ⟨⟨Or.inl (wA_t 449 (by decide +kernel) rfl), mwX4_columnOf⟩, wA_t 410 (by decide +kernel) rfl⟩
theorem lkX4_59 : VL RX4 59 mX4_reach 2 4 := ⟨⟨Or.inl (wA_t 450 (by decide +kernel) rfl), mwX4_reach⟩, wA_t 423 (by decide +kernel) rfl, wA_p 10 (by decide +kernel) rfl, by decide, rfl⟩
theorem lkX4_62 : VL RX4 62 mX4_blurBy 2 4 := ⟨⟨Or.inl (wA_t 451 (by decide +kernel) rfl), mwX4_blurBy⟩, wA_t 428 (by decide +kernel) rfl, wA_p 11 (by decide +kernel) rfl, by decide, rfl⟩
theorem lkL_62 : VL RL 62 mX11_bent 0 11 := ⟨⟨Or.inl (wA_t 453 (by decide +kernel) rfl), mwX11_bent⟩, wA_t 454 (by decide +kernel) rfl, wA_t 455 (by decide +kernel) rfl, by decide, rfl⟩
theorem lkL_67 : VL RL 67 mX11_mark 4 11 := ⟨⟨Or.inl (wA_t 474 (by decide +kernel) rfl), mwX11_mark⟩, wA_t 475 (by decide +kernel) rfl, wA_t 476 (by decide +kernel) rfl, by decide, rfl⟩
theorem lkX11_213 : SL RX11 213 mX11_isTrace 1 := ⟨⟨Or.inl (wA_t 478 (by decide +kernel) rfl), mwX11_isTrace⟩, wA_t 479 (by decide +kernel) rfl⟩
theorem lkX11_216 : SL RX11 216 mX11_isNumber 1 := ⟨⟨Or.inl (wA_t 481 (by decide +kernel) rfl), mwX11_isNumber⟩, wA_t 482 (by decide +kernel) rfl⟩
theorem lkL_71 : VL RL 71 mX11_rub 2 11 := ⟨⟨Or.inl (wA_t 488 (by decide +kernel) rfl), mwX11_rub⟩, wA_t 489 (by decide +kernel) rfl, wA_t 490 (by decide +kernel) rfl, by decide, rfl⟩
theorem lkL_75 : VL RL 75 mX11_draw 1 11 := ⟨⟨Or.inl (wA_t 492 (by decide +kernel) rfl), mwX11_draw⟩, wA_t 493 (by decide +kernel) rfl, wA_t 494 (by decide +kernel) rfl, by decide, rfl⟩
theorem lkL_79 : VL RL 79 mX11_marked 3 11 := ⟨⟨Or.inl (wA_t 509 (by decide +kernel) rfl), mwX11_marked⟩, wA_t 510 (by decide +kernel) rfl, wA_t 511 (by decide +kernel) rfl, by decide, rfl⟩
theorem lkL_83 : VL RL 83 mX11_joined 3 11 := ⟨⟨Or.inl (wA_t 514 (by decide +kernel) rfl), mwX11_joined⟩, wA_t 515 (by decide +kernel) rfl, wA_t 516 (by decide +kernel) rfl, by decide, rfl⟩
theorem lkX5_19 : VL RX5 19 mX5_middle 0 5 := ⟨⟨Or.inl (wA_t 538 (by decide +kernel) rfl), mwX5_middle⟩, wA_t 540 (by decide +kernel) rfl, wA_p 27 (by decide +kernel) rfl, by decide, rfl⟩
theorem lkX5_23 : SL RX5 23 mJ9_abs_0f7a4 1 := ⟨⟨Or.inl (wA_t 542 (by decide +kernel) rfl), mwJ9_abs_0f7a4⟩, wA_t 431 (by decide +kernel) rfl⟩
theorem lkL_87 : VL RL 87 mX11_round 2 11 := ⟨⟨Or.inl (wA_t 552 (by decide +kernel) rfl), mwX11_round⟩, wA_t 553 (by decide +kernel) rfl, wA_t 554 (by decide +kernel) rfl, by decide, rfl⟩
theorem lkL_91 : VL RL 91 mX11_around 3 11 := ⟨⟨Or.inl (wA_t 565 (by decide +kernel) rfl), mwX11_around⟩, wA_t 566 (by decide +kernel) rfl, wA_t 567 (by decide +kernel) rfl, by decide, rfl⟩
theorem lkX11_268 : SL RX11 268 mX11_closed 3 := ⟨⟨Or.inl (wA_t 569 (by decide +kernel) rfl), mwX11_closed⟩, wA_t 570 (by decide +kernel) rfl⟩
theorem lkX11_272 : SL RX11 272 mX11_by 2 := ⟨⟨Or.inl (wA_t 572 (by decide +kernel) rfl), mwX11_by⟩, wA_t 407 (by decide +kernel) rfl⟩
theorem lkL_95 : VL RL 95 mX11_stand 5 11 := ⟨⟨Or.inl (wA_t 573 (by decide +kernel) rfl), mwX11_stand⟩, wA_t 574 (by decide +kernel) rfl, wA_t 575 (by decide +kernel) rfl, by decide, rfl⟩
theorem lkX11_275 : SL RX11 275 mX11_isStand 4 := ⟨⟨Or.inl (wA_t 577 (by decide +kernel) rfl), mwX11_isStand⟩, wA_t 578 (by decide +kernel) rfl⟩
theorem lkL_99 : VL RL 99 mX11_far 3 11 := ⟨⟨Or.inl (wA_t 584 (by decide +kernel) rfl), mwX11_far⟩, wA_t 585 (by decide +kernel) rfl, wA_t 586 (by decide +kernel) rfl, by decide, rfl⟩
theorem lkX7_28 : SL RX7 28 mJ9_max_7cf53 2 := ⟨⟨Or.inl (wA_t 593 (by decide +kernel) rfl), mwJ9_max_7cf53⟩, wA_t 419 (by decide +kernel) rfl⟩
theorem lkL_104 : VL RL 104 mX11_high 3 11 := ⟨⟨Or.inl (wA_t 595 (by decide +kernel) rfl), mwX11_high⟩, wA_t 596 (by decide +kernel) rfl, wA_t 597 (by decide +kernel) rfl, by decide, rfl⟩
theorem lkL_108 : VL RL 108 mX11_span 4 11 := ⟨⟨Or.inl (wA_t 606 (by decide +kernel) rfl), mwX11_span⟩, wA_t 607 (by decide +kernel) rfl, wA_t 608 (by decide +kernel) rfl, by decide, rfl⟩
theorem lkX11_300 : SL RX11 300 mX11_by_ 2 := ⟨⟨Or.inl (wA_t 610 (by decide +kernel) rfl), mwX11_by_⟩, wA_t 604 (by decide +kernel) rfl⟩
theorem lkX11_303 : SL RX11 303 mJ9_min_f86c9 2 := ⟨⟨Or.inl (wA_t 611 (by decide +kernel) rfl), mwJ9_min_f86c9⟩, wA_t 612 (by decide +kernel) rfl⟩
theorem lkX11_308 : SL RX11 308 mJ9_max_f86c9 2 := ⟨⟨Or.inl (wA_t 614 (by decide +kernel) rfl), mwJ9_max_f86c9⟩, wA_t 615 (by decide +kernel) rfl⟩
theorem lkL_113 : VL RL 113 mX11_studio 7 11 := ⟨⟨Or.inl (wA_t 617 (by decide +kernel) rfl), mwX11_studio⟩, wA_t 618 (by decide +kernel) rfl, wA_t 619 (by decide +kernel) rfl, by decide, rfl⟩
theorem lkX11_311 : SL RX11 311 mX11_areStudiosTold 4 := ⟨⟨Or.inl (wA_t 621 (by decide +kernel) rfl), mwX11_areStudiosTold⟩, wA_t 622 (by decide +kernel) rfl⟩
theorem lkX11_314 : VL RX11 314 mX11_studiosRefusal 3 11 := ⟨⟨Or.inl (wA_t 624 (by decide +kernel) rfl), mwX11_studiosRefusal⟩, wA_t 626 (by decide +kernel) rfl, wA_p 34 (by decide +kernel) rfl, by decide, rfl⟩
theorem lkX11_380 : VL RX11 380 mX11_areStudios 3 11 := ⟨⟨Or.inl (wA_t 628 (by decide +kernel) rfl), mwX11_areStudios⟩, wA_t 630 (by decide +kernel) rfl, wA_p 35 (by decide +kernel) rfl, by decide, rfl⟩
theorem lkX11_318 : VL RX11 318 mX11_readStudio 3 11 := ⟨⟨Or.inl (wA_t 632 (by decide +kernel) rfl), mwX11_readStudio⟩, wA_t 634 (by decide +kernel) rfl, wA_p 36 (by decide +kernel) rfl, by decide, rfl⟩
theorem lkX11_321 : VL RX11 321 mX11_painterMisfit 1 11 := ⟨⟨Or.inl (wA_t 636 (by decide +kernel) rfl), mwX11_painterMisfit⟩, wA_t 638 (by decide +kernel) rfl, wA_p 37 (by decide +kernel) rfl, by decide, rfl⟩
theorem lkX11_399 : VL RX11 399 mX11_painterApart 2 11 := ⟨⟨Or.inl (wA_t 644 (by decide +kernel) rfl), mwX11_painterApart⟩, wA_t 646 (by decide +kernel) rfl, wA_p 39 (by decide +kernel) rfl, by decide, rfl⟩
theorem lkX11_405 : SL RX11 405 mJ9_abs_0f7a4 1 := ⟨⟨Or.inl (wA_t 653 (by decide +kernel) rfl), mwJ9_abs_0f7a4⟩, wA_t 431 (by decide +kernel) rfl⟩
theorem lkX11_410 : SL RX11 410 mJ9_min_7cf53 2 := ⟨⟨Or.inl (wA_t 658 (by decide +kernel) rfl), mwJ9_min_7cf53⟩, wA_t 416 (by decide +kernel) rfl⟩
theorem lkX11_325 : VL RX11 325 mX11_hasPainterMade 2 11 := ⟨⟨Or.inl (wA_t 659 (by decide +kernel) rfl), mwX11_hasPainterMade⟩, wA_t 661 (by decide +kernel) rfl, wA_p 42 (by decide +kernel) rfl, by decide, rfl⟩
theorem lkX11_412 : VL RX11 412 mX11_isPainterNear 3 11 := ⟨⟨Or.inl (wA_t 663 (by decide +kernel) rfl), mwX11_isPainterNear⟩, wA_t 665 (by decide +kernel) rfl, wA_p 43 (by decide +kernel) rfl, by decide, rfl⟩
theorem lkL_118 : VL RL 118 mX11_studios 6 11 := ⟨⟨Or.inl (wA_t 667 (by decide +kernel) rfl), mwX11_studios⟩, wA_t 668 (by decide +kernel) rfl, wA_t 669 (by decide +kernel) rfl, by decide, rfl⟩
theorem lkX11_329 : VL RX11 329 mX11_bestStudio 4 11 := ⟨⟨Or.inl (wA_t 671 (by decide +kernel) rfl), mwX11_bestStudio⟩, wA_t 673 (by decide +kernel) rfl, wA_p 44 (by decide +kernel) rfl, by decide, rfl⟩
theorem lkX11_333 : VL RX11 333 mX11_studiosThatMade 5 11 := ⟨⟨Or.inl (wA_t 675 (by decide +kernel) rfl), mwX11_studiosThatMade⟩, wA_t 677 (by decide +kernel) rfl, wA_p 45 (by decide +kernel) rfl, by decide, rfl⟩
theorem lkX11_337 : VL RX11 337 mX11_marksOfNoStudio 5 11 := ⟨⟨Or.inl (wA_t 679 (by decide +kernel) rfl), mwX11_marksOfNoStudio⟩, wA_t 681 (by decide +kernel) rfl, wA_p 46 (by decide +kernel) rfl, by decide, rfl⟩
theorem lkL_123 : VL RL 123 mX11_spot 4 11 := ⟨⟨Or.inl (wA_t 683 (by decide +kernel) rfl), mwX11_spot⟩, wA_t 684 (by decide +kernel) rfl, wA_t 685 (by decide +kernel) rfl, by decide, rfl⟩
theorem lkX11_340 : SL RX11 340 mX11_spotAside 2 := ⟨⟨Or.inl (wA_t 687 (by decide +kernel) rfl), mwX11_spotAside⟩, wA_t 688 (by decide +kernel) rfl⟩
theorem lkX11_343 : SL RX11 343 mX11_noonOf 1 := ⟨⟨Or.inl (wA_t 690 (by decide +kernel) rfl), mwX11_noonOf⟩, wA_t 691 (by decide +kernel) rfl⟩
theorem lkX11_346 : SL RX11 346 mX11_spotAhead 3 := ⟨⟨Or.inl (wA_t 693 (by decide +kernel) rfl), mwX11_spotAhead⟩, wA_t 694 (by decide +kernel) rfl⟩
theorem lkL_127 : VL RL 127 mX11_days 4 11 := ⟨⟨Or.inl (wA_t 696 (by decide +kernel) rfl), mwX11_days⟩, wA_t 697 (by decide +kernel) rfl, wA_t 698 (by decide +kernel) rfl, by decide, rfl⟩
theorem lkL_131 : VL RL 131 mX11_kind 1 11 := ⟨⟨Or.inl (wA_t 700 (by decide +kernel) rfl), mwX11_kind⟩, wA_t 701 (by decide +kernel) rfl, wA_t 702 (by decide +kernel) rfl, by decide, rfl⟩
theorem lkX11_349 : VL RX11 349 mX11_kindOf 1 11 := ⟨⟨Or.inl (wA_t 704 (by decide +kernel) rfl), mwX11_kindOf⟩, wA_t 706 (by decide +kernel) rfl, wA_p 47 (by decide +kernel) rfl, by decide, rfl⟩
theorem lkL_135 : VL RL 135 mX11_as 2 11 := ⟨⟨Or.inl (wA_t 708 (by decide +kernel) rfl), mwX11_as⟩, wA_t 709 (by decide +kernel) rfl, wA_t 710 (by decide +kernel) rfl, by decide, rfl⟩
theorem lkL_139 : VL RL 139 mX11_ask 2 11 := ⟨⟨Or.inl (wA_t 712 (by decide +kernel) rfl), mwX11_ask⟩, wA_t 713 (by decide +kernel) rfl, wA_t 714 (by decide +kernel) rfl, by decide, rfl⟩
theorem lkX0_28 : VL RX0 28 mX0_sizeOfSeen 0 0 := ⟨⟨Or.inl (wA_t 724 (by decide +kernel) rfl), mwX0_sizeOfSeen⟩, wA_t 726 (by decide +kernel) rfl, wA_p 50 (by decide +kernel) rfl, by decide, rfl⟩
theorem lkX0_53 : VL RX0 53 mX0_begin 1 0 := ⟨⟨Or.inl (wA_t 728 (by decide +kernel) rfl), mwX0_begin⟩, wA_t 730 (by decide +kernel) rfl, wA_p 51 (by decide +kernel) rfl, by decide, rfl⟩
theorem lkX0_38 : VL RX0 38 mX0_sizeLent 0 0 := ⟨⟨Or.inl (wA_t 732 (by decide +kernel) rfl), mwX0_sizeLent⟩, wA_t 734 (by decide +kernel) rfl, wA_p 52 (by decide +kernel) rfl, by decide, rfl⟩
theorem lkX0_32 : VL RX0 32 mX0_sizeOfSharp 0 0 := ⟨⟨Or.inl (wA_t 736 (by decide +kernel) rfl), mwX0_sizeOfSharp⟩, wA_t 738 (by decide +kernel) rfl, wA_p 53 (by decide +kernel) rfl, by decide, rfl⟩
theorem lkX0_35 : VL RX0 35 mX0_sizeOfLost 0 0 := ⟨⟨Or.inl (wA_t 740 (by decide +kernel) rfl), mwX0_sizeOfLost⟩, wA_t 742 (by decide +kernel) rfl, wA_p 54 (by decide +kernel) rfl, by decide, rfl⟩
theorem lkX0_47 : VL RX0 47 mX0_signOfLost 0 0 := ⟨⟨Or.inl (wA_t 744 (by decide +kernel) rfl), mwX0_signOfLost⟩, wA_t 746 (by decide +kernel) rfl, wA_p 55 (by decide +kernel) rfl, by decide, rfl⟩
theorem lkX0_50 : VL RX0 50 mX0_signLent 0 0 := ⟨⟨Or.inl (wA_t 748 (by decide +kernel) rfl), mwX0_signLent⟩, wA_t 750 (by decide +kernel) rfl, wA_p 56 (by decide +kernel) rfl, by decide, rfl⟩
theorem lkX0_41 : VL RX0 41 mX0_signOfSeen 0 0 := ⟨⟨Or.inl (wA_t 756 (by decide +kernel) rfl), mwX0_signOfSeen⟩, wA_t 758 (by decide +kernel) rfl, wA_p 58 (by decide +kernel) rfl, by decide, rfl⟩
theorem lkX0_44 : VL RX0 44 mX0_signOfSharp 0 0 := ⟨⟨Or.inl (wA_t 760 (by decide +kernel) rfl), mwX0_signOfSharp⟩, wA_t 762 (by decide +kernel) rfl, wA_p 59 (by decide +kernel) rfl, by decide, rfl⟩
theorem lkL_143 : VL RL 143 mX11_trace 1 11 := ⟨⟨Or.inl (wA_t 764 (by decide +kernel) rfl), mwX11_trace⟩, wA_t 765 (by decide +kernel) rfl, wA_t 766 (by decide +kernel) rfl, by decide, rfl⟩
theorem lkL_147 : VL RL 147 mX11_count 1 11 := ⟨⟨Or.inl (wA_t 768 (by decide +kernel) rfl), mwX11_count⟩, wA_t 769 (by decide +kernel) rfl, wA_t 770 (by decide +kernel) rfl, by decide, rfl⟩
theorem lkX11_367 : VL RX11 367 mX11_sheetsLaid 0 11 := ⟨⟨Or.inl (wA_t 772 (by decide +kernel) rfl), mwX11_sheetsLaid⟩, wA_t 774 (by decide +kernel) rfl, wA_p 60 (by decide +kernel) rfl, by decide, rfl⟩
theorem lkX11_370 : VL RX11 370 mX11_thingsToldAs 1 11 := ⟨⟨Or.inl (wA_t 776 (by decide +kernel) rfl), mwX11_thingsToldAs⟩, wA_t 778 (by decide +kernel) rfl, wA_p 61 (by decide +kernel) rfl, by decide, rfl⟩
theorem lkX11_373 : VL RX11 373 mX11_marksOnPaper 0 11 := ⟨⟨Or.inl (wA_t 780 (by decide +kernel) rfl), mwX11_marksOnPaper⟩, wA_t 782 (by decide +kernel) rfl, wA_p 62 (by decide +kernel) rfl, by decide, rfl⟩
theorem lkX11_376 : VL RX11 376 mX11_tracesMarked 0 11 := ⟨⟨Or.inl (wA_t 784 (by decide +kernel) rfl), mwX11_tracesMarked⟩, wA_t 786 (by decide +kernel) rfl, wA_p 63 (by decide +kernel) rfl, by decide, rfl⟩
theorem lkL_151 : VL RL 151 mX11_status 0 11 := ⟨⟨Or.inl (wA_t 788 (by decide +kernel) rfl), mwX11_status⟩, wA_t 789 (by decide +kernel) rfl, wA_t 790 (by decide +kernel) rfl, by decide, rfl⟩
theorem lkL_12 : IL RL 12 mX12_init 0 := ⟨⟨Or.inl (wA_t 794 (by decide +kernel) rfl), mwX12_init⟩, wA_t 795 (by decide +kernel) rfl, rfl, rfl⟩
theorem lkL_17 : VL RL 17 mX12_sheet 3 12 := ⟨⟨Or.inl (wA_t 886 (by decide +kernel) rfl), mwX12_sheet⟩, wA_t 887 (by decide +kernel) rfl, wA_t 888 (by decide +kernel) rfl, by decide, rfl⟩
theorem lkX12_73 : SL RX12 73 mX12_isSheet 1 := ⟨⟨Or.inl (wA_t 890 (by decide +kernel) rfl), mwX12_isSheet⟩, wA_t 891 (by decide +kernel) rfl⟩
theorem lkX12_69 : SL RX12 69 mX12_in 3 := ⟨⟨Or.inl (wA_t 894 (by decide +kernel) rfl), mwX12_in⟩, wA_t 895 (by decide +kernel) rfl⟩
theorem lkX12_80 : VL RX12 80 mX12_found 1 12 := ⟨⟨Or.inl (wA_t 899 (by decide +kernel) rfl), mwX12_found⟩, wA_t 901 (by decide +kernel) rfl, wA_p 64 (by decide +kernel) rfl, by decide, rfl⟩
theorem lkL_21 : VL RL 21 mX12_set 3 12 := ⟨⟨Or.inl (wA_t 904 (by decide +kernel) rfl), mwX12_set⟩, wA_t 905 (by decide +kernel) rfl, wA_t 906 (by decide +kernel) rfl, by decide, rfl⟩
theorem lkL_26 : VL RL 26 mX12_copy 5 12 := ⟨⟨Or.inl (wA_t 908 (by decide +kernel) rfl), mwX12_copy⟩, wA_t 909 (by decide +kernel) rfl, wA_t 910 (by decide +kernel) rfl, by decide, rfl⟩
theorem lkL_31 : VL RL 31 mX12_drop 1 12 := ⟨⟨Or.inl (wA_t 912 (by decide +kernel) rfl), mwX12_drop⟩, wA_t 913 (by decide +kernel) rfl, wA_t 914 (by decide +kernel) rfl, by decide, rfl⟩
theorem lkL_36 : VL RL 36 mX12_room 2 12 := ⟨⟨Or.inl (wA_t 916 (by decide +kernel) rfl), mwX12_room⟩, wA_t 917 (by decide +kernel) rfl, wA_t 918 (by decide +kernel) rfl, by decide, rfl⟩
theorem lkL_40 : VL RL 40 mX12_bend 2 12 := ⟨⟨Or.inl (wA_t 921 (by decide +kernel) rfl), mwX12_bend⟩, wA_t 922 (by decide +kernel) rfl, wA_t 923 (by decide +kernel) rfl, by decide, rfl⟩
theorem lkL_44 : VL RL 44 mX12_told 1 12 := ⟨⟨Or.inl (wA_t 929 (by decide +kernel) rfl), mwX12_told⟩, wA_t 930 (by decide +kernel) rfl, wA_t 931 (by decide +kernel) rfl, by decide, rfl⟩
theorem lkL_48 : VL RL 48 mX12_thing 3 12 := ⟨⟨Or.inl (wA_t 934 (by decide +kernel) rfl), mwX12_thing⟩, wA_t 935 (by decide +kernel) rfl, wA_t 936 (by decide +kernel) rfl, by decide, rfl⟩
theorem lkX12_105 : SL RX12 105 mX12_isPlace 3 := ⟨⟨Or.inl (wA_t 938 (by decide +kernel) rfl), mwX12_isPlace⟩, wA_t 939 (by decide +kernel) rfl⟩
theorem lkL_53 : VL RL 53 mX12_move 4 12 := ⟨⟨Or.inl (wA_t 945 (by decide +kernel) rfl), mwX12_move⟩, wA_t 946 (by decide +kernel) rfl, wA_t 947 (by decide +kernel) rfl, by decide, rfl⟩
theorem lkX12_110 : VL RX12 110 mX12_isThing 1 12 := ⟨⟨Or.inl (wA_t 949 (by decide +kernel) rfl), mwX12_isThing⟩, wA_t 951 (by decide +kernel) rfl, wA_p 65 (by decide +kernel) rfl, by decide, rfl⟩
theorem lkL_57 : VL RL 57 mX12_picture 2 12 := ⟨⟨Or.inl (wA_t 953 (by decide +kernel) rfl), mwX12_picture⟩, wA_t 954 (by decide +kernel) rfl, wA_t 955 (by decide +kernel) rfl, by decide, rfl⟩
theorem lkX12_113 : VL RX12 113 mX12_firstOf 2 12 := ⟨⟨Or.inl (wA_t 957 (by decide +kernel) rfl), mwX12_firstOf⟩, wA_t 959 (by decide +kernel) rfl, wA_p 66 (by decide +kernel) rfl, by decide, rfl⟩
theorem lkX12_117 : VL RX12 117 mX12_columnOf 2 12 := ⟨⟨Or.inl (wA_t 961 (by decide +kernel) rfl), mwX12_columnOf⟩, wA_t 963 (by decide +kernel) rfl, wA_p 67 (by decide +kernel) rfl, by decide, rfl⟩
theorem lkX12_120 : VL RX12 120 mX12_farBy 2 12 := ⟨⟨Or.inl (wA_t 965 (by decide +kernel) rfl), mwX12_farBy⟩, wA_t 967 (by decide +kernel) rfl, wA_p 68 (by decide +kernel) rfl, by decide, rfl⟩
theorem lkX12_129 : VL RX12 129 mX12_acrossOf 1 12 := ⟨⟨Or.inl (wA_t 969 (by decide +kernel) rfl), mwX12_acrossOf⟩, wA_t 971 (by decide +kernel) rfl, wA_p 69 (by decide +kernel) rfl, by decide, rfl⟩
theorem lkX12_132 : VL RX12 132 mX12_downOf 1 12 := ⟨⟨Or.inl (wA_t 973 (by decide +kernel) rfl), mwX12_downOf⟩, wA_t 975 (by decide +kernel) rfl, wA_p 70 (by decide +kernel) rfl, by decide, rfl⟩
theorem lkX12_135 : VL RX12 135 mX12_blurOf 1 12 := ⟨⟨Or.inl (wA_t 977 (by decide +kernel) rfl), mwX12_blurOf⟩, wA_t 979 (by decide +kernel) rfl, wA_p 71 (by decide +kernel) rfl, by decide, rfl⟩
theorem lkX12_126 : VL RX12 126 mX12_blurBy 2 12 := ⟨⟨Or.inl (wA_t 981 (by decide +kernel) rfl), mwX12_blurBy⟩, wA_t 983 (by decide +kernel) rfl, wA_p 72 (by decide +kernel) rfl, by decide, rfl⟩
theorem lkX12_123 : SL RX12 123 mX12_size 1 := ⟨⟨Or.inl (wA_t 985 (by decide +kernel) rfl), mwX12_size⟩, wA_t 986 (by decide +kernel) rfl⟩
theorem lkL_61 : VL RL 61 mX12_focused 2 12 := ⟨⟨Or.inl (wA_t 988 (by decide +kernel) rfl), mwX12_focused⟩, wA_t 989 (by decide +kernel) rfl, wA_t 990 (by decide +kernel) rfl, by decide, rfl⟩
theorem lkL_66 : VL RL 66 mX12_bent 0 12 := ⟨⟨Or.inl (wA_t 992 (by decide +kernel) rfl), mwX12_bent⟩, wA_t 993 (by decide +kernel) rfl, wA_t 994 (by decide +kernel) rfl, by decide, rfl⟩
theorem lkL_70 : VL RL 70 mX12_mark 4 12 := ⟨⟨Or.inl (wA_t 997 (by decide +kernel) rfl), mwX12_mark⟩, wA_t 998 (by decide +kernel) rfl, wA_t 999 (by decide +kernel) rfl, by decide, rfl⟩
theorem lkX12_140 : SL RX12 140 mX12_isTrace 1 := ⟨⟨Or.inl (wA_t 1001 (by decide +kernel) rfl), mwX12_isTrace⟩, wA_t 1002 (by decide +kernel) rfl⟩
theorem lkX12_143 : SL RX12 143 mX12_isNumber 1 := ⟨⟨Or.inl (wA_t 1004 (by decide +kernel) rfl), mwX12_isNumber⟩, wA_t 1005 (by decide +kernel) rfl⟩
theorem lkL_74 : VL RL 74 mX12_rub 2 12 := ⟨⟨Or.inl (wA_t 1007 (by decide +kernel) rfl), mwX12_rub⟩, wA_t 1008 (by decide +kernel) rfl, wA_t 1009 (by decide +kernel) rfl, by decide, rfl⟩
theorem lkL_78 : VL RL 78 mX12_draw 1 12 := ⟨⟨Or.inl (wA_t 1011 (by decide +kernel) rfl), mwX12_draw⟩, wA_t 1012 (by decide +kernel) rfl, wA_t 1013 (by decide +kernel) rfl, by decide, rfl⟩
theorem lkX12_146 : VL RX12 146 mX12_isSeen 1 12 := ⟨⟨Or.inl (wA_t 1015 (by decide +kernel) rfl), mwX12_isSeen⟩, wA_t 1017 (by decide +kernel) rfl, wA_p 73 (by decide +kernel) rfl, by decide, rfl⟩
theorem lkL_82 : VL RL 82 mX12_marked 3 12 := ⟨⟨Or.inl (wA_t 1019 (by decide +kernel) rfl), mwX12_marked⟩, wA_t 1020 (by decide +kernel) rfl, wA_t 1021 (by decide +kernel) rfl, by decide, rfl⟩
theorem lkL_86 : VL RL 86 mX12_joined 3 12 := ⟨⟨Or.inl (wA_t 1024 (by decide +kernel) rfl), mwX12_joined⟩, wA_t 1025 (by decide +kernel) rfl, wA_t 1026 (by decide +kernel) rfl, by decide, rfl⟩
theorem lkX12_171 : VL RX12 171 mX12_join 2 12 := ⟨⟨Or.inl (wA_t 1029 (by decide +kernel) rfl), mwX12_join⟩, wA_t 1031 (by decide +kernel) rfl, wA_p 74 (by decide +kernel) rfl, by decide, rfl⟩
theorem lkX12_156 : VL RX12 156 mX12_middle 0 12 := ⟨⟨Or.inl (wA_t 1033 (by decide +kernel) rfl), mwX12_middle⟩, wA_t 1035 (by decide +kernel) rfl, wA_p 75 (by decide +kernel) rfl, by decide, rfl⟩
theorem lkX12_160 : VL RX12 160 mX12_sumFrom 1 12 := ⟨⟨Or.inl (wA_t 1037 (by decide +kernel) rfl), mwX12_sumFrom⟩, wA_t 1039 (by decide +kernel) rfl, wA_p 76 (by decide +kernel) rfl, by decide, rfl⟩
theorem lkL_90 : VL RL 90 mX12_round 2 12 := ⟨⟨Or.inl (wA_t 1041 (by decide +kernel) rfl), mwX12_round⟩, wA_t 1042 (by decide +kernel) rfl, wA_t 1043 (by decide +kernel) rfl, by decide, rfl⟩
theorem lkX12_178 : VL RX12 178 mX12_goRound 1 12 := ⟨⟨Or.inl (wA_t 1045 (by decide +kernel) rfl), mwX12_goRound⟩, wA_t 1047 (by decide +kernel) rfl, wA_p 77 (by decide +kernel) rfl, by decide, rfl⟩
theorem lkL_94 : VL RL 94 mX12_around 3 12 := ⟨⟨Or.inl (wA_t 1049 (by decide +kernel) rfl), mwX12_around⟩, wA_t 1050 (by decide +kernel) rfl, wA_t 1051 (by decide +kernel) rfl, by decide, rfl⟩
theorem lkL_98 : VL RL 98 mX12_stand 5 12 := ⟨⟨Or.inl (wA_t 1053 (by decide +kernel) rfl), mwX12_stand⟩, wA_t 1054 (by decide +kernel) rfl, wA_t 1055 (by decide +kernel) rfl, by decide, rfl⟩
theorem lkL_103 : VL RL 103 mX12_far 3 12 := ⟨⟨Or.inl (wA_t 1057 (by decide +kernel) rfl), mwX12_far⟩, wA_t 1058 (by decide +kernel) rfl, wA_t 1059 (by decide +kernel) rfl, by decide, rfl⟩
theorem lkX12_188 : SL RX12 188 mX12_isSight 1 := ⟨⟨Or.inl (wA_t 1061 (by decide +kernel) rfl), mwX12_isSight⟩, wA_t 1062 (by decide +kernel) rfl⟩
theorem lkX12_193 : VL RX12 193 mX12_see 2 12 := ⟨⟨Or.inl (wA_t 1065 (by decide +kernel) rfl), mwX12_see⟩, wA_t 1067 (by decide +kernel) rfl, wA_p 78 (by decide +kernel) rfl, by decide, rfl⟩
theorem lkL_107 : VL RL 107 mX12_high 3 12 := ⟨⟨Or.inl (wA_t 1070 (by decide +kernel) rfl), mwX12_high⟩, wA_t 1071 (by decide +kernel) rfl, wA_t 1072 (by decide +kernel) rfl, by decide, rfl⟩
theorem lkL_112 : VL RL 112 mX12_span 4 12 := ⟨⟨Or.inl (wA_t 1074 (by decide +kernel) rfl), mwX12_span⟩, wA_t 1075 (by decide +kernel) rfl, wA_t 1076 (by decide +kernel) rfl, by decide, rfl⟩
theorem lkL_117 : VL RL 117 mX12_studio 7 12 := ⟨⟨Or.inl (wA_t 1079 (by decide +kernel) rfl), mwX12_studio⟩, wA_t 1080 (by decide +kernel) rfl, wA_t 1081 (by decide +kernel) rfl, by decide, rfl⟩
theorem lkX12_210 : VL RX12 210 mX12_lookStudios 4 12 := ⟨⟨Or.inl (wA_t 1083 (by decide +kernel) rfl), mwX12_lookStudios⟩, wA_t 1085 (by decide +kernel) rfl, wA_p 79 (by decide +kernel) rfl, by decide, rfl⟩
theorem lkX12_214 : VL RX12 214 mX12_misfitOf 2 12 := ⟨⟨Or.inl (wA_t 1087 (by decide +kernel) rfl), mwX12_misfitOf⟩, wA_t 1089 (by decide +kernel) rfl, wA_p 80 (by decide +kernel) rfl, by decide, rfl⟩
theorem lkX12_207 : VL RX12 207 mX12_puts 3 12 := ⟨⟨Or.inl (wA_t 1091 (by decide +kernel) rfl), mwX12_puts⟩, wA_t 1093 (by decide +kernel) rfl, wA_p 81 (by decide +kernel) rfl, by decide, rfl⟩
theorem lkX12_217 : VL RX12 217 mX12_isMade 3 12 := ⟨⟨Or.inl (wA_t 1095 (by decide +kernel) rfl), mwX12_isMade⟩, wA_t 1097 (by decide +kernel) rfl, wA_p 82 (by decide +kernel) rfl, by decide, rfl⟩
theorem lkL_122 : VL RL 122 mX12_studios 6 12 := ⟨⟨Or.inl (wA_t 1099 (by decide +kernel) rfl), mwX12_studios⟩, wA_t 1100 (by decide +kernel) rfl, wA_t 1101 (by decide +kernel) rfl, by decide, rfl⟩
theorem lkL_126 : VL RL 126 mX12_spot 4 12 := ⟨⟨Or.inl (wA_t 1103 (by decide +kernel) rfl), mwX12_spot⟩, wA_t 1104 (by decide +kernel) rfl, wA_t 1105 (by decide +kernel) rfl, by decide, rfl⟩
theorem lkX12_224 : SL RX12 224 mX12_spotOf 4 := ⟨⟨Or.inl (wA_t 1109 (by decide +kernel) rfl), mwX12_spotOf⟩, wA_t 1110 (by decide +kernel) rfl⟩
theorem lkL_130 : VL RL 130 mX12_days 4 12 := ⟨⟨Or.inl (wA_t 1112 (by decide +kernel) rfl), mwX12_days⟩, wA_t 1113 (by decide +kernel) rfl, wA_t 1114 (by decide +kernel) rfl, by decide, rfl⟩
theorem lkL_134 : VL RL 134 mX12_kind 1 12 := ⟨⟨Or.inl (wA_t 1116 (by decide +kernel) rfl), mwX12_kind⟩, wA_t 1117 (by decide +kernel) rfl, wA_t 1118 (by decide +kernel) rfl, by decide, rfl⟩
theorem lkX12_227 : VL RX12 227 mX12_kindOf 1 12 := ⟨⟨Or.inl (wA_t 1120 (by decide +kernel) rfl), mwX12_kindOf⟩, wA_t 1122 (by decide +kernel) rfl, wA_p 83 (by decide +kernel) rfl, by decide, rfl⟩
theorem lkL_138 : VL RL 138 mX12_as 2 12 := ⟨⟨Or.inl (wA_t 1124 (by decide +kernel) rfl), mwX12_as⟩, wA_t 1125 (by decide +kernel) rfl, wA_t 1126 (by decide +kernel) rfl, by decide, rfl⟩
theorem lkX12_230 : SL RX12 230 mX12_isOf 2 := ⟨⟨Or.inl (wA_t 1128 (by decide +kernel) rfl), mwX12_isOf⟩, wA_t 1129 (by decide +kernel) rfl⟩
theorem lkL_142 : VL RL 142 mX12_ask 2 12 := ⟨⟨Or.inl (wA_t 1131 (by decide +kernel) rfl), mwX12_ask⟩, wA_t 1132 (by decide +kernel) rfl, wA_t 1133 (by decide +kernel) rfl, by decide, rfl⟩
theorem lkX12_243 : VL RX12 243 mX12_markOf 2 12 := ⟨⟨Or.inl (wA_t 1135 (by decide +kernel) rfl), mwX12_markOf⟩, wA_t 1137 (by decide +kernel) rfl, wA_p 84 (by decide +kernel) rfl, by decide, rfl⟩
theorem lkX12_236 : VL RX12 236 mX12_began 1 12 := ⟨⟨Or.inl (wA_t 1139 (by decide +kernel) rfl), mwX12_began⟩, wA_t 1141 (by decide +kernel) rfl, wA_p 85 (by decide +kernel) rfl, by decide, rfl⟩
theorem lkX12_240 : VL RX12 240 mX12_seenSize 2 12 := ⟨⟨Or.inl (wA_t 1143 (by decide +kernel) rfl), mwX12_seenSize⟩, wA_t 1145 (by decide +kernel) rfl, wA_p 86 (by decide +kernel) rfl, by decide, rfl⟩
theorem lkL_146 : VL RL 146 mX12_trace 1 12 := ⟨⟨Or.inl (wA_t 1147 (by decide +kernel) rfl), mwX12_trace⟩, wA_t 1148 (by decide +kernel) rfl, wA_t 1149 (by decide +kernel) rfl, by decide, rfl⟩
theorem lkL_150 : VL RL 150 mX12_count 1 12 := ⟨⟨Or.inl (wA_t 1151 (by decide +kernel) rfl), mwX12_count⟩, wA_t 1152 (by decide +kernel) rfl, wA_t 1153 (by decide +kernel) rfl, by decide, rfl⟩
theorem lkL_154 : VL RL 154 mX12_status 0 12 := ⟨⟨Or.inl (wA_t 1155 (by decide +kernel) rfl), mwX12_status⟩, wA_t 1156 (by decide +kernel) rfl, wA_t 1157 (by decide +kernel) rfl, by decide, rfl⟩
theorem lkX11_17 : IL RX11 17 mX4_init 0 := ⟨⟨Or.inr ⟨"LensTable", wN_t 28 (by decide +kernel) rfl⟩, mwX4_init⟩, wA_t 29 (by decide +kernel) rfl, rfl, rfl⟩
theorem lkX11_34 : IL RX11 34 mX2_init 0 := ⟨⟨Or.inr ⟨"LensTable", wN_t 50 (by decide +kernel) rfl⟩, mwX2_init⟩, wA_t 51 (by decide +kernel) rfl, rfl, rfl⟩
theorem lkX11_47 : IL RX11 47 mX1_init 0 := ⟨⟨Or.inr ⟨"LensTable", wN_t 85 (by decide +kernel) rfl⟩, mwX1_init⟩, wA_t 86 (by decide +kernel) rfl, rfl, rfl⟩
theorem lkX1_11 : IL RX1 11 mX5_init 0 := ⟨⟨Or.inr ⟨"LensTable", wN_t 91 (by decide +kernel) rfl⟩, mwX5_init⟩, wA_t 92 (by decide +kernel) rfl, rfl, rfl⟩
theorem lkX11_54 : IL RX11 54 mX3_init 0 := ⟨⟨Or.inr ⟨"LensTable", wN_t 112 (by decide +kernel) rfl⟩, mwX3_init⟩, wA_t 113 (by decide +kernel) rfl, rfl, rfl⟩
theorem lkX11_67 : IL RX11 67 mX7_init 0 := ⟨⟨Or.inr ⟨"LensTable", wN_t 133 (by decide +kernel) rfl⟩, mwX7_init⟩, wA_t 134 (by decide +kernel) rfl, rfl, rfl⟩
theorem lkX11_72 : IL RX11 72 mX8_init 0 := ⟨⟨Or.inr ⟨"LensTable", wN_t 147 (by decide +kernel) rfl⟩, mwX8_init⟩, wA_t 148 (by decide +kernel) rfl, rfl, rfl⟩
theorem lkX11_79 : IL RX11 79 mX0_init 0 := ⟨⟨Or.inr ⟨"LensTable", wN_t 174 (by decide +kernel) rfl⟩, mwX0_init⟩, wA_t 175 (by decide +kernel) rfl, rfl, rfl⟩
theorem lkX11_87 : IL RX11 87 mX6_init 0 := ⟨⟨Or.inr ⟨"LensTable", wN_t 197 (by decide +kernel) rfl⟩, mwX6_init⟩, wA_t 198 (by decide +kernel) rfl, rfl, rfl⟩
theorem lkX11_88 : IL RX11 88 mX9_init 0 := ⟨⟨Or.inr ⟨"LensTable", wN_t 214 (by decide +kernel) rfl⟩, mwX9_init⟩, wA_t 215 (by decide +kernel) rfl, rfl, rfl⟩
theorem lkX11_89 : IL RX11 89 mX10_init 0 := ⟨⟨Or.inr ⟨"LensTable", wN_t 240 (by decide +kernel) rfl⟩, mwX10_init⟩, wA_t 241 (by decide +kernel) rfl, rfl, rfl⟩
theorem lkX11_103 : VL RX11 103 mX6_lay 2 6 := ⟨⟨Or.inr ⟨"LensTable", wN_t 317 (by decide +kernel) rfl⟩, mwX6_lay⟩, wA_t 319 (by decide +kernel) rfl, wA_p 1 (by decide +kernel) rfl, by decide, rfl⟩
theorem lkX11_110 : VL RX11 110 mX6_isMissing 0 6 := ⟨⟨Or.inr ⟨"LensTable", wN_t 329 (by decide +kernel) rfl⟩, mwX6_isMissing⟩, wA_t 331 (by decide +kernel) rfl, wA_p 3 (by decide +kernel) rfl, by decide, rfl⟩
theorem lkX11_114 : VL RX11 114 mX6_holds 2 6 := ⟨⟨Or.inr ⟨"LensTable", wN_t 333 (by decide +kernel) rfl⟩, mwX6_holds⟩, wA_t 335 (by decide +kernel) rfl, wA_p 4 (by decide +kernel) rfl, by decide, rfl⟩
theorem lkX11_118 : VL RX11 118 mX6_write 2 6 := ⟨⟨Or.inr ⟨"LensTable", wN_t 337 (by decide +kernel) rfl⟩, mwX6_write⟩, wA_t 339 (by decide +kernel) rfl, wA_p 5 (by decide +kernel) rfl, by decide, rfl⟩
theorem lkX11_135 : VL RX11 135 mX6_lose 0 6 := ⟨⟨Or.inr ⟨"LensTable", wN_t 352 (by decide +kernel) rfl⟩, mwX6_lose⟩, wA_t 354 (by decide +kernel) rfl, wA_p 6 (by decide +kernel) rfl, by decide, rfl⟩
theorem lkX11_155 : VL RX11 155 mX9_put 3 9 := ⟨⟨Or.inr ⟨"LensTable", wN_t 383 (by decide +kernel) rfl⟩, mwX9_put⟩, wA_t 385 (by decide +kernel) rfl, wA_p 7 (by decide +kernel) rfl, by decide, rfl⟩
theorem lkX11_162 : VL RX11 162 mX2_take 2 2 := ⟨⟨Or.inr ⟨"LensTable", wN_t 399 (by decide +kernel) rfl⟩, mwX2_take⟩, wA_t 401 (by decide +kernel) rfl, wA_p 9 (by decide +kernel) rfl, by decide, rfl⟩
theorem lkX2_15 : SL RX2 15 mX4_firstAt 2 := ⟨⟨Or.inr ⟨"LensTable", wN_t 403 (by decide +kernel) rfl⟩, mwX4_firstAt⟩, wA_t 404 (by decide +kernel) rfl⟩
theorem lkX4_30 : SL RX4 30 mX11_by 2 := ⟨⟨Or.inr ⟨"LensTable", wN_t 406 (by decide +kernel) rfl⟩, mwX11_by⟩, wA_t 407 (by decide +kernel) rfl⟩
theorem lkX2_25 : SL RX2 25 mX4_columnOf 1 := ⟨⟨Or.inr ⟨"LensTable", wN_t 409 (by decide +kernel) rfl⟩, mwX4_columnOf⟩, wA_t 410 (by decide +kernel) rfl⟩
theorem lkX2_32 : VL RX2 32 mX4_reach 2 4 := ⟨⟨Or.inr ⟨"LensTable", wN_t 421 (by decide +kernel) rfl⟩, mwX4_reach⟩, wA_t 423 (by decide +kernel) rfl, wA_p 10 (by decide +kernel) rfl, by decide, rfl⟩
theorem lkX2_47 : SL RX2 47 mX11_by 2 := ⟨⟨Or.inr ⟨"LensTable", wN_t 425 (by decide +kernel) rfl⟩, mwX11_by⟩, wA_t 407 (by decide +kernel) rfl⟩
theorem lkX2_55 : VL RX2 55 mX4_blurBy 2 4 := ⟨⟨Or.inr ⟨"LensTable", wN_t 426 (by decide +kernel) rfl⟩, mwX4_blurBy⟩, wA_t 428 (by decide +kernel) rfl, wA_p 11 (by decide +kernel) rfl, by decide, rfl⟩
theorem lkX11_189 : VL RX11 189 mX4_sharpestDepth 1 4 := ⟨⟨Or.inr ⟨"LensTable", wN_t 437 (by decide +kernel) rfl⟩, mwX4_sharpestDepth⟩, wA_t 439 (by decide +kernel) rfl, wA_p 12 (by decide +kernel) rfl, by decide, rfl⟩
theorem lkX11_193 : VL RX11 193 mX4_blurAt 2 4 := ⟨⟨Or.inr ⟨"LensTable", wN_t 452 (by decide +kernel) rfl⟩, mwX4_blurAt⟩, wA_t 443 (by decide +kernel) rfl, wA_p 13 (by decide +kernel) rfl, by decide, rfl⟩
theorem lkX11_197 : VL RX11 197 mX4_clearBlurs 0 4 := ⟨⟨Or.inr ⟨"LensTable", wN_t 457 (by decide +kernel) rfl⟩, mwX4_clearBlurs⟩, wA_t 459 (by decide +kernel) rfl, wA_p 14 (by decide +kernel) rfl, by decide, rfl⟩
theorem lkX11_200 : SL RX11 200 mX4_columnAt 2 := ⟨⟨Or.inr ⟨"LensTable", wN_t 461 (by decide +kernel) rfl⟩, mwX4_columnAt⟩, wA_t 446 (by decide +kernel) rfl⟩
theorem lkX11_203 : VL RX11 203 mX4_addBlurs 1 4 := ⟨⟨Or.inr ⟨"LensTable", wN_t 462 (by decide +kernel) rfl⟩, mwX4_addBlurs⟩, wA_t 464 (by decide +kernel) rfl, wA_p 15 (by decide +kernel) rfl, by decide, rfl⟩
theorem lkX11_207 : VL RX11 207 mX4_bestBend 0 4 := ⟨⟨Or.inr ⟨"LensTable", wN_t 466 (by decide +kernel) rfl⟩, mwX4_bestBend⟩, wA_t 468 (by decide +kernel) rfl, wA_p 16 (by decide +kernel) rfl, by decide, rfl⟩
theorem lkX11_210 : VL RX11 210 mX4_bendsMade 0 4 := ⟨⟨Or.inr ⟨"LensTable", wN_t 470 (by decide +kernel) rfl⟩, mwX4_bendsMade⟩, wA_t 472 (by decide +kernel) rfl, wA_p 17 (by decide +kernel) rfl, by decide, rfl⟩
theorem lkX11_226 : VL RX11 226 mX10_put 3 10 := ⟨⟨Or.inr ⟨"LensTable", wN_t 484 (by decide +kernel) rfl⟩, mwX10_put⟩, wA_t 486 (by decide +kernel) rfl, wA_p 18 (by decide +kernel) rfl, by decide, rfl⟩
theorem lkX11_227 : VL RX11 227 mX10_clear 0 10 := ⟨⟨Or.inr ⟨"LensTable", wN_t 496 (by decide +kernel) rfl⟩, mwX10_clear⟩, wA_t 498 (by decide +kernel) rfl, wA_p 19 (by decide +kernel) rfl, by decide, rfl⟩
theorem lkX11_230 : VL RX11 230 mX4_shows 1 4 := ⟨⟨Or.inr ⟨"LensTable", wN_t 500 (by decide +kernel) rfl⟩, mwX4_shows⟩, wA_t 502 (by decide +kernel) rfl, wA_p 20 (by decide +kernel) rfl, by decide, rfl⟩
theorem lkX4_71 : SL RX4 71 mX11_within 3 := ⟨⟨Or.inr ⟨"LensTable", wN_t 504 (by decide +kernel) rfl⟩, mwX11_within⟩, wA_t 309 (by decide +kernel) rfl⟩
theorem lkX11_234 : VL RX11 234 mX10_marksMade 0 10 := ⟨⟨Or.inr ⟨"LensTable", wN_t 505 (by decide +kernel) rfl⟩, mwX10_marksMade⟩, wA_t 507 (by decide +kernel) rfl, wA_p 21 (by decide +kernel) rfl, by decide, rfl⟩
theorem lkX11_242 : VL RX11 242 mX1_take 2 1 := ⟨⟨Or.inr ⟨"LensTable", wN_t 518 (by decide +kernel) rfl⟩, mwX1_take⟩, wA_t 520 (by decide +kernel) rfl, wA_p 22 (by decide +kernel) rfl, by decide, rfl⟩
theorem lkX1_35 : VL RX1 35 mX5_insert 1 5 := ⟨⟨Or.inr ⟨"LensTable", wN_t 522 (by decide +kernel) rfl⟩, mwX5_insert⟩, wA_t 524 (by decide +kernel) rfl, wA_p 23 (by decide +kernel) rfl, by decide, rfl⟩
theorem lkX11_245 : VL RX11 245 mX1_common 0 1 := ⟨⟨Or.inr ⟨"LensTable", wN_t 526 (by decide +kernel) rfl⟩, mwX1_common⟩, wA_t 528 (by decide +kernel) rfl, wA_p 24 (by decide +kernel) rfl, by decide, rfl⟩
theorem lkX11_248 : VL RX11 248 mX1_misfit 0 1 := ⟨⟨Or.inr ⟨"LensTable", wN_t 530 (by decide +kernel) rfl⟩, mwX1_misfit⟩, wA_t 532 (by decide +kernel) rfl, wA_p 25 (by decide +kernel) rfl, by decide, rfl⟩
theorem lkX1_46 : VL RX1 46 mX5_misfit 0 5 := ⟨⟨Or.inr ⟨"LensTable", wN_t 534 (by decide +kernel) rfl⟩, mwX5_misfit⟩, wA_t 536 (by decide +kernel) rfl, wA_p 26 (by decide +kernel) rfl, by decide, rfl⟩
theorem lkX11_251 : VL RX11 251 mX1_acrossShift 0 1 := ⟨⟨Or.inr ⟨"LensTable", wN_t 543 (by decide +kernel) rfl⟩, mwX1_acrossShift⟩, wA_t 545 (by decide +kernel) rfl, wA_p 28 (by decide +kernel) rfl, by decide, rfl⟩
theorem lkX1_42 : VL RX1 42 mX5_middle 0 5 := ⟨⟨Or.inr ⟨"LensTable", wN_t 547 (by decide +kernel) rfl⟩, mwX5_middle⟩, wA_t 540 (by decide +kernel) rfl, wA_p 27 (by decide +kernel) rfl, by decide, rfl⟩
theorem lkX11_254 : VL RX11 254 mX1_upShift 0 1 := ⟨⟨Or.inr ⟨"LensTable", wN_t 548 (by decide +kernel) rfl⟩, mwX1_upShift⟩, wA_t 550 (by decide +kernel) rfl, wA_p 29 (by decide +kernel) rfl, by decide, rfl⟩
theorem lkX11_257 : VL RX11 257 mX3_take 3 3 := ⟨⟨Or.inr ⟨"LensTable", wN_t 556 (by decide +kernel) rfl⟩, mwX3_take⟩, wA_t 558 (by decide +kernel) rfl, wA_p 30 (by decide +kernel) rfl, by decide, rfl⟩
theorem lkX3_22 : VL RX3 22 mX1_take 2 1 := ⟨⟨Or.inr ⟨"LensTable", wN_t 560 (by decide +kernel) rfl⟩, mwX1_take⟩, wA_t 520 (by decide +kernel) rfl, wA_p 22 (by decide +kernel) rfl, by decide, rfl⟩
theorem lkX3_28 : VL RX3 28 mX1_common 0 1 := ⟨⟨Or.inr ⟨"LensTable", wN_t 561 (by decide +kernel) rfl⟩, mwX1_common⟩, wA_t 528 (by decide +kernel) rfl, wA_p 24 (by decide +kernel) rfl, by decide, rfl⟩
theorem lkX3_32 : VL RX3 32 mX1_acrossShift 0 1 := ⟨⟨Or.inr ⟨"LensTable", wN_t 562 (by decide +kernel) rfl⟩, mwX1_acrossShift⟩, wA_t 545 (by decide +kernel) rfl, wA_p 28 (by decide +kernel) rfl, by decide, rfl⟩
theorem lkX3_35 : VL RX3 35 mX1_upShift 0 1 := ⟨⟨Or.inr ⟨"LensTable", wN_t 563 (by decide +kernel) rfl⟩, mwX1_upShift⟩, wA_t 550 (by decide +kernel) rfl, wA_p 29 (by decide +kernel) rfl, by decide, rfl⟩
theorem lkX3_38 : VL RX3 38 mX1_misfit 0 1 := ⟨⟨Or.inr ⟨"LensTable", wN_t 564 (by decide +kernel) rfl⟩, mwX1_misfit⟩, wA_t 532 (by decide +kernel) rfl, wA_p 25 (by decide +kernel) rfl, by decide, rfl⟩
theorem lkX11_279 : VL RX11 279 mX8_put 4 8 := ⟨⟨Or.inr ⟨"LensTable", wN_t 580 (by decide +kernel) rfl⟩, mwX8_put⟩, wA_t 582 (by decide +kernel) rfl, wA_p 31 (by decide +kernel) rfl, by decide, rfl⟩
theorem lkX11_284 : VL RX11 284 mX7_take 4 7 := ⟨⟨Or.inr ⟨"LensTable", wN_t 589 (by decide +kernel) rfl⟩, mwX7_take⟩, wA_t 591 (by decide +kernel) rfl, wA_p 32 (by decide +kernel) rfl, by decide, rfl⟩
theorem lkX11_296 : VL RX11 296 mX7_highOf 2 7 := ⟨⟨Or.inr ⟨"LensTable", wN_t 599 (by decide +kernel) rfl⟩, mwX7_highOf⟩, wA_t 601 (by decide +kernel) rfl, wA_p 33 (by decide +kernel) rfl, by decide, rfl⟩
theorem lkX7_37 : SL RX7 37 mX11_by_ 2 := ⟨⟨Or.inr ⟨"LensTable", wN_t 603 (by decide +kernel) rfl⟩, mwX11_by_⟩, wA_t 604 (by decide +kernel) rfl⟩
theorem lkX11_395 : VL RX11 395 mX8_sees 1 8 := ⟨⟨Or.inr ⟨"LensTable", wN_t 640 (by decide +kernel) rfl⟩, mwX8_sees⟩, wA_t 642 (by decide +kernel) rfl, wA_p 38 (by decide +kernel) rfl, by decide, rfl⟩
theorem lkX11_403 : VL RX11 403 mX8_across 1 8 := ⟨⟨Or.inr ⟨"LensTable", wN_t 648 (by decide +kernel) rfl⟩, mwX8_across⟩, wA_t 650 (by decide +kernel) rfl, wA_p 40 (by decide +kernel) rfl, by decide, rfl⟩
theorem lkX8_30 : SL RX8 30 mX11_by 2 := ⟨⟨Or.inr ⟨"LensTable", wN_t 652 (by decide +kernel) rfl⟩, mwX11_by⟩, wA_t 407 (by decide +kernel) rfl⟩
theorem lkX11_408 : VL RX11 408 mX8_up 1 8 := ⟨⟨Or.inr ⟨"LensTable", wN_t 654 (by decide +kernel) rfl⟩, mwX8_up⟩, wA_t 656 (by decide +kernel) rfl, wA_p 41 (by decide +kernel) rfl, by decide, rfl⟩
theorem lkX11_352 : VL RX11 352 mX0_face 3 0 := ⟨⟨Or.inr ⟨"LensTable", wN_t 716 (by decide +kernel) rfl⟩, mwX0_face⟩, wA_t 718 (by decide +kernel) rfl, wA_p 48 (by decide +kernel) rfl, by decide, rfl⟩
theorem lkX11_355 : VL RX11 355 mX0_size 1 0 := ⟨⟨Or.inr ⟨"LensTable", wN_t 720 (by decide +kernel) rfl⟩, mwX0_size⟩, wA_t 722 (by decide +kernel) rfl, wA_p 49 (by decide +kernel) rfl, by decide, rfl⟩
theorem lkX11_358 : VL RX11 358 mX0_sign 1 0 := ⟨⟨Or.inr ⟨"LensTable", wN_t 752 (by decide +kernel) rfl⟩, mwX0_sign⟩, wA_t 754 (by decide +kernel) rfl, wA_p 57 (by decide +kernel) rfl, by decide, rfl⟩
theorem cwX0 : ∀ w ∈ u_ws (clsC 0) (clsF 0) (nfc 0), w ∈ wA := by
  intro w hw
  obtain ⟨k, hk, rfl⟩ := List.mem_map.mp hw
  have hk : k < 5 := List.mem_range.mp hk
  rcases (show k = 0 ∨ k = 1 ∨ k = 2 ∨ k = 3 ∨ k = 4 by omega) with rfl | rfl | rfl | rfl | rfl
  · exact wA_t 185 (by decide +kernel) rfl
  · exact wA_t 187 (by decide +kernel) rfl
  · exact wA_t 189 (by decide +kernel) rfl
  · exact wA_t 191 (by decide +kernel) rfl
  · exact wA_t 193 (by decide +kernel) rfl
theorem cwX1 : ∀ w ∈ u_ws (clsC 1) (clsF 1) (nfc 1), w ∈ wA := by
  intro w hw
  obtain ⟨k, hk, rfl⟩ := List.mem_map.mp hw
  have hk : k < 2 := List.mem_range.mp hk
  rcases (show k = 0 ∨ k = 1 by omega) with rfl | rfl
  · exact wA_t 105 (by decide +kernel) rfl
  · exact wA_t 107 (by decide +kernel) rfl
theorem cwX2 : ∀ w ∈ u_ws (clsC 2) (clsF 2) (nfc 2), w ∈ wA := by
  intro w hw
  obtain ⟨k, hk, rfl⟩ := List.mem_map.mp hw
  have hk : k < 6 := List.mem_range.mp hk
  rcases (show k = 0 ∨ k = 1 ∨ k = 2 ∨ k = 3 ∨ k = 4 ∨ k = 5 by omega) with rfl | rfl | rfl | rfl | rfl | rfl
  · exact wA_t 68 (by decide +kernel) rfl
  · exact wA_t 70 (by decide +kernel) rfl
  · exact wA_t 72 (by decide +kernel) rfl
  · exact wA_t 74 (by decide +kernel) rfl
  · exact wA_t 76 (by decide +kernel) rfl
  · exact wA_t 78 (by decide +kernel) rfl
theorem cwX3 : ∀ w ∈ u_ws (clsC 3) (clsF 3) (nfc 3), w ∈ wA := by
  intro w hw
  obtain ⟨k, hk, rfl⟩ := List.mem_map.mp hw
  have hk : k < 3 := List.mem_range.mp hk
  rcases (show k = 0 ∨ k = 1 ∨ k = 2 by omega) with rfl | rfl | rfl
  · exact wA_t 122 (by decide +kernel) rfl
  · exact wA_t 124 (by decide +kernel) rfl
  · exact wA_t 126 (by decide +kernel) rfl
theorem cwX4 : ∀ w ∈ u_ws (clsC 4) (clsF 4) (nfc 4), w ∈ wA := by
  intro w hw
  obtain ⟨k, hk, rfl⟩ := List.mem_map.mp hw
  have hk : k < 3 := List.mem_range.mp hk
  rcases (show k = 0 ∨ k = 1 ∨ k = 2 by omega) with rfl | rfl | rfl
  · exact wA_t 38 (by decide +kernel) rfl
  · exact wA_t 40 (by decide +kernel) rfl
  · exact wA_t 42 (by decide +kernel) rfl
theorem cwX5 : ∀ w ∈ u_ws (clsC 5) (clsF 5) (nfc 5), w ∈ wA := by
  intro w hw
  obtain ⟨k, hk, rfl⟩ := List.mem_map.mp hw
  have hk : k < 2 := List.mem_range.mp hk
  rcases (show k = 0 ∨ k = 1 by omega) with rfl | rfl
  · exact wA_t 98 (by decide +kernel) rfl
  · exact wA_t 100 (by decide +kernel) rfl
theorem cwX6 : ∀ w ∈ u_ws (clsC 6) (clsF 6) (nfc 6), w ∈ wA := by
  intro w hw
  obtain ⟨k, hk, rfl⟩ := List.mem_map.mp hw
  have hk : k < 3 := List.mem_range.mp hk
  rcases (show k = 0 ∨ k = 1 ∨ k = 2 by omega) with rfl | rfl | rfl
  · exact wA_t 206 (by decide +kernel) rfl
  · exact wA_t 208 (by decide +kernel) rfl
  · exact wA_t 210 (by decide +kernel) rfl
theorem cwX7 : ∀ w ∈ u_ws (clsC 7) (clsF 7) (nfc 7), w ∈ wA := by
  intro w hw
  obtain ⟨k, hk, rfl⟩ := List.mem_map.mp hw
  have hk : k < 2 := List.mem_range.mp hk
  rcases (show k = 0 ∨ k = 1 by omega) with rfl | rfl
  · exact wA_t 141 (by decide +kernel) rfl
  · exact wA_t 143 (by decide +kernel) rfl
theorem cwX8 : ∀ w ∈ u_ws (clsC 8) (clsF 8) (nfc 8), w ∈ wA := by
  intro w hw
  obtain ⟨k, hk, rfl⟩ := List.mem_map.mp hw
  have hk : k < 4 := List.mem_range.mp hk
  rcases (show k = 0 ∨ k = 1 ∨ k = 2 ∨ k = 3 by omega) with rfl | rfl | rfl | rfl
  · exact wA_t 163 (by decide +kernel) rfl
  · exact wA_t 165 (by decide +kernel) rfl
  · exact wA_t 167 (by decide +kernel) rfl
  · exact wA_t 169 (by decide +kernel) rfl
theorem cwX9 : ∀ w ∈ u_ws (clsC 9) (clsF 9) (nfc 9), w ∈ wA := by
  intro w hw
  obtain ⟨k, hk, rfl⟩ := List.mem_map.mp hw
  have hk : k < 3 := List.mem_range.mp hk
  rcases (show k = 0 ∨ k = 1 ∨ k = 2 by omega) with rfl | rfl | rfl
  · exact wA_t 232 (by decide +kernel) rfl
  · exact wA_t 234 (by decide +kernel) rfl
  · exact wA_t 236 (by decide +kernel) rfl
theorem cwX10 : ∀ w ∈ u_ws (clsC 10) (clsF 10) (nfc 10), w ∈ wA := by
  intro w hw
  obtain ⟨k, hk, rfl⟩ := List.mem_map.mp hw
  have hk : k < 3 := List.mem_range.mp hk
  rcases (show k = 0 ∨ k = 1 ∨ k = 2 by omega) with rfl | rfl | rfl
  · exact wA_t 253 (by decide +kernel) rfl
  · exact wA_t 255 (by decide +kernel) rfl
  · exact wA_t 257 (by decide +kernel) rfl
theorem cwX11 : ∀ w ∈ u_ws (clsC 11) (clsF 11) (nfc 11), w ∈ wA := by
  intro w hw
  obtain ⟨k, hk, rfl⟩ := List.mem_map.mp hw
  have hk : k < 13 := List.mem_range.mp hk
  rcases (show k = 0 ∨ k = 1 ∨ k = 2 ∨ k = 3 ∨ k = 4 ∨ k = 5 ∨ k = 6 ∨ k = 7 ∨ k = 8 ∨ k = 9 ∨ k = 10 ∨ k = 11 ∨ k = 12 by omega) with rfl | rfl | rfl | rfl | rfl | rfl | rfl | rfl | rfl | rfl | rfl | rfl | rfl
  · exact wA_t 274 (by decide +kernel) rfl
  · exact wA_t 276 (by decide +kernel) rfl
  · exact wA_t 278 (by decide +kernel) rfl
  · exact wA_t 280 (by decide +kernel) rfl
  · exact wA_t 282 (by decide +kernel) rfl
  · exact wA_t 284 (by decide +kernel) rfl
  · exact wA_t 286 (by decide +kernel) rfl
  · exact wA_t 288 (by decide +kernel) rfl
  · exact wA_t 290 (by decide +kernel) rfl
  · exact wA_t 292 (by decide +kernel) rfl
  · exact wA_t 294 (by decide +kernel) rfl
  · exact wA_t 296 (by decide +kernel) rfl
  · exact wA_t 298 (by decide +kernel) rfl
theorem cwX12 : ∀ w ∈ u_ws (clsC 12) (clsF 12) (nfc 12), w ∈ wA := by
  intro w hw
  obtain ⟨k, hk, rfl⟩ := List.mem_map.mp hw
  have hk : k < 29 := List.mem_range.mp hk
  rcases (show k = 0 ∨ k = 1 ∨ k = 2 ∨ k = 3 ∨ k = 4 ∨ k = 5 ∨ k = 6 ∨ k = 7 ∨ k = 8 ∨ k = 9 ∨ k = 10 ∨ k = 11 ∨ k = 12 ∨ k = 13 ∨ k = 14 ∨ k = 15 ∨ k = 16 ∨ k = 17 ∨ k = 18 ∨ k = 19 ∨ k = 20 ∨ k = 21 ∨ k = 22 ∨ k = 23 ∨ k = 24 ∨ k = 25 ∨ k = 26 ∨ k = 27 ∨ k = 28 by omega) with rfl | rfl | rfl | rfl | rfl | rfl | rfl | rfl | rfl | rfl | rfl | rfl | rfl | rfl | rfl | rfl | rfl | rfl | rfl | rfl | rfl | rfl | rfl | rfl | rfl | rfl | rfl | rfl | rfl
  · exact wA_t 827 (by decide +kernel) rfl
  · exact wA_t 829 (by decide +kernel) rfl
  · exact wA_t 831 (by decide +kernel) rfl
  · exact wA_t 833 (by decide +kernel) rfl
  · exact wA_t 835 (by decide +kernel) rfl
  · exact wA_t 837 (by decide +kernel) rfl
  · exact wA_t 839 (by decide +kernel) rfl
  · exact wA_t 841 (by decide +kernel) rfl
  · exact wA_t 843 (by decide +kernel) rfl
  · exact wA_t 845 (by decide +kernel) rfl
  · exact wA_t 847 (by decide +kernel) rfl
  · exact wA_t 849 (by decide +kernel) rfl
  · exact wA_t 851 (by decide +kernel) rfl
  · exact wA_t 853 (by decide +kernel) rfl
  · exact wA_t 855 (by decide +kernel) rfl
  · exact wA_t 857 (by decide +kernel) rfl
  · exact wA_t 859 (by decide +kernel) rfl
  · exact wA_t 861 (by decide +kernel) rfl
  · exact wA_t 863 (by decide +kernel) rfl
  · exact wA_t 865 (by decide +kernel) rfl
  · exact wA_t 867 (by decide +kernel) rfl
  · exact wA_t 869 (by decide +kernel) rfl
  · exact wA_t 871 (by decide +kernel) rfl
  · exact wA_t 873 (by decide +kernel) rfl
  · exact wA_t 875 (by decide +kernel) rfl
  · exact wA_t 877 (by decide +kernel) rfl
  · exact wA_t 879 (by decide +kernel) rfl
  · exact wA_t 881 (by decide +kernel) rfl
  · exact wA_t 883 (by decide +kernel) rfl
theorem flX4_9 : FL RX4 9 4 0 (.array .int) true := ⟨by decide, by decide, rfl, rfl, rfl, cwX4, Or.inl (wA_t 32 (by decide +kernel) rfl)⟩
theorem flX4_15 : FL RX4 15 4 1 (.array .int) true := ⟨by decide, by decide, rfl, rfl, rfl, cwX4, Or.inl (wA_t 35 (by decide +kernel) rfl)⟩
theorem flX4_18 : FL RX4 18 4 2 (.array .int) true := ⟨by decide, by decide, rfl, rfl, rfl, cwX4, Or.inl (wA_t 37 (by decide +kernel) rfl)⟩
theorem flX2_19 : FL RX2 19 2 0 .int false := ⟨by decide, by decide, rfl, rfl, rfl, cwX2, Or.inl (wA_t 54 (by decide +kernel) rfl)⟩
theorem flX2_29 : FL RX2 29 2 1 .int false := ⟨by decide, by decide, rfl, rfl, rfl, cwX2, Or.inl (wA_t 56 (by decide +kernel) rfl)⟩
theorem flX2_36 : FL RX2 36 2 2 .int false := ⟨by decide, by decide, rfl, rfl, rfl, cwX2, Or.inl (wA_t 58 (by decide +kernel) rfl)⟩
theorem flX2_50 : FL RX2 50 2 3 .int false := ⟨by decide, by decide, rfl, rfl, rfl, cwX2, Or.inl (wA_t 60 (by decide +kernel) rfl)⟩
theorem flX2_54 : FL RX2 54 2 4 .int false := ⟨by decide, by decide, rfl, rfl, rfl, cwX2, Or.inl (wA_t 63 (by decide +kernel) rfl)⟩
theorem flX2_58 : FL RX2 58 2 5 .int false := ⟨by decide, by decide, rfl, rfl, rfl, cwX2, Or.inl (wA_t 66 (by decide +kernel) rfl)⟩
theorem flX5_9 : FL RX5 9 5 0 (.array .int) true := ⟨by decide, by decide, rfl, rfl, rfl, cwX5, Or.inl (wA_t 95 (by decide +kernel) rfl)⟩
theorem flX5_15 : FL RX5 15 5 1 .int false := ⟨by decide, by decide, rfl, rfl, rfl, cwX5, Or.inl (wA_t 96 (by decide +kernel) rfl)⟩
theorem flX1_12 : FL RX1 12 1 0 (.object "LensTable$Row") true := ⟨by decide, by decide, rfl, rfl, rfl, cwX1, Or.inl (wA_t 103 (by decide +kernel) rfl)⟩
theorem flX1_18 : FL RX1 18 1 1 (.object "LensTable$Row") true := ⟨by decide, by decide, rfl, rfl, rfl, cwX1, Or.inl (wA_t 104 (by decide +kernel) rfl)⟩
theorem flX3_9 : FL RX3 9 3 0 (.array .int) true := ⟨by decide, by decide, rfl, rfl, rfl, cwX3, Or.inl (wA_t 116 (by decide +kernel) rfl)⟩
theorem flX3_15 : FL RX3 15 3 1 (.array .int) true := ⟨by decide, by decide, rfl, rfl, rfl, cwX3, Or.inl (wA_t 118 (by decide +kernel) rfl)⟩
theorem flX3_18 : FL RX3 18 3 2 .int false := ⟨by decide, by decide, rfl, rfl, rfl, cwX3, Or.inl (wA_t 120 (by decide +kernel) rfl)⟩
theorem flX7_25 : FL RX7 25 7 0 .long false := ⟨by decide, by decide, rfl, rfl, rfl, cwX7, Or.inl (wA_t 137 (by decide +kernel) rfl)⟩
theorem flX7_13 : FL RX7 13 7 1 .long false := ⟨by decide, by decide, rfl, rfl, rfl, cwX7, Or.inl (wA_t 139 (by decide +kernel) rfl)⟩
theorem flX8_13 : FL RX8 13 8 0 .int false := ⟨by decide, by decide, rfl, rfl, rfl, cwX8, Or.inl (wA_t 151 (by decide +kernel) rfl)⟩
theorem flX8_16 : FL RX8 16 8 1 .int false := ⟨by decide, by decide, rfl, rfl, rfl, cwX8, Or.inl (wA_t 154 (by decide +kernel) rfl)⟩
theorem flX8_19 : FL RX8 19 8 2 .int false := ⟨by decide, by decide, rfl, rfl, rfl, cwX8, Or.inl (wA_t 157 (by decide +kernel) rfl)⟩
theorem flX8_7 : FL RX8 7 8 3 .int false := ⟨by decide, by decide, rfl, rfl, rfl, cwX8, Or.inl (wA_t 160 (by decide +kernel) rfl)⟩
theorem flX0_9 : FL RX0 9 0 0 (.array .int) true := ⟨by decide, by decide, rfl, rfl, rfl, cwX0, Or.inl (wA_t 178 (by decide +kernel) rfl)⟩
theorem flX0_15 : FL RX0 15 0 1 .int false := ⟨by decide, by decide, rfl, rfl, rfl, cwX0, Or.inl (wA_t 180 (by decide +kernel) rfl)⟩
theorem flX0_19 : FL RX0 19 0 2 .int false := ⟨by decide, by decide, rfl, rfl, rfl, cwX0, Or.inl (wA_t 182 (by decide +kernel) rfl)⟩
theorem flX0_22 : FL RX0 22 0 3 .int false := ⟨by decide, by decide, rfl, rfl, rfl, cwX0, Or.inl (wA_t 183 (by decide +kernel) rfl)⟩
theorem flX0_25 : FL RX0 25 0 4 .int false := ⟨by decide, by decide, rfl, rfl, rfl, cwX0, Or.inl (wA_t 184 (by decide +kernel) rfl)⟩
theorem flX6_9 : FL RX6 9 6 0 (.array .int) true := ⟨by decide, by decide, rfl, rfl, rfl, cwX6, Or.inl (wA_t 201 (by decide +kernel) rfl)⟩
theorem flX6_15 : FL RX6 15 6 1 .int false := ⟨by decide, by decide, rfl, rfl, rfl, cwX6, Or.inl (wA_t 203 (by decide +kernel) rfl)⟩
theorem flX6_19 : FL RX6 19 6 2 .int false := ⟨by decide, by decide, rfl, rfl, rfl, cwX6, Or.inl (wA_t 205 (by decide +kernel) rfl)⟩
theorem flX9_13 : FL RX9 13 9 0 .int false := ⟨by decide, by decide, rfl, rfl, rfl, cwX9, Or.inl (wA_t 219 (by decide +kernel) rfl)⟩
theorem flX9_16 : FL RX9 16 9 1 .int false := ⟨by decide, by decide, rfl, rfl, rfl, cwX9, Or.inl (wA_t 223 (by decide +kernel) rfl)⟩
theorem flX9_7 : FL RX9 7 9 2 .int false := ⟨by decide, by decide, rfl, rfl, rfl, cwX9, Or.inl (wA_t 227 (by decide +kernel) rfl)⟩
theorem flX10_9 : FL RX10 9 10 0 (.array .boolean) true := ⟨by decide, by decide, rfl, rfl, rfl, cwX10, Or.inl (wA_t 244 (by decide +kernel) rfl)⟩
theorem flX10_15 : FL RX10 15 10 1 (.array .int) true := ⟨by decide, by decide, rfl, rfl, rfl, cwX10, Or.inl (wA_t 247 (by decide +kernel) rfl)⟩
theorem flX10_19 : FL RX10 19 10 2 (.array .int) true := ⟨by decide, by decide, rfl, rfl, rfl, cwX10, Or.inl (wA_t 250 (by decide +kernel) rfl)⟩
theorem flX11_11 : FL RX11 11 11 0 (.array (.object "LensTable$Sheet")) true := ⟨by decide, by decide, rfl, rfl, rfl, cwX11, Or.inl (wA_t 261 (by decide +kernel) rfl)⟩
theorem flX11_18 : FL RX11 18 11 1 (.object "LensTable$Room") true := ⟨by decide, by decide, rfl, rfl, rfl, cwX11, Or.inl (wA_t 262 (by decide +kernel) rfl)⟩
theorem flX11_24 : FL RX11 24 11 2 (.array (.object "LensTable$Thing")) true := ⟨by decide, by decide, rfl, rfl, rfl, cwX11, Or.inl (wA_t 263 (by decide +kernel) rfl)⟩
theorem flX11_28 : FL RX11 28 11 3 .int false := ⟨by decide, by decide, rfl, rfl, rfl, cwX11, Or.inl (wA_t 264 (by decide +kernel) rfl)⟩
theorem flX11_35 : FL RX11 35 11 4 (.object "LensTable$Picture") true := ⟨by decide, by decide, rfl, rfl, rfl, cwX11, Or.inl (wA_t 265 (by decide +kernel) rfl)⟩
theorem flX11_41 : FL RX11 41 11 5 (.array (.object "LensTable$Trace")) true := ⟨by decide, by decide, rfl, rfl, rfl, cwX11, Or.inl (wA_t 266 (by decide +kernel) rfl)⟩
theorem flX11_48 : FL RX11 48 11 6 (.object "LensTable$Joint") true := ⟨by decide, by decide, rfl, rfl, rfl, cwX11, Or.inl (wA_t 267 (by decide +kernel) rfl)⟩
theorem flX11_55 : FL RX11 55 11 7 (.object "LensTable$Ring") true := ⟨by decide, by decide, rfl, rfl, rfl, cwX11, Or.inl (wA_t 268 (by decide +kernel) rfl)⟩
theorem flX11_61 : FL RX11 61 11 8 (.array (.object "LensTable$Stand")) true := ⟨by decide, by decide, rfl, rfl, rfl, cwX11, Or.inl (wA_t 269 (by decide +kernel) rfl)⟩
theorem flX11_68 : FL RX11 68 11 9 (.object "LensTable$Sight") true := ⟨by decide, by decide, rfl, rfl, rfl, cwX11, Or.inl (wA_t 270 (by decide +kernel) rfl)⟩
theorem flX11_73 : FL RX11 73 11 10 (.object "LensTable$Stand") true := ⟨by decide, by decide, rfl, rfl, rfl, cwX11, Or.inl (wA_t 271 (by decide +kernel) rfl)⟩
theorem flX11_80 : FL RX11 80 11 11 (.object "LensTable$Bodies") true := ⟨by decide, by decide, rfl, rfl, rfl, cwX11, Or.inl (wA_t 272 (by decide +kernel) rfl)⟩
theorem flX11_84 : FL RX11 84 11 12 .int false := ⟨by decide, by decide, rfl, rfl, rfl, cwX11, Or.inl (wA_t 273 (by decide +kernel) rfl)⟩
theorem gsX11_139 : Cond.fieldLink RX11 139 RX11 "NUMBER_LEAST" "[I" ∈ wA := wA_t 360 (by decide +kernel) rfl
theorem gsX11_142 : Cond.fieldLink RX11 142 RX11 "NUMBER_MOST" "[I" ∈ wA := wA_t 362 (by decide +kernel) rfl
theorem flX12_59 : FL RX12 59 12 0 .int false := ⟨by decide, by decide, rfl, rfl, rfl, cwX12, Or.inl (wA_t 798 (by decide +kernel) rfl)⟩
theorem flX12_63 : FL RX12 63 12 1 .int false := ⟨by decide, by decide, rfl, rfl, rfl, cwX12, Or.inl (wA_t 799 (by decide +kernel) rfl)⟩
theorem flX12_7 : FL RX12 7 12 2 (.array .int) true := ⟨by decide, by decide, rfl, rfl, rfl, cwX12, Or.inl (wA_t 800 (by decide +kernel) rfl)⟩
theorem flX12_13 : FL RX12 13 12 3 (.array .int) true := ⟨by decide, by decide, rfl, rfl, rfl, cwX12, Or.inl (wA_t 801 (by decide +kernel) rfl)⟩
theorem flX12_16 : FL RX12 16 12 4 (.array .int) true := ⟨by decide, by decide, rfl, rfl, rfl, cwX12, Or.inl (wA_t 802 (by decide +kernel) rfl)⟩
theorem flX12_19 : FL RX12 19 12 5 (.array .int) true := ⟨by decide, by decide, rfl, rfl, rfl, cwX12, Or.inl (wA_t 803 (by decide +kernel) rfl)⟩
theorem flX12_22 : FL RX12 22 12 6 (.array .int) true := ⟨by decide, by decide, rfl, rfl, rfl, cwX12, Or.inl (wA_t 804 (by decide +kernel) rfl)⟩
theorem flX12_102 : FL RX12 102 12 7 .int false := ⟨by decide, by decide, rfl, rfl, rfl, cwX12, Or.inl (wA_t 805 (by decide +kernel) rfl)⟩
theorem flX12_25 : FL RX12 25 12 8 (.array .int) true := ⟨by decide, by decide, rfl, rfl, rfl, cwX12, Or.inl (wA_t 806 (by decide +kernel) rfl)⟩
theorem flX12_28 : FL RX12 28 12 9 (.array .int) true := ⟨by decide, by decide, rfl, rfl, rfl, cwX12, Or.inl (wA_t 807 (by decide +kernel) rfl)⟩
theorem flX12_31 : FL RX12 31 12 10 (.array .int) true := ⟨by decide, by decide, rfl, rfl, rfl, cwX12, Or.inl (wA_t 808 (by decide +kernel) rfl)⟩
theorem flX12_34 : FL RX12 34 12 11 (.array .boolean) true := ⟨by decide, by decide, rfl, rfl, rfl, cwX12, Or.inl (wA_t 809 (by decide +kernel) rfl)⟩
theorem flX12_38 : FL RX12 38 12 12 (.array .int) true := ⟨by decide, by decide, rfl, rfl, rfl, cwX12, Or.inl (wA_t 810 (by decide +kernel) rfl)⟩
theorem flX12_41 : FL RX12 41 12 13 (.array .int) true := ⟨by decide, by decide, rfl, rfl, rfl, cwX12, Or.inl (wA_t 811 (by decide +kernel) rfl)⟩
theorem flX12_150 : FL RX12 150 12 14 .int false := ⟨by decide, by decide, rfl, rfl, rfl, cwX12, Or.inl (wA_t 812 (by decide +kernel) rfl)⟩
theorem flX12_163 : FL RX12 163 12 15 .int false := ⟨by decide, by decide, rfl, rfl, rfl, cwX12, Or.inl (wA_t 813 (by decide +kernel) rfl)⟩
theorem flX12_166 : FL RX12 166 12 16 .int false := ⟨by decide, by decide, rfl, rfl, rfl, cwX12, Or.inl (wA_t 814 (by decide +kernel) rfl)⟩
theorem flX12_153 : FL RX12 153 12 17 .int false := ⟨by decide, by decide, rfl, rfl, rfl, cwX12, Or.inl (wA_t 815 (by decide +kernel) rfl)⟩
theorem flX12_44 : FL RX12 44 12 18 (.array .int) true := ⟨by decide, by decide, rfl, rfl, rfl, cwX12, Or.inl (wA_t 816 (by decide +kernel) rfl)⟩
theorem flX12_47 : FL RX12 47 12 19 (.array .int) true := ⟨by decide, by decide, rfl, rfl, rfl, cwX12, Or.inl (wA_t 817 (by decide +kernel) rfl)⟩
theorem flX12_50 : FL RX12 50 12 20 (.array .int) true := ⟨by decide, by decide, rfl, rfl, rfl, cwX12, Or.inl (wA_t 818 (by decide +kernel) rfl)⟩
theorem flX12_175 : FL RX12 175 12 21 .int false := ⟨by decide, by decide, rfl, rfl, rfl, cwX12, Or.inl (wA_t 819 (by decide +kernel) rfl)⟩
theorem flX12_53 : FL RX12 53 12 22 (.array .int) true := ⟨by decide, by decide, rfl, rfl, rfl, cwX12, Or.inl (wA_t 820 (by decide +kernel) rfl)⟩
theorem flX12_185 : FL RX12 185 12 23 .long false := ⟨by decide, by decide, rfl, rfl, rfl, cwX12, Or.inl (wA_t 821 (by decide +kernel) rfl)⟩
theorem flX12_181 : FL RX12 181 12 24 .long false := ⟨by decide, by decide, rfl, rfl, rfl, cwX12, Or.inl (wA_t 822 (by decide +kernel) rfl)⟩
theorem flX12_201 : FL RX12 201 12 25 .int false := ⟨by decide, by decide, rfl, rfl, rfl, cwX12, Or.inl (wA_t 823 (by decide +kernel) rfl)⟩
theorem flX12_204 : FL RX12 204 12 26 .int false := ⟨by decide, by decide, rfl, rfl, rfl, cwX12, Or.inl (wA_t 824 (by decide +kernel) rfl)⟩
theorem flX12_56 : FL RX12 56 12 27 (.array .int) true := ⟨by decide, by decide, rfl, rfl, rfl, cwX12, Or.inl (wA_t 825 (by decide +kernel) rfl)⟩
theorem flX12_233 : FL RX12 233 12 28 .int false := ⟨by decide, by decide, rfl, rfl, rfl, cwX12, Or.inl (wA_t 826 (by decide +kernel) rfl)⟩
theorem flX2_9 : FL RX2 9 4 0 (.array .int) true := ⟨by decide, by decide, rfl, rfl, rfl, cwX4, Or.inr ⟨"LensTable", wN_t 33 (by decide +kernel) rfl⟩⟩
theorem flX11_145 : FL RX11 145 4 0 (.array .int) true := ⟨by decide, by decide, rfl, rfl, rfl, cwX4, Or.inr ⟨"LensTable", wN_t 34 (by decide +kernel) rfl⟩⟩
theorem flX11_148 : FL RX11 148 4 1 (.array .int) true := ⟨by decide, by decide, rfl, rfl, rfl, cwX4, Or.inr ⟨"LensTable", wN_t 36 (by decide +kernel) rfl⟩⟩
theorem flX11_175 : FL RX11 175 2 0 .int false := ⟨by decide, by decide, rfl, rfl, rfl, cwX2, Or.inr ⟨"LensTable", wN_t 55 (by decide +kernel) rfl⟩⟩
theorem flX11_178 : FL RX11 178 2 1 .int false := ⟨by decide, by decide, rfl, rfl, rfl, cwX2, Or.inr ⟨"LensTable", wN_t 57 (by decide +kernel) rfl⟩⟩
theorem flX11_181 : FL RX11 181 2 2 .int false := ⟨by decide, by decide, rfl, rfl, rfl, cwX2, Or.inr ⟨"LensTable", wN_t 59 (by decide +kernel) rfl⟩⟩
theorem flX11_184 : FL RX11 184 2 3 .int false := ⟨by decide, by decide, rfl, rfl, rfl, cwX2, Or.inr ⟨"LensTable", wN_t 61 (by decide +kernel) rfl⟩⟩
theorem flX4_68 : FL RX4 68 2 3 .int false := ⟨by decide, by decide, rfl, rfl, rfl, cwX2, Or.inr ⟨"LensTable", wN_t 62 (by decide +kernel) rfl⟩⟩
theorem flX11_185 : FL RX11 185 2 4 .int false := ⟨by decide, by decide, rfl, rfl, rfl, cwX2, Or.inr ⟨"LensTable", wN_t 64 (by decide +kernel) rfl⟩⟩
theorem flX4_75 : FL RX4 75 2 4 .int false := ⟨by decide, by decide, rfl, rfl, rfl, cwX2, Or.inr ⟨"LensTable", wN_t 65 (by decide +kernel) rfl⟩⟩
theorem flX11_186 : FL RX11 186 2 5 .int false := ⟨by decide, by decide, rfl, rfl, rfl, cwX2, Or.inr ⟨"LensTable", wN_t 67 (by decide +kernel) rfl⟩⟩
theorem flX1_21 : FL RX1 21 5 1 .int false := ⟨by decide, by decide, rfl, rfl, rfl, cwX5, Or.inr ⟨"LensTable", wN_t 97 (by decide +kernel) rfl⟩⟩
theorem flX11_262 : FL RX11 262 3 0 (.array .int) true := ⟨by decide, by decide, rfl, rfl, rfl, cwX3, Or.inr ⟨"LensTable", wN_t 117 (by decide +kernel) rfl⟩⟩
theorem flX11_265 : FL RX11 265 3 1 (.array .int) true := ⟨by decide, by decide, rfl, rfl, rfl, cwX3, Or.inr ⟨"LensTable", wN_t 119 (by decide +kernel) rfl⟩⟩
theorem flX11_260 : FL RX11 260 3 2 .int false := ⟨by decide, by decide, rfl, rfl, rfl, cwX3, Or.inr ⟨"LensTable", wN_t 121 (by decide +kernel) rfl⟩⟩
theorem flX11_289 : FL RX11 289 7 0 .long false := ⟨by decide, by decide, rfl, rfl, rfl, cwX7, Or.inr ⟨"LensTable", wN_t 138 (by decide +kernel) rfl⟩⟩
theorem flX11_293 : FL RX11 293 7 1 .long false := ⟨by decide, by decide, rfl, rfl, rfl, cwX7, Or.inr ⟨"LensTable", wN_t 140 (by decide +kernel) rfl⟩⟩
theorem flX7_19 : FL RX7 19 8 0 .int false := ⟨by decide, by decide, rfl, rfl, rfl, cwX8, Or.inr ⟨"LensTable", wN_t 152 (by decide +kernel) rfl⟩⟩
theorem flX11_383 : FL RX11 383 8 0 .int false := ⟨by decide, by decide, rfl, rfl, rfl, cwX8, Or.inr ⟨"LensTable", wN_t 153 (by decide +kernel) rfl⟩⟩
theorem flX7_34 : FL RX7 34 8 1 .int false := ⟨by decide, by decide, rfl, rfl, rfl, cwX8, Or.inr ⟨"LensTable", wN_t 155 (by decide +kernel) rfl⟩⟩
theorem flX11_386 : FL RX11 386 8 1 .int false := ⟨by decide, by decide, rfl, rfl, rfl, cwX8, Or.inr ⟨"LensTable", wN_t 156 (by decide +kernel) rfl⟩⟩
theorem flX7_22 : FL RX7 22 8 2 .int false := ⟨by decide, by decide, rfl, rfl, rfl, cwX8, Or.inr ⟨"LensTable", wN_t 158 (by decide +kernel) rfl⟩⟩
theorem flX11_389 : FL RX11 389 8 2 .int false := ⟨by decide, by decide, rfl, rfl, rfl, cwX8, Or.inr ⟨"LensTable", wN_t 159 (by decide +kernel) rfl⟩⟩
theorem flX7_7 : FL RX7 7 8 3 .int false := ⟨by decide, by decide, rfl, rfl, rfl, cwX8, Or.inr ⟨"LensTable", wN_t 161 (by decide +kernel) rfl⟩⟩
theorem flX11_392 : FL RX11 392 8 3 .int false := ⟨by decide, by decide, rfl, rfl, rfl, cwX8, Or.inr ⟨"LensTable", wN_t 162 (by decide +kernel) rfl⟩⟩
theorem flX11_364 : FL RX11 364 0 0 (.array .int) true := ⟨by decide, by decide, rfl, rfl, rfl, cwX0, Or.inr ⟨"LensTable", wN_t 179 (by decide +kernel) rfl⟩⟩
theorem flX11_361 : FL RX11 361 0 1 .int false := ⟨by decide, by decide, rfl, rfl, rfl, cwX0, Or.inr ⟨"LensTable", wN_t 181 (by decide +kernel) rfl⟩⟩
theorem flX11_125 : FL RX11 125 6 0 (.array .int) true := ⟨by decide, by decide, rfl, rfl, rfl, cwX6, Or.inr ⟨"LensTable", wN_t 202 (by decide +kernel) rfl⟩⟩
theorem flX11_122 : FL RX11 122 6 1 .int false := ⟨by decide, by decide, rfl, rfl, rfl, cwX6, Or.inr ⟨"LensTable", wN_t 204 (by decide +kernel) rfl⟩⟩
theorem flX4_21 : FL RX4 21 9 0 .int false := ⟨by decide, by decide, rfl, rfl, rfl, cwX9, Or.inr ⟨"LensTable", wN_t 218 (by decide +kernel) rfl⟩⟩
theorem flX2_39 : FL RX2 39 9 0 .int false := ⟨by decide, by decide, rfl, rfl, rfl, cwX9, Or.inr ⟨"LensTable", wN_t 220 (by decide +kernel) rfl⟩⟩
theorem flX8_27 : FL RX8 27 9 0 .int false := ⟨by decide, by decide, rfl, rfl, rfl, cwX9, Or.inr ⟨"LensTable", wN_t 221 (by decide +kernel) rfl⟩⟩
theorem flX11_166 : FL RX11 166 9 0 .int false := ⟨by decide, by decide, rfl, rfl, rfl, cwX9, Or.inr ⟨"LensTable", wN_t 222 (by decide +kernel) rfl⟩⟩
theorem flX2_51 : FL RX2 51 9 1 .int false := ⟨by decide, by decide, rfl, rfl, rfl, cwX9, Or.inr ⟨"LensTable", wN_t 224 (by decide +kernel) rfl⟩⟩
theorem flX8_36 : FL RX8 36 9 1 .int false := ⟨by decide, by decide, rfl, rfl, rfl, cwX9, Or.inr ⟨"LensTable", wN_t 225 (by decide +kernel) rfl⟩⟩
theorem flX11_169 : FL RX11 169 9 1 .int false := ⟨by decide, by decide, rfl, rfl, rfl, cwX9, Or.inr ⟨"LensTable", wN_t 226 (by decide +kernel) rfl⟩⟩
theorem flX4_27 : FL RX4 27 9 2 .int false := ⟨by decide, by decide, rfl, rfl, rfl, cwX9, Or.inr ⟨"LensTable", wN_t 228 (by decide +kernel) rfl⟩⟩
theorem flX2_44 : FL RX2 44 9 2 .int false := ⟨by decide, by decide, rfl, rfl, rfl, cwX9, Or.inr ⟨"LensTable", wN_t 229 (by decide +kernel) rfl⟩⟩
theorem flX8_22 : FL RX8 22 9 2 .int false := ⟨by decide, by decide, rfl, rfl, rfl, cwX9, Or.inr ⟨"LensTable", wN_t 230 (by decide +kernel) rfl⟩⟩
theorem flX11_172 : FL RX11 172 9 2 .int false := ⟨by decide, by decide, rfl, rfl, rfl, cwX9, Or.inr ⟨"LensTable", wN_t 231 (by decide +kernel) rfl⟩⟩
theorem flX1_25 : FL RX1 25 10 0 (.array .boolean) true := ⟨by decide, by decide, rfl, rfl, rfl, cwX10, Or.inr ⟨"LensTable", wN_t 245 (by decide +kernel) rfl⟩⟩
theorem flX11_222 : FL RX11 222 10 0 (.array .boolean) true := ⟨by decide, by decide, rfl, rfl, rfl, cwX10, Or.inr ⟨"LensTable", wN_t 246 (by decide +kernel) rfl⟩⟩
theorem flX1_31 : FL RX1 31 10 1 (.array .int) true := ⟨by decide, by decide, rfl, rfl, rfl, cwX10, Or.inr ⟨"LensTable", wN_t 248 (by decide +kernel) rfl⟩⟩
theorem flX11_238 : FL RX11 238 10 1 (.array .int) true := ⟨by decide, by decide, rfl, rfl, rfl, cwX10, Or.inr ⟨"LensTable", wN_t 249 (by decide +kernel) rfl⟩⟩
theorem flX1_39 : FL RX1 39 10 2 (.array .int) true := ⟨by decide, by decide, rfl, rfl, rfl, cwX10, Or.inr ⟨"LensTable", wN_t 251 (by decide +kernel) rfl⟩⟩
theorem flX11_240 : FL RX11 240 10 2 (.array .int) true := ⟨by decide, by decide, rfl, rfl, rfl, cwX10, Or.inr ⟨"LensTable", wN_t 252 (by decide +kernel) rfl⟩⟩
theorem kcX11_98 : Cond.constant RX11 98 (-1000001) ∈ wA := wA_t 311 (by decide +kernel) rfl
theorem kcX11_379 : Cond.constant RX11 379 (-1000010) ∈ wA := wA_t 316 (by decide +kernel) rfl
theorem kcX11_154 : Cond.constant RX11 154 (-1000003) ∈ wA := wA_t 382 (by decide +kernel) rfl
theorem kcX11_237 : Cond.constant RX11 237 (-1000000) ∈ wA := wA_t 513 (by decide +kernel) rfl
theorem kcX12_79 : Cond.constant RX12 79 (-1000001) ∈ wA := wA_t 898 (by decide +kernel) rfl
theorem kcX12_66 : Cond.constant RX12 66 (-1000010) ∈ wA := wA_t 903 (by decide +kernel) rfl
theorem kcX12_109 : Cond.constant RX12 109 (-1000003) ∈ wA := wA_t 944 (by decide +kernel) rfl
theorem kcX12_149 : Cond.constant RX12 149 (-1000000) ∈ wA := wA_t 1023 (by decide +kernel) rfl
theorem kcX11_282 : Cond.constantLong RX11 282 (-1000001) ∈ wA := wA_t 588 (by decide +kernel) rfl
theorem kcX11_287 : Cond.constantLong RX11 287 (-1000000) ∈ wA := wA_t 594 (by decide +kernel) rfl
theorem kcX12_67 : Cond.constantLong RX12 67 (7) ∈ wA := wA_t 893 (by decide +kernel) rfl
theorem kcX12_77 : Cond.constantLong RX12 77 (2) ∈ wA := wA_t 897 (by decide +kernel) rfl
theorem kcX12_84 : Cond.constantLong RX12 84 (6) ∈ wA := wA_t 920 (by decide +kernel) rfl
theorem kcX12_86 : Cond.constantLong RX12 86 (-8) ∈ wA := wA_t 925 (by decide +kernel) rfl
theorem kcX12_88 : Cond.constantLong RX12 88 (8) ∈ wA := wA_t 926 (by decide +kernel) rfl
theorem kcX12_90 : Cond.constantLong RX12 90 (-50) ∈ wA := wA_t 927 (by decide +kernel) rfl
theorem kcX12_92 : Cond.constantLong RX12 92 (50) ∈ wA := wA_t 928 (by decide +kernel) rfl
theorem kcX12_94 : Cond.constantLong RX12 94 (23) ∈ wA := wA_t 933 (by decide +kernel) rfl
theorem kcX12_96 : Cond.constantLong RX12 96 (-1000) ∈ wA := wA_t 941 (by decide +kernel) rfl
theorem kcX12_98 : Cond.constantLong RX12 98 (1000) ∈ wA := wA_t 942 (by decide +kernel) rfl
theorem kcX12_100 : Cond.constantLong RX12 100 (5000) ∈ wA := wA_t 943 (by decide +kernel) rfl
theorem kcX12_138 : Cond.constantLong RX12 138 (-1) ∈ wA := wA_t 996 (by decide +kernel) rfl
theorem kcX12_169 : Cond.constantLong RX12 169 (3) ∈ wA := wA_t 1028 (by decide +kernel) rfl
theorem kcX12_191 : Cond.constantLong RX12 191 (-1000001) ∈ wA := wA_t 1064 (by decide +kernel) rfl
theorem kcX12_197 : Cond.constantLong RX12 197 (-1000000) ∈ wA := wA_t 1069 (by decide +kernel) rfl
theorem kcX12_199 : Cond.constantLong RX12 199 (20) ∈ wA := wA_t 1078 (by decide +kernel) rfl
theorem kcX12_220 : Cond.constantLong RX12 220 (364) ∈ wA := wA_t 1107 (by decide +kernel) rfl
theorem kcX12_222 : Cond.constantLong RX12 222 (-6) ∈ wA := wA_t 1108 (by decide +kernel) rfl
theorem T0_k {k c n : Nat} (h : k < 113) (e : T0ty k = (c, n)) : KD T0 k c n := ⟨h, e⟩
theorem kd_sheet {i : Nat} (h : i < 8) : KD T0 (22 + 2 * i) 6 0 := T0_k (by omega) ((by decide +kernel : ∀ i, i < 8 → T0ty (22 + 2 * i) = (6, 0)) i h)
theorem kd_items {i : Nat} (h : i < 8) : KD T0 (23 + 2 * i) 20 80 := T0_k (by omega) ((by decide +kernel : ∀ i, i < 8 → T0ty (23 + 2 * i) = (20, 80)) i h)
theorem kd_thing {i : Nat} (h : i < 24) : KD T0 (38 + i) 9 0 := T0_k (by omega) ((by decide +kernel : ∀ i, i < 24 → T0ty (38 + i) = (9, 0)) i h)
theorem kd_trace {i : Nat} (h : i < 8) : KD T0 (62 + 4 * i) 10 0 := T0_k (by omega) ((by decide +kernel : ∀ i, i < 8 → T0ty (62 + 4 * i) = (10, 0)) i h)
theorem kd_has {i : Nat} (h : i < 8) : KD T0 (63 + 4 * i) 21 24 := T0_k (by omega) ((by decide +kernel : ∀ i, i < 8 → T0ty (63 + 4 * i) = (21, 24)) i h)
theorem kd_tx {i : Nat} (h : i < 8) : KD T0 (64 + 4 * i) 20 24 := T0_k (by omega) ((by decide +kernel : ∀ i, i < 8 → T0ty (64 + 4 * i) = (20, 24)) i h)
theorem kd_ty {i : Nat} (h : i < 8) : KD T0 (65 + 4 * i) 20 24 := T0_k (by omega) ((by decide +kernel : ∀ i, i < 8 → T0ty (65 + 4 * i) = (20, 24)) i h)
theorem kd_stand {i : Nat} (h : i < 2) : KD T0 (94 + i) 8 0 := T0_k (by omega) ((by decide +kernel : ∀ i, i < 2 → T0ty (94 + i) = (8, 0)) i h)
theorem rf_sheets {i : Nat} (h : i < 8) : T0r 1 i = some (22 + 2 * i) := (by decide +kernel : ∀ i, i < 8 → T0r 1 i = some (22 + 2 * i)) i h
theorem rf_items {i : Nat} (h : i < 8) : T0r (22 + 2 * i) 0 = some (23 + 2 * i) := (by decide +kernel : ∀ i, i < 8 → T0r (22 + 2 * i) 0 = some (23 + 2 * i)) i h
theorem rf_things {i : Nat} (h : i < 24) : T0r 6 i = some (38 + i) := (by decide +kernel : ∀ i, i < 24 → T0r 6 i = some (38 + i)) i h
theorem rf_traces {i : Nat} (h : i < 8) : T0r 8 i = some (62 + 4 * i) := (by decide +kernel : ∀ i, i < 8 → T0r 8 i = some (62 + 4 * i)) i h
theorem rf_has {i : Nat} (h : i < 8) : T0r (62 + 4 * i) 0 = some (63 + 4 * i) := (by decide +kernel : ∀ i, i < 8 → T0r (62 + 4 * i) 0 = some (63 + 4 * i)) i h
theorem rf_tx {i : Nat} (h : i < 8) : T0r (62 + 4 * i) 1 = some (64 + 4 * i) := (by decide +kernel : ∀ i, i < 8 → T0r (62 + 4 * i) 1 = some (64 + 4 * i)) i h
theorem rf_ty {i : Nat} (h : i < 8) : T0r (62 + 4 * i) 2 = some (65 + 4 * i) := (by decide +kernel : ∀ i, i < 8 → T0r (62 + 4 * i) 2 = some (65 + 4 * i)) i h
theorem rf_stands {i : Nat} (h : i < 2) : T0r 17 i = some (94 + i) := (by decide +kernel : ∀ i, i < 2 → T0r 17 i = some (94 + i)) i h
theorem kd_0 : KD T0 0 11 0 := T0_k (by decide) (by decide +kernel)
theorem kd_1 : KD T0 1 22 8 := T0_k (by decide) (by decide +kernel)
theorem kd_2 : KD T0 2 4 0 := T0_k (by decide) (by decide +kernel)
theorem kd_3 : KD T0 3 20 7 := T0_k (by decide) (by decide +kernel)
theorem kd_4 : KD T0 4 20 17 := T0_k (by decide) (by decide +kernel)
theorem kd_5 : KD T0 5 20 101 := T0_k (by decide) (by decide +kernel)
theorem kd_6 : KD T0 6 23 24 := T0_k (by decide) (by decide +kernel)
theorem kd_7 : KD T0 7 2 0 := T0_k (by decide) (by decide +kernel)
theorem kd_8 : KD T0 8 24 8 := T0_k (by decide) (by decide +kernel)
theorem kd_9 : KD T0 9 1 0 := T0_k (by decide) (by decide +kernel)
theorem kd_10 : KD T0 10 5 0 := T0_k (by decide) (by decide +kernel)
theorem kd_11 : KD T0 11 20 24 := T0_k (by decide) (by decide +kernel)
theorem kd_12 : KD T0 12 5 0 := T0_k (by decide) (by decide +kernel)
theorem kd_13 : KD T0 13 20 24 := T0_k (by decide) (by decide +kernel)
theorem kd_14 : KD T0 14 3 0 := T0_k (by decide) (by decide +kernel)
theorem kd_15 : KD T0 15 20 9 := T0_k (by decide) (by decide +kernel)
theorem kd_16 : KD T0 16 20 9 := T0_k (by decide) (by decide +kernel)
theorem kd_17 : KD T0 17 25 2 := T0_k (by decide) (by decide +kernel)
theorem kd_18 : KD T0 18 7 0 := T0_k (by decide) (by decide +kernel)
theorem kd_19 : KD T0 19 8 0 := T0_k (by decide) (by decide +kernel)
theorem kd_20 : KD T0 20 0 0 := T0_k (by decide) (by decide +kernel)
theorem kd_21 : KD T0 21 20 16 := T0_k (by decide) (by decide +kernel)
theorem kd_96 : KD T0 96 12 0 := T0_k (by decide) (by decide +kernel)
theorem kd_97 : KD T0 97 20 8 := T0_k (by decide) (by decide +kernel)
theorem kd_98 : KD T0 98 20 8 := T0_k (by decide) (by decide +kernel)
theorem kd_99 : KD T0 99 20 640 := T0_k (by decide) (by decide +kernel)
theorem kd_100 : KD T0 100 20 7 := T0_k (by decide) (by decide +kernel)
theorem kd_101 : KD T0 101 20 17 := T0_k (by decide) (by decide +kernel)
theorem kd_102 : KD T0 102 20 24 := T0_k (by decide) (by decide +kernel)
theorem kd_103 : KD T0 103 20 24 := T0_k (by decide) (by decide +kernel)
theorem kd_104 : KD T0 104 20 24 := T0_k (by decide) (by decide +kernel)
theorem kd_105 : KD T0 105 21 192 := T0_k (by decide) (by decide +kernel)
theorem kd_106 : KD T0 106 20 192 := T0_k (by decide) (by decide +kernel)
theorem kd_107 : KD T0 107 20 192 := T0_k (by decide) (by decide +kernel)
theorem kd_108 : KD T0 108 20 24 := T0_k (by decide) (by decide +kernel)
theorem kd_109 : KD T0 109 20 9 := T0_k (by decide) (by decide +kernel)
theorem kd_110 : KD T0 110 20 9 := T0_k (by decide) (by decide +kernel)
theorem kd_111 : KD T0 111 20 8 := T0_k (by decide) (by decide +kernel)
theorem kd_112 : KD T0 112 20 16 := T0_k (by decide) (by decide +kernel)
theorem kd_94 : KD T0 94 8 0 := T0_k (by decide) (by decide +kernel)
theorem kd_95 : KD T0 95 8 0 := T0_k (by decide) (by decide +kernel)
theorem rf_0_0 : T0r 0 0 = some 1 := by decide +kernel
theorem rf_0_1 : T0r 0 1 = some 2 := by decide +kernel
theorem rf_0_2 : T0r 0 2 = some 6 := by decide +kernel
theorem rf_0_4 : T0r 0 4 = some 7 := by decide +kernel
theorem rf_0_5 : T0r 0 5 = some 8 := by decide +kernel
theorem rf_0_6 : T0r 0 6 = some 9 := by decide +kernel
theorem rf_0_7 : T0r 0 7 = some 14 := by decide +kernel
theorem rf_0_8 : T0r 0 8 = some 17 := by decide +kernel
theorem rf_0_9 : T0r 0 9 = some 18 := by decide +kernel
theorem rf_0_10 : T0r 0 10 = some 19 := by decide +kernel
theorem rf_0_11 : T0r 0 11 = some 20 := by decide +kernel
theorem rf_2_0 : T0r 2 0 = some 3 := by decide +kernel
theorem rf_2_1 : T0r 2 1 = some 4 := by decide +kernel
theorem rf_2_2 : T0r 2 2 = some 5 := by decide +kernel
theorem rf_9_0 : T0r 9 0 = some 10 := by decide +kernel
theorem rf_9_1 : T0r 9 1 = some 12 := by decide +kernel
theorem rf_10_0 : T0r 10 0 = some 11 := by decide +kernel
theorem rf_12_0 : T0r 12 0 = some 13 := by decide +kernel
theorem rf_14_0 : T0r 14 0 = some 15 := by decide +kernel
theorem rf_14_1 : T0r 14 1 = some 16 := by decide +kernel
theorem rf_20_0 : T0r 20 0 = some 21 := by decide +kernel
theorem rf_17_0 : T0r 17 0 = some 94 := by decide +kernel
theorem rf_17_1 : T0r 17 1 = some 95 := by decide +kernel
theorem rf_96_2 : T0r 96 2 = some 97 := by decide +kernel
theorem rf_96_3 : T0r 96 3 = some 98 := by decide +kernel
theorem rf_96_4 : T0r 96 4 = some 99 := by decide +kernel
theorem rf_96_5 : T0r 96 5 = some 100 := by decide +kernel
theorem rf_96_6 : T0r 96 6 = some 101 := by decide +kernel
theorem rf_96_8 : T0r 96 8 = some 102 := by decide +kernel
theorem rf_96_9 : T0r 96 9 = some 103 := by decide +kernel
theorem rf_96_10 : T0r 96 10 = some 104 := by decide +kernel
theorem rf_96_11 : T0r 96 11 = some 105 := by decide +kernel
theorem rf_96_12 : T0r 96 12 = some 106 := by decide +kernel
theorem rf_96_13 : T0r 96 13 = some 107 := by decide +kernel
theorem rf_96_18 : T0r 96 18 = some 108 := by decide +kernel
theorem rf_96_19 : T0r 96 19 = some 109 := by decide +kernel
theorem rf_96_20 : T0r 96 20 = some 110 := by decide +kernel
theorem rf_96_22 : T0r 96 22 = some 111 := by decide +kernel
theorem rf_96_27 : T0r 96 27 = some 112 := by decide +kernel
end

section
-- ===== PART A: goes FIRST, ahead of the names: the tables' words, and 'selects' of the private methods out of them =====
/-- a private method of a class that the tables say can be made, by its rows of tables_1 -/
def lw_okq (q : MethodName × Nat) : Prop := (q.1.cls ≠ "java/lang/invoke/MethodHandle" ∧ q.1.cls ≠ "java/lang/invoke/VarHandle") ∧ Cond.instantiable q.1.cls q.2 ∈ tables_1 ∧ Cond.privateMethod q.1 ∈ tables_1 ∧ Cond.instanceMethod q.1 ∈ tables_1
theorem lw_p0 : lw_okq (⟨"NestedTags", "beginText", "()V"⟩, 14) := ⟨⟨by decide +kernel, by decide +kernel⟩, List.mem_of_getElem? (i := 12) (by decide +kernel), List.mem_of_getElem? (i := 148) (by decide +kernel), List.mem_of_getElem? (i := 149) (by decide +kernel)⟩
theorem lw_p1 : lw_okq (⟨"NestedTags", "readInValue", "()V"⟩, 14) := ⟨⟨by decide +kernel, by decide +kernel⟩, List.mem_of_getElem? (i := 12) (by decide +kernel), List.mem_of_getElem? (i := 168) (by decide +kernel), List.mem_of_getElem? (i := 169) (by decide +kernel)⟩
theorem lw_p2 : lw_okq (⟨"NestedTags", "addPiece", "(II)Z"⟩, 14) := ⟨⟨by decide +kernel, by decide +kernel⟩, List.mem_of_getElem? (i := 12) (by decide +kernel), List.mem_of_getElem? (i := 180) (by decide +kernel), List.mem_of_getElem? (i := 181) (by decide +kernel)⟩
theorem lw_p3 : lw_okq (⟨"NestedTags", "readReference", "()Z"⟩, 14) := ⟨⟨by decide +kernel, by decide +kernel⟩, List.mem_of_getElem? (i := 12) (by decide +kernel), List.mem_of_getElem? (i := 192) (by decide +kernel), List.mem_of_getElem? (i := 193) (by decide +kernel)⟩
theorem lw_p4 : lw_okq (⟨"NestedTags", "readNumber", "(I)Z"⟩, 14) := ⟨⟨by decide +kernel, by decide +kernel⟩, List.mem_of_getElem? (i := 12) (by decide +kernel), List.mem_of_getElem? (i := 255) (by decide +kernel), List.mem_of_getElem? (i := 256) (by decide +kernel)⟩
theorem lw_p5 : lw_okq (⟨"NestedTags", "isKnownReference", "(II)Z"⟩, 14) := ⟨⟨by decide +kernel, by decide +kernel⟩, List.mem_of_getElem? (i := 12) (by decide +kernel), List.mem_of_getElem? (i := 288) (by decide +kernel), List.mem_of_getElem? (i := 289) (by decide +kernel)⟩
theorem lw_p6 : lw_okq (⟨"NestedTags", "readInTag", "()V"⟩, 14) := ⟨⟨by decide +kernel, by decide +kernel⟩, List.mem_of_getElem? (i := 12) (by decide +kernel), List.mem_of_getElem? (i := 308) (by decide +kernel), List.mem_of_getElem? (i := 309) (by decide +kernel)⟩
theorem lw_p7 : lw_okq (⟨"NestedTags", "readAttributeName", "()V"⟩, 14) := ⟨⟨by decide +kernel, by decide +kernel⟩, List.mem_of_getElem? (i := 12) (by decide +kernel), List.mem_of_getElem? (i := 317) (by decide +kernel), List.mem_of_getElem? (i := 318) (by decide +kernel)⟩
theorem lw_p8 : lw_okq (⟨"NestedTags$Names", "isAt", "(ILNestedTags$Cursor;II)Z"⟩, 4) := ⟨⟨by decide +kernel, by decide +kernel⟩, List.mem_of_getElem? (i := 74) (by decide +kernel), List.mem_of_getElem? (i := 325) (by decide +kernel), List.mem_of_getElem? (i := 326) (by decide +kernel)⟩
theorem lw_p9 : lw_okq (⟨"NestedTags", "readToValue", "()V"⟩, 14) := ⟨⟨by decide +kernel, by decide +kernel⟩, List.mem_of_getElem? (i := 12) (by decide +kernel), List.mem_of_getElem? (i := 341) (by decide +kernel), List.mem_of_getElem? (i := 342) (by decide +kernel)⟩
theorem lw_p10 : lw_okq (⟨"NestedTags", "endStartTag", "()V"⟩, 14) := ⟨⟨by decide +kernel, by decide +kernel⟩, List.mem_of_getElem? (i := 12) (by decide +kernel), List.mem_of_getElem? (i := 346) (by decide +kernel), List.mem_of_getElem? (i := 347) (by decide +kernel)⟩
theorem lw_p11 : lw_okq (⟨"NestedTags", "endEmptyTag", "()V"⟩, 14) := ⟨⟨by decide +kernel, by decide +kernel⟩, List.mem_of_getElem? (i := 12) (by decide +kernel), List.mem_of_getElem? (i := 352) (by decide +kernel), List.mem_of_getElem? (i := 353) (by decide +kernel)⟩
theorem lw_p12 : lw_okq (⟨"NestedTags", "readBetween", "()V"⟩, 14) := ⟨⟨by decide +kernel, by decide +kernel⟩, List.mem_of_getElem? (i := 12) (by decide +kernel), List.mem_of_getElem? (i := 357) (by decide +kernel), List.mem_of_getElem? (i := 358) (by decide +kernel)⟩
theorem lw_p13 : lw_okq (⟨"NestedTags", "readMarkup", "()V"⟩, 14) := ⟨⟨by decide +kernel, by decide +kernel⟩, List.mem_of_getElem? (i := 12) (by decide +kernel), List.mem_of_getElem? (i := 361) (by decide +kernel), List.mem_of_getElem? (i := 362) (by decide +kernel)⟩
theorem lw_p14 : lw_okq (⟨"NestedTags", "readInstruction", "()V"⟩, 14) := ⟨⟨by decide +kernel, by decide +kernel⟩, List.mem_of_getElem? (i := 12) (by decide +kernel), List.mem_of_getElem? (i := 366) (by decide +kernel), List.mem_of_getElem? (i := 367) (by decide +kernel)⟩
theorem lw_p15 : lw_okq (⟨"NestedTags", "isReserved", "(II)Z"⟩, 14) := ⟨⟨by decide +kernel, by decide +kernel⟩, List.mem_of_getElem? (i := 12) (by decide +kernel), List.mem_of_getElem? (i := 371) (by decide +kernel), List.mem_of_getElem? (i := 372) (by decide +kernel)⟩
def lw_privs_1 : List (MethodName × Nat) := [(⟨"NestedTags", "beginText", "()V"⟩, 14), (⟨"NestedTags", "readInValue", "()V"⟩, 14), (⟨"NestedTags", "addPiece", "(II)Z"⟩, 14), (⟨"NestedTags", "readReference", "()Z"⟩, 14), (⟨"NestedTags", "readNumber", "(I)Z"⟩, 14), (⟨"NestedTags", "isKnownReference", "(II)Z"⟩, 14), (⟨"NestedTags", "readInTag", "()V"⟩, 14), (⟨"NestedTags", "readAttributeName", "()V"⟩, 14), (⟨"NestedTags$Names", "isAt", "(ILNestedTags$Cursor;II)Z"⟩, 4), (⟨"NestedTags", "readToValue", "()V"⟩, 14), (⟨"NestedTags", "endStartTag", "()V"⟩, 14), (⟨"NestedTags", "endEmptyTag", "()V"⟩, 14), (⟨"NestedTags", "readBetween", "()V"⟩, 14), (⟨"NestedTags", "readMarkup", "()V"⟩, 14), (⟨"NestedTags", "readInstruction", "()V"⟩, 14), (⟨"NestedTags", "isReserved", "(II)Z"⟩, 14)]
theorem lw_r1 : ∀ q ∈ lw_privs_1, lw_okq q := List.forall_mem_cons.mpr ⟨lw_p0, List.forall_mem_cons.mpr ⟨lw_p1, List.forall_mem_cons.mpr ⟨lw_p2, List.forall_mem_cons.mpr ⟨lw_p3, List.forall_mem_cons.mpr ⟨lw_p4, List.forall_mem_cons.mpr ⟨lw_p5, List.forall_mem_cons.mpr ⟨lw_p6, List.forall_mem_cons.mpr ⟨lw_p7, List.forall_mem_cons.mpr ⟨lw_p8, List.forall_mem_cons.mpr ⟨lw_p9, List.forall_mem_cons.mpr ⟨lw_p10, List.forall_mem_cons.mpr ⟨lw_p11, List.forall_mem_cons.mpr ⟨lw_p12, List.forall_mem_cons.mpr ⟨lw_p13, List.forall_mem_cons.mpr ⟨lw_p14, List.forall_mem_cons.mpr ⟨lw_p15, fun _ h => absurd h List.not_mem_nil⟩⟩⟩⟩⟩⟩⟩⟩⟩⟩⟩⟩⟩⟩⟩⟩
theorem lw_p16 : lw_okq (⟨"NestedTags", "readComment", "()V"⟩, 14) := ⟨⟨by decide +kernel, by decide +kernel⟩, List.mem_of_getElem? (i := 12) (by decide +kernel), List.mem_of_getElem? (i := 382) (by decide +kernel), List.mem_of_getElem? (i := 383) (by decide +kernel)⟩
theorem lw_p17 : lw_okq (⟨"NestedTags", "readSection", "()V"⟩, 14) := ⟨⟨by decide +kernel, by decide +kernel⟩, List.mem_of_getElem? (i := 12) (by decide +kernel), List.mem_of_getElem? (i := 388) (by decide +kernel), List.mem_of_getElem? (i := 389) (by decide +kernel)⟩
theorem lw_p18 : lw_okq (⟨"NestedTags", "readEndTag", "()V"⟩, 14) := ⟨⟨by decide +kernel, by decide +kernel⟩, List.mem_of_getElem? (i := 12) (by decide +kernel), List.mem_of_getElem? (i := 394) (by decide +kernel), List.mem_of_getElem? (i := 395) (by decide +kernel)⟩
theorem lw_p19 : lw_okq (⟨"NestedTags", "readTagName", "()V"⟩, 14) := ⟨⟨by decide +kernel, by decide +kernel⟩, List.mem_of_getElem? (i := 12) (by decide +kernel), List.mem_of_getElem? (i := 407) (by decide +kernel), List.mem_of_getElem? (i := 408) (by decide +kernel)⟩
theorem lw_p20 : lw_okq (⟨"NestedTags", "readContentReference", "()V"⟩, 14) := ⟨⟨by decide +kernel, by decide +kernel⟩, List.mem_of_getElem? (i := 12) (by decide +kernel), List.mem_of_getElem? (i := 412) (by decide +kernel), List.mem_of_getElem? (i := 413) (by decide +kernel)⟩
theorem lw_p21 : lw_okq (⟨"NestedTags", "readCharacters", "()V"⟩, 14) := ⟨⟨by decide +kernel, by decide +kernel⟩, List.mem_of_getElem? (i := 12) (by decide +kernel), List.mem_of_getElem? (i := 416) (by decide +kernel), List.mem_of_getElem? (i := 417) (by decide +kernel)⟩
theorem lw_p22 : lw_okq (⟨"NestedTags", "endText", "()V"⟩, 14) := ⟨⟨by decide +kernel, by decide +kernel⟩, List.mem_of_getElem? (i := 12) (by decide +kernel), List.mem_of_getElem? (i := 422) (by decide +kernel), List.mem_of_getElem? (i := 423) (by decide +kernel)⟩
theorem lw_p23 : lw_okq (⟨"NestedTagsModel", "step", "(I)I"⟩, 33) := ⟨⟨by decide +kernel, by decide +kernel⟩, List.mem_of_getElem? (i := 447) (by decide +kernel), List.mem_of_getElem? (i := 562) (by decide +kernel), List.mem_of_getElem? (i := 563) (by decide +kernel)⟩
theorem lw_p24 : lw_okq (⟨"NestedTagsModel", "go", "(I)I"⟩, 33) := ⟨⟨by decide +kernel, by decide +kernel⟩, List.mem_of_getElem? (i := 447) (by decide +kernel), List.mem_of_getElem? (i := 569) (by decide +kernel), List.mem_of_getElem? (i := 570) (by decide +kernel)⟩
theorem lw_p25 : lw_okq (⟨"NestedTagsModel", "wrong", "()I"⟩, 33) := ⟨⟨by decide +kernel, by decide +kernel⟩, List.mem_of_getElem? (i := 447) (by decide +kernel), List.mem_of_getElem? (i := 573) (by decide +kernel), List.mem_of_getElem? (i := 574) (by decide +kernel)⟩
theorem lw_p26 : lw_okq (⟨"NestedTagsModel", "fail", "(II)I"⟩, 33) := ⟨⟨by decide +kernel, by decide +kernel⟩, List.mem_of_getElem? (i := 447) (by decide +kernel), List.mem_of_getElem? (i := 577) (by decide +kernel), List.mem_of_getElem? (i := 578) (by decide +kernel)⟩
theorem lw_p27 : lw_okq (⟨"NestedTagsModel", "less", "(I)I"⟩, 33) := ⟨⟨by decide +kernel, by decide +kernel⟩, List.mem_of_getElem? (i := 447) (by decide +kernel), List.mem_of_getElem? (i := 581) (by decide +kernel), List.mem_of_getElem? (i := 582) (by decide +kernel)⟩
theorem lw_p28 : lw_okq (⟨"NestedTagsModel", "bang", "(I)I"⟩, 33) := ⟨⟨by decide +kernel, by decide +kernel⟩, List.mem_of_getElem? (i := 447) (by decide +kernel), List.mem_of_getElem? (i := 588) (by decide +kernel), List.mem_of_getElem? (i := 589) (by decide +kernel)⟩
theorem lw_p29 : lw_okq (⟨"NestedTagsModel", "text", "(ICI)I"⟩, 33) := ⟨⟨by decide +kernel, by decide +kernel⟩, List.mem_of_getElem? (i := 447) (by decide +kernel), List.mem_of_getElem? (i := 592) (by decide +kernel), List.mem_of_getElem? (i := 593) (by decide +kernel)⟩
theorem lw_p30 : lw_okq (⟨"NestedTagsModel", "closed", "(I)I"⟩, 33) := ⟨⟨by decide +kernel, by decide +kernel⟩, List.mem_of_getElem? (i := 447) (by decide +kernel), List.mem_of_getElem? (i := 599) (by decide +kernel), List.mem_of_getElem? (i := 600) (by decide +kernel)⟩
theorem lw_p31 : lw_okq (⟨"NestedTagsModel", "add", "(IIII)I"⟩, 33) := ⟨⟨by decide +kernel, by decide +kernel⟩, List.mem_of_getElem? (i := 447) (by decide +kernel), List.mem_of_getElem? (i := 603) (by decide +kernel), List.mem_of_getElem? (i := 604) (by decide +kernel)⟩
def lw_privs_2 : List (MethodName × Nat) := [(⟨"NestedTags", "readComment", "()V"⟩, 14), (⟨"NestedTags", "readSection", "()V"⟩, 14), (⟨"NestedTags", "readEndTag", "()V"⟩, 14), (⟨"NestedTags", "readTagName", "()V"⟩, 14), (⟨"NestedTags", "readContentReference", "()V"⟩, 14), (⟨"NestedTags", "readCharacters", "()V"⟩, 14), (⟨"NestedTags", "endText", "()V"⟩, 14), (⟨"NestedTagsModel", "step", "(I)I"⟩, 33), (⟨"NestedTagsModel", "go", "(I)I"⟩, 33), (⟨"NestedTagsModel", "wrong", "()I"⟩, 33), (⟨"NestedTagsModel", "fail", "(II)I"⟩, 33), (⟨"NestedTagsModel", "less", "(I)I"⟩, 33), (⟨"NestedTagsModel", "bang", "(I)I"⟩, 33), (⟨"NestedTagsModel", "text", "(ICI)I"⟩, 33), (⟨"NestedTagsModel", "closed", "(I)I"⟩, 33), (⟨"NestedTagsModel", "add", "(IIII)I"⟩, 33)]
theorem lw_r2 : ∀ q ∈ lw_privs_2, lw_okq q := List.forall_mem_cons.mpr ⟨lw_p16, List.forall_mem_cons.mpr ⟨lw_p17, List.forall_mem_cons.mpr ⟨lw_p18, List.forall_mem_cons.mpr ⟨lw_p19, List.forall_mem_cons.mpr ⟨lw_p20, List.forall_mem_cons.mpr ⟨lw_p21, List.forall_mem_cons.mpr ⟨lw_p22, List.forall_mem_cons.mpr ⟨lw_p23, List.forall_mem_cons.mpr ⟨lw_p24, List.forall_mem_cons.mpr ⟨lw_p25, List.forall_mem_cons.mpr ⟨lw_p26, List.forall_mem_cons.mpr ⟨lw_p27, List.forall_mem_cons.mpr ⟨lw_p28, List.forall_mem_cons.mpr ⟨lw_p29, List.forall_mem_cons.mpr ⟨lw_p30, List.forall_mem_cons.mpr ⟨lw_p31, fun _ h => absurd h List.not_mem_nil⟩⟩⟩⟩⟩⟩⟩⟩⟩⟩⟩⟩⟩⟩⟩⟩
theorem lw_p32 : lw_okq (⟨"NestedTagsModel", "nameFrom", "(II)I"⟩, 33) := ⟨⟨by decide +kernel, by decide +kernel⟩, List.mem_of_getElem? (i := 447) (by decide +kernel), List.mem_of_getElem? (i := 607) (by decide +kernel), List.mem_of_getElem? (i := 608) (by decide +kernel)⟩
theorem lw_p33 : lw_okq (⟨"NestedTagsModel", "target", "(I)I"⟩, 33) := ⟨⟨by decide +kernel, by decide +kernel⟩, List.mem_of_getElem? (i := 447) (by decide +kernel), List.mem_of_getElem? (i := 611) (by decide +kernel), List.mem_of_getElem? (i := 612) (by decide +kernel)⟩
theorem lw_p34 : lw_okq (⟨"NestedTagsModel", "isBarred", "()Z"⟩, 33) := ⟨⟨by decide +kernel, by decide +kernel⟩, List.mem_of_getElem? (i := 447) (by decide +kernel), List.mem_of_getElem? (i := 618) (by decide +kernel), List.mem_of_getElem? (i := 619) (by decide +kernel)⟩
theorem lw_p35 : lw_okq (⟨"NestedTagsModel", "endName", "(I)I"⟩, 33) := ⟨⟨by decide +kernel, by decide +kernel⟩, List.mem_of_getElem? (i := 447) (by decide +kernel), List.mem_of_getElem? (i := 622) (by decide +kernel), List.mem_of_getElem? (i := 623) (by decide +kernel)⟩
theorem lw_p36 : lw_okq (⟨"NestedTagsModel", "same", "(IIII)Z"⟩, 33) := ⟨⟨by decide +kernel, by decide +kernel⟩, List.mem_of_getElem? (i := 447) (by decide +kernel), List.mem_of_getElem? (i := 626) (by decide +kernel), List.mem_of_getElem? (i := 627) (by decide +kernel)⟩
theorem lw_p37 : lw_okq (⟨"NestedTagsModel", "end", "(I)I"⟩, 33) := ⟨⟨by decide +kernel, by decide +kernel⟩, List.mem_of_getElem? (i := 447) (by decide +kernel), List.mem_of_getElem? (i := 630) (by decide +kernel), List.mem_of_getElem? (i := 631) (by decide +kernel)⟩
theorem lw_p38 : lw_okq (⟨"NestedTagsModel", "tagName", "(I)I"⟩, 33) := ⟨⟨by decide +kernel, by decide +kernel⟩, List.mem_of_getElem? (i := 447) (by decide +kernel), List.mem_of_getElem? (i := 634) (by decide +kernel), List.mem_of_getElem? (i := 635) (by decide +kernel)⟩
theorem lw_p39 : lw_okq (⟨"NestedTagsModel", "start", "(I)I"⟩, 33) := ⟨⟨by decide +kernel, by decide +kernel⟩, List.mem_of_getElem? (i := 447) (by decide +kernel), List.mem_of_getElem? (i := 638) (by decide +kernel), List.mem_of_getElem? (i := 639) (by decide +kernel)⟩
theorem lw_p40 : lw_okq (⟨"NestedTagsModel", "inTag", "(I)I"⟩, 33) := ⟨⟨by decide +kernel, by decide +kernel⟩, List.mem_of_getElem? (i := 447) (by decide +kernel), List.mem_of_getElem? (i := 642) (by decide +kernel), List.mem_of_getElem? (i := 643) (by decide +kernel)⟩
theorem lw_p41 : lw_okq (⟨"NestedTagsModel", "attributeName", "(I)I"⟩, 33) := ⟨⟨by decide +kernel, by decide +kernel⟩, List.mem_of_getElem? (i := 447) (by decide +kernel), List.mem_of_getElem? (i := 646) (by decide +kernel), List.mem_of_getElem? (i := 647) (by decide +kernel)⟩
theorem lw_p42 : lw_okq (⟨"NestedTagsModel", "equal", "(I)I"⟩, 33) := ⟨⟨by decide +kernel, by decide +kernel⟩, List.mem_of_getElem? (i := 447) (by decide +kernel), List.mem_of_getElem? (i := 650) (by decide +kernel), List.mem_of_getElem? (i := 651) (by decide +kernel)⟩
theorem lw_p43 : lw_okq (⟨"NestedTagsModel", "value", "(I)I"⟩, 33) := ⟨⟨by decide +kernel, by decide +kernel⟩, List.mem_of_getElem? (i := 447) (by decide +kernel), List.mem_of_getElem? (i := 654) (by decide +kernel), List.mem_of_getElem? (i := 655) (by decide +kernel)⟩
theorem lw_p44 : lw_okq (⟨"NestedTagsModel", "empty", "()I"⟩, 33) := ⟨⟨by decide +kernel, by decide +kernel⟩, List.mem_of_getElem? (i := 447) (by decide +kernel), List.mem_of_getElem? (i := 658) (by decide +kernel), List.mem_of_getElem? (i := 659) (by decide +kernel)⟩
theorem lw_p45 : lw_okq (⟨"NestedTagsModel", "section", "(I)I"⟩, 33) := ⟨⟨by decide +kernel, by decide +kernel⟩, List.mem_of_getElem? (i := 447) (by decide +kernel), List.mem_of_getElem? (i := 662) (by decide +kernel), List.mem_of_getElem? (i := 663) (by decide +kernel)⟩
theorem lw_p46 : lw_okq (⟨"NestedTagsModel", "content", "(I)I"⟩, 33) := ⟨⟨by decide +kernel, by decide +kernel⟩, List.mem_of_getElem? (i := 447) (by decide +kernel), List.mem_of_getElem? (i := 666) (by decide +kernel), List.mem_of_getElem? (i := 667) (by decide +kernel)⟩
theorem lw_p47 : lw_okq (⟨"NestedTagsModel", "closeCharacters", "()I"⟩, 33) := ⟨⟨by decide +kernel, by decide +kernel⟩, List.mem_of_getElem? (i := 447) (by decide +kernel), List.mem_of_getElem? (i := 670) (by decide +kernel), List.mem_of_getElem? (i := 671) (by decide +kernel)⟩
def lw_privs_3 : List (MethodName × Nat) := [(⟨"NestedTagsModel", "nameFrom", "(II)I"⟩, 33), (⟨"NestedTagsModel", "target", "(I)I"⟩, 33), (⟨"NestedTagsModel", "isBarred", "()Z"⟩, 33), (⟨"NestedTagsModel", "endName", "(I)I"⟩, 33), (⟨"NestedTagsModel", "same", "(IIII)Z"⟩, 33), (⟨"NestedTagsModel", "end", "(I)I"⟩, 33), (⟨"NestedTagsModel", "tagName", "(I)I"⟩, 33), (⟨"NestedTagsModel", "start", "(I)I"⟩, 33), (⟨"NestedTagsModel", "inTag", "(I)I"⟩, 33), (⟨"NestedTagsModel", "attributeName", "(I)I"⟩, 33), (⟨"NestedTagsModel", "equal", "(I)I"⟩, 33), (⟨"NestedTagsModel", "value", "(I)I"⟩, 33), (⟨"NestedTagsModel", "empty", "()I"⟩, 33), (⟨"NestedTagsModel", "section", "(I)I"⟩, 33), (⟨"NestedTagsModel", "content", "(I)I"⟩, 33), (⟨"NestedTagsModel", "closeCharacters", "()I"⟩, 33)]
theorem lw_r3 : ∀ q ∈ lw_privs_3, lw_okq q := List.forall_mem_cons.mpr ⟨lw_p32, List.forall_mem_cons.mpr ⟨lw_p33, List.forall_mem_cons.mpr ⟨lw_p34, List.forall_mem_cons.mpr ⟨lw_p35, List.forall_mem_cons.mpr ⟨lw_p36, List.forall_mem_cons.mpr ⟨lw_p37, List.forall_mem_cons.mpr ⟨lw_p38, List.forall_mem_cons.mpr ⟨lw_p39, List.forall_mem_cons.mpr ⟨lw_p40, List.forall_mem_cons.mpr ⟨lw_p41, List.forall_mem_cons.mpr ⟨lw_p42, List.forall_mem_cons.mpr ⟨lw_p43, List.forall_mem_cons.mpr ⟨lw_p44, List.forall_mem_cons.mpr ⟨lw_p45, List.forall_mem_cons.mpr ⟨lw_p46, List.forall_mem_cons.mpr ⟨lw_p47, fun _ h => absurd h List.not_mem_nil⟩⟩⟩⟩⟩⟩⟩⟩⟩⟩⟩⟩⟩⟩⟩⟩
theorem lw_p48 : lw_okq (⟨"NestedTagsModel", "refer", "(I)I"⟩, 33) := ⟨⟨by decide +kernel, by decide +kernel⟩, List.mem_of_getElem? (i := 447) (by decide +kernel), List.mem_of_getElem? (i := 674) (by decide +kernel), List.mem_of_getElem? (i := 675) (by decide +kernel)⟩
theorem lw_p49 : lw_okq (⟨"NestedTagsModel", "referredName", "(I)I"⟩, 33) := ⟨⟨by decide +kernel, by decide +kernel⟩, List.mem_of_getElem? (i := 447) (by decide +kernel), List.mem_of_getElem? (i := 678) (by decide +kernel), List.mem_of_getElem? (i := 679) (by decide +kernel)⟩
theorem lw_p50 : lw_okq (⟨"NestedTagsModel", "is", "(J)Z"⟩, 33) := ⟨⟨by decide +kernel, by decide +kernel⟩, List.mem_of_getElem? (i := 447) (by decide +kernel), List.mem_of_getElem? (i := 683) (by decide +kernel), List.mem_of_getElem? (i := 684) (by decide +kernel)⟩
theorem lw_p51 : lw_okq (⟨"NestedTagsModel", "referred", "()I"⟩, 33) := ⟨⟨by decide +kernel, by decide +kernel⟩, List.mem_of_getElem? (i := 447) (by decide +kernel), List.mem_of_getElem? (i := 691) (by decide +kernel), List.mem_of_getElem? (i := 692) (by decide +kernel)⟩
theorem lw_p52 : lw_okq (⟨"NestedTagsModel", "digit", "(II)I"⟩, 33) := ⟨⟨by decide +kernel, by decide +kernel⟩, List.mem_of_getElem? (i := 447) (by decide +kernel), List.mem_of_getElem? (i := 695) (by decide +kernel), List.mem_of_getElem? (i := 696) (by decide +kernel)⟩
def lw_privs_4 : List (MethodName × Nat) := [(⟨"NestedTagsModel", "refer", "(I)I"⟩, 33), (⟨"NestedTagsModel", "referredName", "(I)I"⟩, 33), (⟨"NestedTagsModel", "is", "(J)Z"⟩, 33), (⟨"NestedTagsModel", "referred", "()I"⟩, 33), (⟨"NestedTagsModel", "digit", "(II)I"⟩, 33)]
theorem lw_r4 : ∀ q ∈ lw_privs_4, lw_okq q := List.forall_mem_cons.mpr ⟨lw_p48, List.forall_mem_cons.mpr ⟨lw_p49, List.forall_mem_cons.mpr ⟨lw_p50, List.forall_mem_cons.mpr ⟨lw_p51, List.forall_mem_cons.mpr ⟨lw_p52, fun _ h => absurd h List.not_mem_nil⟩⟩⟩⟩⟩
def lw_privs : List (MethodName × Nat) := lw_privs_1 ++ (lw_privs_2 ++ (lw_privs_3 ++ (lw_privs_4)))
def lw_tbl : List Cond := k2_sels lw_privs ++ tables_1
theorem lw_privs_ok : ∀ q ∈ lw_privs, lw_okq q := by
  show ∀ q ∈ lw_privs_1 ++ (lw_privs_2 ++ (lw_privs_3 ++ (lw_privs_4))), lw_okq q
  exact List.forall_mem_append.mpr ⟨lw_r1, List.forall_mem_append.mpr ⟨lw_r2, List.forall_mem_append.mpr ⟨lw_r3, lw_r4⟩⟩⟩
end
section
def RX0 : String := "NestedTags$Cursor"
def TX0 : u_T := fun k => match k with
  | 0 => ("NestedTags$Cursor", "bytes", "[I", false)
  | 1 => ("NestedTags$Cursor", "length", "I", false)
  | 2 => ("NestedTags$Cursor", "at", "I", false)
  | 3 => ("NestedTags$Cursor", "fault", "I", false)
  | _ => ("NestedTags$Cursor", "faultPlace", "I", false)
def tyX0 : Nat → FieldType := fun k => match k with
  | 0 => .array .int
  | 1 => .int
  | 2 => .int
  | 3 => .int
  | _ => .int
abbrev wsX00 : List Cond := u_ws RX0 TX0 5
theorem nmX0 : ∀ a, a < 5 → ∀ b, b < 5 → a ≠ b → (TX0 a).2.1 ≠ (TX0 b).2.1 := by decide +kernel
theorem tyX0_ok : ∀ k, k < 5 → parseFieldDescriptor (TX0 k).2.2.1 = some (tyX0 k) := by decide +kernel
abbrev cX0_init : ByteArray := prog_2_method_1_code
def yX0_init : MethodName := ⟨RX0, "<init>", "()V"⟩
abbrev cX0_begin : ByteArray := prog_2_method_2_code
def yX0_begin : MethodName := ⟨RX0, "begin", "([II)[I"⟩
abbrev cX0_goesOn : ByteArray := prog_2_method_3_code
def yX0_goesOn : MethodName := ⟨RX0, "goesOn", "()Z"⟩
abbrev cX0_byteAt : ByteArray := prog_2_method_4_code
def yX0_byteAt : MethodName := ⟨RX0, "byteAt", "(I)I"⟩
abbrev cX0_here : ByteArray := prog_2_method_5_code
def yX0_here : MethodName := ⟨RX0, "here", "()I"⟩
abbrev cX0_fail : ByteArray := prog_2_method_6_code
def yX0_fail : MethodName := ⟨RX0, "fail", "(II)Z"⟩
abbrev cX0_failHere : ByteArray := prog_2_method_7_code
def yX0_failHere : MethodName := ⟨RX0, "failHere", "()Z"⟩
abbrev cX0_standsAt : ByteArray := prog_2_method_8_code
def yX0_standsAt : MethodName := ⟨RX0, "standsAt", "(Ljava/lang/String;I)Z"⟩
abbrev cX0_isWord : ByteArray := prog_2_method_9_code
def yX0_isWord : MethodName := ⟨RX0, "isWord", "(Ljava/lang/String;II)Z"⟩
abbrev cX0_sameBytes : ByteArray := prog_2_method_10_code
def yX0_sameBytes : MethodName := ⟨RX0, "sameBytes", "(III)Z"⟩
abbrev cX0_expect : ByteArray := prog_2_method_11_code
def yX0_expect : MethodName := ⟨RX0, "expect", "(Ljava/lang/String;)Z"⟩
abbrev cX0_passBlanks : ByteArray := prog_2_method_12_code
def yX0_passBlanks : MethodName := ⟨RX0, "passBlanks", "()Z"⟩
abbrev cX0_passName : ByteArray := prog_2_method_13_code
def yX0_passName : MethodName := ⟨RX0, "passName", "()Z"⟩
abbrev cX0_passNumber : ByteArray := prog_2_method_14_code
def yX0_passNumber : MethodName := ⟨RX0, "passNumber", "(I)I"⟩
abbrev cX0_passUntil : ByteArray := prog_2_method_15_code
def yX0_passUntil : MethodName := ⟨RX0, "passUntil", "(Ljava/lang/String;)Z"⟩
def RX1 : String := "NestedTags$Names"
def TX1 : u_T := fun k => match k with
  | 0 => ("NestedTags$Names", "begins", "[I", true)
  | 1 => ("NestedTags$Names", "ends", "[I", true)
  | 2 => ("NestedTags$Names", "limit", "I", true)
  | _ => ("NestedTags$Names", "size", "I", false)
def tyX1 : Nat → FieldType := fun k => match k with
  | 0 => .array .int
  | 1 => .array .int
  | 2 => .int
  | _ => .int
abbrev wsX10 : List Cond := u_ws RX1 TX1 4
theorem nmX1 : ∀ a, a < 4 → ∀ b, b < 4 → a ≠ b → (TX1 a).2.1 ≠ (TX1 b).2.1 := by decide +kernel
theorem tyX1_ok : ∀ k, k < 4 → parseFieldDescriptor (TX1 k).2.2.1 = some (tyX1 k) := by decide +kernel
abbrev cX1_init : ByteArray := prog_3_method_1_code
def yX1_init : MethodName := ⟨RX1, "<init>", "(I)V"⟩
abbrev cX1_clear : ByteArray := prog_3_method_2_code
def yX1_clear : MethodName := ⟨RX1, "clear", "()V"⟩
abbrev cX1_isFull : ByteArray := prog_3_method_3_code
def yX1_isFull : MethodName := ⟨RX1, "isFull", "()Z"⟩
abbrev cX1_add : ByteArray := prog_3_method_4_code
def yX1_add : MethodName := ⟨RX1, "add", "(II)V"⟩
abbrev cX1_dropLast : ByteArray := prog_3_method_5_code
def yX1_dropLast : MethodName := ⟨RX1, "dropLast", "()V"⟩
abbrev cX1_isLast : ByteArray := prog_3_method_6_code
def yX1_isLast : MethodName := ⟨RX1, "isLast", "(LNestedTags$Cursor;II)Z"⟩
abbrev cX1_has : ByteArray := prog_3_method_7_code
def yX1_has : MethodName := ⟨RX1, "has", "(LNestedTags$Cursor;II)Z"⟩
abbrev cX1_isAt : ByteArray := prog_3_method_8_code
def yX1_isAt : MethodName := ⟨RX1, "isAt", "(ILNestedTags$Cursor;II)Z"⟩
def RX2 : String := "NestedTags$Pieces"
def TX2 : u_T := fun k => match k with
  | 0 => ("NestedTags$Pieces", "kinds", "[I", true)
  | 1 => ("NestedTags$Pieces", "begins", "[I", true)
  | 2 => ("NestedTags$Pieces", "ends", "[I", true)
  | 3 => ("NestedTags$Pieces", "depths", "[I", true)
  | 4 => ("NestedTags$Pieces", "size", "I", false)
  | _ => ("NestedTags$Pieces", "attributes", "I", false)
def tyX2 : Nat → FieldType := fun k => match k with
  | 0 => .array .int
  | 1 => .array .int
  | 2 => .array .int
  | 3 => .array .int
  | 4 => .int
  | _ => .int
abbrev wsX20 : List Cond := u_ws RX2 TX2 6
theorem nmX2 : ∀ a, a < 6 → ∀ b, b < 6 → a ≠ b → (TX2 a).2.1 ≠ (TX2 b).2.1 := by decide +kernel
theorem tyX2_ok : ∀ k, k < 6 → parseFieldDescriptor (TX2 k).2.2.1 = some (tyX2 k) := by decide +kernel
abbrev cX2_init : ByteArray := prog_4_method_1_code
def yX2_init : MethodName := ⟨RX2, "<init>", "()V"⟩
abbrev cX2_clear : ByteArray := prog_4_method_2_code
def yX2_clear : MethodName := ⟨RX2, "clear", "()V"⟩
abbrev cX2_add : ByteArray := prog_4_method_3_code
def yX2_add : MethodName := ⟨RX2, "add", "(IIII)Z"⟩
abbrev cX2_tell : ByteArray := prog_4_method_4_code
def yX2_tell : MethodName := ⟨RX2, "tell", "(II)I"⟩
def RX3 : String := "NestedTags"
def TX3 : u_T := fun k => match k with
  | 0 => ("NestedTags", "coming", "[I", false)
  | 1 => ("NestedTags", "comingLength", "I", false)
  | 2 => ("NestedTags", "cursor", "LNestedTags$Cursor;", true)
  | 3 => ("NestedTags", "pieces", "LNestedTags$Pieces;", true)
  | 4 => ("NestedTags", "openElements", "LNestedTags$Names;", true)
  | 5 => ("NestedTags", "tagAttributes", "LNestedTags$Names;", true)
  | 6 => ("NestedTags", "elements", "I", false)
  | 7 => ("NestedTags", "mostOpen", "I", false)
  | 8 => ("NestedTags", "inTag", "Z", false)
  | 9 => ("NestedTags", "tagBegin", "I", false)
  | 10 => ("NestedTags", "tagNameBegin", "I", false)
  | 11 => ("NestedTags", "tagNameEnd", "I", false)
  | 12 => ("NestedTags", "attributeBegin", "I", false)
  | _ => ("NestedTags", "quote", "I", false)
def tyX3 : Nat → FieldType := fun k => match k with
  | 0 => .array .int
  | 1 => .int
  | 2 => .object "NestedTags$Cursor"
  | 3 => .object "NestedTags$Pieces"
  | 4 => .object "NestedTags$Names"
  | 5 => .object "NestedTags$Names"
  | 6 => .int
  | 7 => .int
  | 8 => .boolean
  | 9 => .int
  | 10 => .int
  | 11 => .int
  | 12 => .int
  | _ => .int
abbrev wsX30 : List Cond := u_ws RX3 TX3 14
theorem nmX3 : ∀ a, a < 14 → ∀ b, b < 14 → a ≠ b → (TX3 a).2.1 ≠ (TX3 b).2.1 := by decide +kernel
theorem tyX3_ok : ∀ k, k < 14 → parseFieldDescriptor (TX3 k).2.2.1 = some (tyX3 k) := by decide +kernel
abbrev cX3_init : ByteArray := prog_1_method_1_code
def yX3_init : MethodName := ⟨RX3, "<init>", "()V"⟩
abbrev cX3_put : ByteArray := prog_1_method_2_code
def yX3_put : MethodName := ⟨RX3, "put", "(JI)Z"⟩
abbrev cX3_read : ByteArray := prog_1_method_3_code
def yX3_read : MethodName := ⟨RX3, "read", "()I"⟩
abbrev cX3_place : ByteArray := prog_1_method_4_code
def yX3_place : MethodName := ⟨RX3, "place", "()I"⟩
abbrev cX3_piece : ByteArray := prog_1_method_5_code
def yX3_piece : MethodName := ⟨RX3, "piece", "(II)I"⟩
abbrev cX3_byteOf : ByteArray := prog_1_method_6_code
def yX3_byteOf : MethodName := ⟨RX3, "byteOf", "(I)I"⟩
abbrev cX3_count : ByteArray := prog_1_method_7_code
def yX3_count : MethodName := ⟨RX3, "count", "(I)I"⟩
abbrev cX3_beginText : ByteArray := prog_1_method_8_code
def yX3_beginText : MethodName := ⟨RX3, "beginText", "()V"⟩
abbrev cX3_endText : ByteArray := prog_1_method_9_code
def yX3_endText : MethodName := ⟨RX3, "endText", "()V"⟩
abbrev cX3_readBetween : ByteArray := prog_1_method_10_code
def yX3_readBetween : MethodName := ⟨RX3, "readBetween", "()V"⟩
abbrev cX3_readMarkup : ByteArray := prog_1_method_11_code
def yX3_readMarkup : MethodName := ⟨RX3, "readMarkup", "()V"⟩
abbrev cX3_readInstruction : ByteArray := prog_1_method_12_code
def yX3_readInstruction : MethodName := ⟨RX3, "readInstruction", "()V"⟩
abbrev cX3_readComment : ByteArray := prog_1_method_13_code
def yX3_readComment : MethodName := ⟨RX3, "readComment", "()V"⟩
abbrev cX3_readSection : ByteArray := prog_1_method_14_code
def yX3_readSection : MethodName := ⟨RX3, "readSection", "()V"⟩
abbrev cX3_readCharacters : ByteArray := prog_1_method_15_code
def yX3_readCharacters : MethodName := ⟨RX3, "readCharacters", "()V"⟩
abbrev cX3_readContentReference : ByteArray := prog_1_method_16_code
def yX3_readContentReference : MethodName := ⟨RX3, "readContentReference", "()V"⟩
abbrev cX3_readReference : ByteArray := prog_1_method_17_code
def yX3_readReference : MethodName := ⟨RX3, "readReference", "()Z"⟩
abbrev cX3_readNumber : ByteArray := prog_1_method_18_code
def yX3_readNumber : MethodName := ⟨RX3, "readNumber", "(I)Z"⟩
abbrev cX3_readEndTag : ByteArray := prog_1_method_19_code
def yX3_readEndTag : MethodName := ⟨RX3, "readEndTag", "()V"⟩
abbrev cX3_readTagName : ByteArray := prog_1_method_20_code
def yX3_readTagName : MethodName := ⟨RX3, "readTagName", "()V"⟩
abbrev cX3_readInTag : ByteArray := prog_1_method_21_code
def yX3_readInTag : MethodName := ⟨RX3, "readInTag", "()V"⟩
abbrev cX3_endStartTag : ByteArray := prog_1_method_22_code
def yX3_endStartTag : MethodName := ⟨RX3, "endStartTag", "()V"⟩
abbrev cX3_endEmptyTag : ByteArray := prog_1_method_23_code
def yX3_endEmptyTag : MethodName := ⟨RX3, "endEmptyTag", "()V"⟩
abbrev cX3_readAttributeName : ByteArray := prog_1_method_24_code
def yX3_readAttributeName : MethodName := ⟨RX3, "readAttributeName", "()V"⟩
abbrev cX3_readToValue : ByteArray := prog_1_method_25_code
def yX3_readToValue : MethodName := ⟨RX3, "readToValue", "()V"⟩
abbrev cX3_readInValue : ByteArray := prog_1_method_26_code
def yX3_readInValue : MethodName := ⟨RX3, "readInValue", "()V"⟩
abbrev cX3_addPiece : ByteArray := prog_1_method_27_code
def yX3_addPiece : MethodName := ⟨RX3, "addPiece", "(II)Z"⟩
abbrev cX3_isReserved : ByteArray := prog_1_method_28_code
def yX3_isReserved : MethodName := ⟨RX3, "isReserved", "(II)Z"⟩
abbrev cX3_isKnownReference : ByteArray := prog_1_method_29_code
def yX3_isKnownReference : MethodName := ⟨RX3, "isKnownReference", "(II)Z"⟩
abbrev cX3_isBlank : ByteArray := prog_1_method_30_code
def yX3_isBlank : MethodName := ⟨RX3, "isBlank", "(I)Z"⟩
abbrev cX3_isCharacter : ByteArray := prog_1_method_31_code
def yX3_isCharacter : MethodName := ⟨RX3, "isCharacter", "(I)Z"⟩
abbrev cX3_isContentCharacter : ByteArray := prog_1_method_32_code
def yX3_isContentCharacter : MethodName := ⟨RX3, "isContentCharacter", "(I)Z"⟩
abbrev cX3_isNameStart : ByteArray := prog_1_method_33_code
def yX3_isNameStart : MethodName := ⟨RX3, "isNameStart", "(I)Z"⟩
abbrev cX3_isNamePart : ByteArray := prog_1_method_34_code
def yX3_isNamePart : MethodName := ⟨RX3, "isNamePart", "(I)Z"⟩
abbrev cX3_digitOf : ByteArray := prog_1_method_35_code
def yX3_digitOf : MethodName := ⟨RX3, "digitOf", "(II)I"⟩
def RX4 : String := "NestedTagsModel"
def TX4 : u_T := fun k => match k with
  | 0 => ("NestedTagsModel", "text", "[I", true)
  | 1 => ("NestedTagsModel", "size", "I", false)
  | 2 => ("NestedTagsModel", "read", "[I", true)
  | 3 => ("NestedTagsModel", "length", "I", false)
  | 4 => ("NestedTagsModel", "pieces", "I", false)
  | 5 => ("NestedTagsModel", "kinds", "[I", true)
  | 6 => ("NestedTagsModel", "begins", "[I", true)
  | 7 => ("NestedTagsModel", "ends", "[I", true)
  | 8 => ("NestedTagsModel", "depths", "[I", true)
  | 9 => ("NestedTagsModel", "open", "I", false)
  | 10 => ("NestedTagsModel", "names", "[I", true)
  | 11 => ("NestedTagsModel", "sizes", "[I", true)
  | 12 => ("NestedTagsModel", "attributes", "I", false)
  | 13 => ("NestedTagsModel", "attributeAt", "[I", true)
  | 14 => ("NestedTagsModel", "attributeSize", "[I", true)
  | 15 => ("NestedTagsModel", "elements", "I", false)
  | 16 => ("NestedTagsModel", "most", "I", false)
  | 17 => ("NestedTagsModel", "values", "I", false)
  | 18 => ("NestedTagsModel", "place", "I", false)
  | 19 => ("NestedTagsModel", "phase", "I", false)
  | 20 => ("NestedTagsModel", "state", "I", false)
  | 21 => ("NestedTagsModel", "at", "I", false)
  | 22 => ("NestedTagsModel", "begin", "I", false)
  | 23 => ("NestedTagsModel", "name", "I", false)
  | 24 => ("NestedTagsModel", "reference", "I", false)
  | 25 => ("NestedTagsModel", "tag", "I", false)
  | 26 => ("NestedTagsModel", "tagSize", "I", false)
  | 27 => ("NestedTagsModel", "quote", "I", false)
  | 28 => ("NestedTagsModel", "characters", "I", false)
  | 29 => ("NestedTagsModel", "brackets", "I", false)
  | 30 => ("NestedTagsModel", "matched", "I", false)
  | 31 => ("NestedTagsModel", "number", "J", false)
  | _ => ("NestedTagsModel", "fault", "I", false)
def tyX4 : Nat → FieldType := fun k => match k with
  | 0 => .array .int
  | 1 => .int
  | 2 => .array .int
  | 3 => .int
  | 4 => .int
  | 5 => .array .int
  | 6 => .array .int
  | 7 => .array .int
  | 8 => .array .int
  | 9 => .int
  | 10 => .array .int
  | 11 => .array .int
  | 12 => .int
  | 13 => .array .int
  | 14 => .array .int
  | 15 => .int
  | 16 => .int
  | 17 => .int
  | 18 => .int
  | 19 => .int
  | 20 => .int
  | 21 => .int
  | 22 => .int
  | 23 => .int
  | 24 => .int
  | 25 => .int
  | 26 => .int
  | 27 => .int
  | 28 => .int
  | 29 => .int
  | 30 => .int
  | 31 => .long
  | _ => .int
abbrev wsX40 : List Cond := u_ws RX4 TX4 33
theorem nmX4 : ∀ a, a < 33 → ∀ b, b < 33 → a ≠ b → (TX4 a).2.1 ≠ (TX4 b).2.1 := by decide +kernel
theorem tyX4_ok : ∀ k, k < 33 → parseFieldDescriptor (TX4 k).2.2.1 = some (tyX4 k) := by decide +kernel
abbrev cX4_init : ByteArray := prog_6_method_1_code
def yX4_init : MethodName := ⟨RX4, "<init>", "()V"⟩
abbrev cX4_put : ByteArray := prog_6_method_2_code
def yX4_put : MethodName := ⟨RX4, "put", "(JI)Z"⟩
abbrev cX4_isBlank : ByteArray := prog_6_method_3_code
def yX4_isBlank : MethodName := ⟨RX4, "isBlank", "(I)Z"⟩
abbrev cX4_isSign : ByteArray := prog_6_method_4_code
def yX4_isSign : MethodName := ⟨RX4, "isSign", "(I)Z"⟩
abbrev cX4_isBegin : ByteArray := prog_6_method_5_code
def yX4_isBegin : MethodName := ⟨RX4, "isBegin", "(I)Z"⟩
abbrev cX4_isPart : ByteArray := prog_6_method_6_code
def yX4_isPart : MethodName := ⟨RX4, "isPart", "(I)Z"⟩
abbrev cX4_isHex : ByteArray := prog_6_method_7_code
def yX4_isHex : MethodName := ⟨RX4, "isHex", "(I)Z"⟩
abbrev cX4_fail : ByteArray := prog_6_method_8_code
def yX4_fail : MethodName := ⟨RX4, "fail", "(II)I"⟩
abbrev cX4_go : ByteArray := prog_6_method_9_code
def yX4_go : MethodName := ⟨RX4, "go", "(I)I"⟩
abbrev cX4_wrong : ByteArray := prog_6_method_10_code
def yX4_wrong : MethodName := ⟨RX4, "wrong", "()I"⟩
abbrev cX4_add : ByteArray := prog_6_method_11_code
def yX4_add : MethodName := ⟨RX4, "add", "(IIII)I"⟩
abbrev cX4_closed : ByteArray := prog_6_method_12_code
def yX4_closed : MethodName := ⟨RX4, "closed", "(I)I"⟩
abbrev cX4_same : ByteArray := prog_6_method_13_code
def yX4_same : MethodName := ⟨RX4, "same", "(IIII)Z"⟩
abbrev cX4_is : ByteArray := prog_6_method_14_code
def yX4_is : MethodName := ⟨RX4, "is", "(J)Z"⟩
abbrev cX4_isBarred : ByteArray := prog_6_method_15_code
def yX4_isBarred : MethodName := ⟨RX4, "isBarred", "()Z"⟩
abbrev cX4_start : ByteArray := prog_6_method_16_code
def yX4_start : MethodName := ⟨RX4, "start", "(I)I"⟩
abbrev cX4_empty : ByteArray := prog_6_method_17_code
def yX4_empty : MethodName := ⟨RX4, "empty", "()I"⟩
abbrev cX4_end : ByteArray := prog_6_method_18_code
def yX4_end : MethodName := ⟨RX4, "end", "(I)I"⟩
abbrev cX4_endName : ByteArray := prog_6_method_19_code
def yX4_endName : MethodName := ⟨RX4, "endName", "(I)I"⟩
abbrev cX4_tagName : ByteArray := prog_6_method_20_code
def yX4_tagName : MethodName := ⟨RX4, "tagName", "(I)I"⟩
abbrev cX4_attributeName : ByteArray := prog_6_method_21_code
def yX4_attributeName : MethodName := ⟨RX4, "attributeName", "(I)I"⟩
abbrev cX4_equal : ByteArray := prog_6_method_22_code
def yX4_equal : MethodName := ⟨RX4, "equal", "(I)I"⟩
abbrev cX4_inTag : ByteArray := prog_6_method_23_code
def yX4_inTag : MethodName := ⟨RX4, "inTag", "(I)I"⟩
abbrev cX4_value : ByteArray := prog_6_method_24_code
def yX4_value : MethodName := ⟨RX4, "value", "(I)I"⟩
abbrev cX4_less : ByteArray := prog_6_method_25_code
def yX4_less : MethodName := ⟨RX4, "less", "(I)I"⟩
abbrev cX4_bang : ByteArray := prog_6_method_26_code
def yX4_bang : MethodName := ⟨RX4, "bang", "(I)I"⟩
abbrev cX4_section : ByteArray := prog_6_method_27_code
def yX4_section : MethodName := ⟨RX4, "section", "(I)I"⟩
abbrev cX4_target : ByteArray := prog_6_method_28_code
def yX4_target : MethodName := ⟨RX4, "target", "(I)I"⟩
abbrev cX4_nameFrom : ByteArray := prog_6_method_29_code
def yX4_nameFrom : MethodName := ⟨RX4, "nameFrom", "(II)I"⟩
abbrev cX4_closeCharacters : ByteArray := prog_6_method_30_code
def yX4_closeCharacters : MethodName := ⟨RX4, "closeCharacters", "()I"⟩
abbrev cX4_content : ByteArray := prog_6_method_31_code
def yX4_content : MethodName := ⟨RX4, "content", "(I)I"⟩
abbrev cX4_referred : ByteArray := prog_6_method_32_code
def yX4_referred : MethodName := ⟨RX4, "referred", "()I"⟩
abbrev cX4_referredName : ByteArray := prog_6_method_33_code
def yX4_referredName : MethodName := ⟨RX4, "referredName", "(I)I"⟩
abbrev cX4_digit : ByteArray := prog_6_method_34_code
def yX4_digit : MethodName := ⟨RX4, "digit", "(II)I"⟩
abbrev cX4_refer : ByteArray := prog_6_method_35_code
def yX4_refer : MethodName := ⟨RX4, "refer", "(I)I"⟩
abbrev cX4_text : ByteArray := prog_6_method_36_code
def yX4_text : MethodName := ⟨RX4, "text", "(ICI)I"⟩
abbrev cX4_step : ByteArray := prog_6_method_37_code
def yX4_step : MethodName := ⟨RX4, "step", "(I)I"⟩
abbrev cX4_read : ByteArray := prog_6_method_38_code
def yX4_read : MethodName := ⟨RX4, "read", "()I"⟩
abbrev cX4_place : ByteArray := prog_6_method_39_code
def yX4_place : MethodName := ⟨RX4, "place", "()I"⟩
abbrev cX4_piece : ByteArray := prog_6_method_40_code
def yX4_piece : MethodName := ⟨RX4, "piece", "(II)I"⟩
abbrev cX4_byteOf : ByteArray := prog_6_method_41_code
def yX4_byteOf : MethodName := ⟨RX4, "byteOf", "(I)I"⟩
abbrev cX4_count : ByteArray := prog_6_method_42_code
def yX4_count : MethodName := ⟨RX4, "count", "(I)I"⟩
def RJ9 : String := "java/lang/Math"
abbrev cJ9_max_7cf53 : ByteArray := prog_7_method_65_code
def yJ9_max_7cf53 : MethodName := ⟨RJ9, "max", "(II)I"⟩
abbrev cJ9_min_7cf53 : ByteArray := prog_7_method_69_code
def yJ9_min_7cf53 : MethodName := ⟨RJ9, "min", "(II)I"⟩
def RJ0 : String := "java/lang/String"
abbrev cJ0_length_8abf5 : ByteArray := prog_8_method_54_code
def yJ0_length_8abf5 : MethodName := ⟨RJ0, "length", "()I"⟩
abbrev cJ0_charAt_5068e : ByteArray := prog_8_method_56_code
def yJ0_charAt_5068e : MethodName := ⟨RJ0, "charAt", "(I)C"⟩
abbrev cJ0_coder_7d493 : ByteArray := prog_8_method_152_code
def yJ0_coder_7d493 : MethodName := ⟨RJ0, "coder", "()B"⟩
abbrev cJ0_isLatin1_aae02 : ByteArray := prog_8_method_154_code
def yJ0_isLatin1_aae02 : MethodName := ⟨RJ0, "isLatin1", "()Z"⟩
abbrev cJ0_checkIndex_df160 : ByteArray := prog_8_method_155_code
def yJ0_checkIndex_df160 : MethodName := ⟨RJ0, "checkIndex", "(II)V"⟩
def RJ1 : String := "java/lang/StringLatin1"
abbrev cJ1_charAt_3b067 : ByteArray := prog_9_method_2_code
def yJ1_charAt_3b067 : MethodName := ⟨RJ1, "charAt", "([BI)C"⟩
def RJ2 : String := "java/lang/StringUTF16"
abbrev cJ2_getChar_3b067 : ByteArray := prog_10_method_5_code
def yJ2_getChar_3b067 : MethodName := ⟨RJ2, "getChar", "([BI)C"⟩
abbrev cJ2_length_9d52b : ByteArray := prog_10_method_6_code
def yJ2_length_9d52b : MethodName := ⟨RJ2, "length", "([B)I"⟩
abbrev cJ2_charAt_3b067 : ByteArray := prog_10_method_83_code
def yJ2_charAt_3b067 : MethodName := ⟨RJ2, "charAt", "([BI)C"⟩
abbrev cJ2_checkIndex_2214a : ByteArray := prog_10_method_91_code
def yJ2_checkIndex_2214a : MethodName := ⟨RJ2, "checkIndex", "(I[B)V"⟩
def RJ3 : String := "jdk/internal/util/Preconditions"
abbrev cJ3_checkIndex_8e157 : ByteArray := prog_11_method_11_code
def yJ3_checkIndex_8e157 : MethodName := ⟨RJ3, "checkIndex", "(IILjava/util/function/BiFunction;)I"⟩
def RL : String := "NestedTagsLaw"
abbrev cL_law : ByteArray := code
def yL_law : MethodName := ⟨RL, "law", "([I)Z"⟩
end
section
/-! The tables' good words as one list; contracts over it; the frame rule of a call in one row. -/
def tbW : List Cond := lw_tbl.filter goodWord
theorem tb_mem {w : Cond} (h : w ∈ lw_tbl) (g : goodWord w = true) : w ∈ tbW := List.mem_filter.mpr ⟨h, g⟩
theorem tb_0 {w : Cond} (i : Nat) (h : (k2_sels lw_privs)[i]? = some w) (g : goodWord w = true) : w ∈ tbW := tb_mem (List.mem_append_left _ (List.mem_of_getElem? h)) g
theorem tb_1 {w : Cond} (i : Nat) (h : tables_1_1[i]? = some w) (g : goodWord w = true) : w ∈ tbW := tb_mem (List.mem_append_right _ (List.mem_append_left _ (List.mem_of_getElem? h))) g
theorem tb_2 {w : Cond} (i : Nat) (h : tables_1_2[i]? = some w) (g : goodWord w = true) : w ∈ tbW := tb_mem (List.mem_append_right _ (List.mem_append_right _ (List.mem_append_left _ (List.mem_of_getElem? h)))) g
theorem tb_3 {w : Cond} (i : Nat) (h : tables_1_3[i]? = some w) (g : goodWord w = true) : w ∈ tbW := tb_mem (List.mem_append_right _ (List.mem_append_right _ (List.mem_append_right _ (List.mem_append_left _ (List.mem_of_getElem? h))))) g
theorem tb_4 {w : Cond} (i : Nat) (h : tables_1_4[i]? = some w) (g : goodWord w = true) : w ∈ tbW := tb_mem (List.mem_append_right _ (List.mem_append_right _ (List.mem_append_right _ (List.mem_append_right _ (List.mem_of_getElem? h))))) g
theorem tb_in {w : Cond} (h : w ∈ tbW) : w ∈ lw_tbl := (List.mem_filter.mp h).1
theorem tb_ok {w : Cond} (h : w ∈ tbW) : (w.onTables && w.keeps) = true ∨ ∃ ty, w = .arrayClass ty := good_of_word (List.mem_filter.mp h).2
theorem tb_good {b : Cond} (hb : b ∈ tbW) : GoodIn tbW (b :: tbW) := by
  intro w hw
  have h1 : w ∈ tbW := by
    rcases List.mem_cons.mp hw with h | h
    · rw [h]; exact hb
    · exact h
  exact ⟨h1, tb_ok h1⟩
theorem tb_goodV {own : String} {idx : Nat} {C : String} {y : MethodName} {b : Cond} (h1 : Cond.methodLink own idx y ∈ tbW) (h2 : Cond.instanceMethod y ∈ tbW) (h3 : Cond.selects C y y ∈ tbW) (h4 : Cond.initialized C ∈ tbW) (hb : b ∈ tbW) : GoodIn tbW (wsV own idx C y (b :: tbW)) := by
  intro w hw
  unfold wsV at hw
  rcases List.mem_append.mp hw with h | h
  · simp only [List.mem_cons, List.not_mem_nil, or_false] at h
    rcases h with rfl | rfl | rfl | rfl
    · exact ⟨h1, tb_ok h1⟩
    · exact ⟨h2, tb_ok h2⟩
    · exact ⟨h3, tb_ok h3⟩
    · exact ⟨h4, tb_ok h4⟩
  · exact tb_good hb w h
theorem tb_goodS {own : String} {idx : Nat} {y : MethodName} {b : Cond} (h1 : Cond.methodLink own idx y ∈ tbW) (h2 : Cond.static y ∈ tbW) (h3 : Cond.initialized y.cls ∈ tbW) (hb : b ∈ tbW) : GoodIn tbW (va_wsS own idx y (b :: tbW)) := by
  intro w hw
  unfold va_wsS at hw
  rcases List.mem_append.mp hw with h | h
  · simp only [List.mem_cons, List.not_mem_nil, or_false] at h
    rcases h with rfl | rfl | rfl
    · exact ⟨h1, tb_ok h1⟩
    · exact ⟨h2, tb_ok h2⟩
    · exact ⟨h3, tb_ok h3⟩
  · exact tb_good hb w h
theorem tb_hts {a : Cond} {args : Array Value} {s : State} (h : ∀ w ∈ a :: tbW, w.before args s = true) : ∀ w ∈ tbW, w.before args s = true := fun w hw => h w (List.mem_cons_of_mem _ hw)
abbrev classes : List vw_C := [(RX0, TX0, 5), (RX1, TX1, 4), (RX2, TX2, 6), (RX3, TX3, 14), (RX4, TX4, 33)]
def nvF : List (String × Nat × String × String × String × String) := [("NestedTags", 182, "NestedTags$Cursor", "length", "I", "NestedTags"), ("NestedTags", 123, "NestedTags$Cursor", "at", "I", "NestedTags"), ("NestedTags", 69, "NestedTags$Cursor", "fault", "I", "NestedTags"), ("NestedTags", 75, "NestedTags$Cursor", "faultPlace", "I", "NestedTags"), ("NestedTags", 72, "NestedTags$Pieces", "size", "I", "NestedTags"), ("NestedTags", 92, "NestedTags$Pieces", "attributes", "I", "NestedTags"), ("NestedTags", 103, "NestedTags$Names", "size", "I", "NestedTags")]
def nvM : List (String × Nat × MethodName × String) := [("NestedTags$Cursor", 66, yX3_digitOf, "NestedTags"), ("NestedTags$Cursor", 60, yX3_isNameStart, "NestedTags"), ("NestedTags$Cursor", 63, yX3_isNamePart, "NestedTags"), ("NestedTags$Cursor", 56, yX3_isBlank, "NestedTags"), ("NestedTags$Cursor", 75, yX3_isCharacter, "NestedTags")]
def nv (U : State) : Prop := (∀ q ∈ nvF, va_Nw (.fieldLinkNest q.1 q.2.1 q.2.2.1 q.2.2.2.1 q.2.2.2.2.1 q.2.2.2.2.2) U) ∧ ∀ q ∈ nvM, va_Nw (.methodLinkNest q.1 q.2.1 q.2.2.1 q.2.2.2) U
theorem nv.warm {s U : State} (hW : s.WarmedH U.vm) (h : nv s) : nv U := ⟨fun q hq => va_Nw.warmF hW (h.1 q hq), fun q hq => va_Nw.warmM hW (h.2 q hq)⟩
theorem nv.same {u U : State} (e : u.vm = U.vm) (h : nv u) : nv U := ⟨fun q hq => va_Nw.same rfl e (h.1 q hq), fun q hq => va_Nw.same rfl e (h.2 q hq)⟩
theorem nv_f {U : State} (h : nv U) (i : Nat) {q : String × Nat × String × String × String × String} (hq : nvF[i]? = some q) : va_Nw (.fieldLinkNest q.1 q.2.1 q.2.2.1 q.2.2.2.1 q.2.2.2.2.1 q.2.2.2.2.2) U := h.1 q (List.mem_of_getElem? hq)
theorem nv_m {U : State} (h : nv U) (i : Nat) {q : String × Nat × MethodName × String} (hq : nvM[i]? = some q) : va_Nw (.methodLinkNest q.1 q.2.1 q.2.2.1 q.2.2.2) U := h.2 q (List.mem_of_getElem? hq)
abbrev gP (D : va_G) (cI : ClassId) (ws : va_W) (sz : Nat) (U : State) : Prop := U.heap.size = sz ∧ va_P D classes ws U.heap ∧ va_K D classes [(cI, .int)] U ∧ va_D (fun _ => True) ws ∧ nv U
abbrev gB (D : va_G) (cI : ClassId) (A : Nat → Prop) (ws : va_W) (t : State) : Prop := va_P D classes ws t.heap ∧ va_K D classes [(cI, .int)] t ∧ va_D A ws
theorem gblind {D : va_G} {cI : ClassId} {ws : va_W} {sz : Nat} {av : List Value} : FrameBlind (va_Pc av (gP D cI ws sz)) := fun a U g mk q => by
  obtain ⟨q0, q1, q2, q3, q4, q5⟩ := q
  exact ⟨q0, q1, q2, va_K.moved (u := U) (U := U.calling g mk a) (Vm.Alike.refl U.vm) q3, q4, nv.same rfl q5⟩
theorem gpreV {s : State} {H : Heap} {D : va_G} {cI : ClassId} {wc : va_W} {A : Nat → Prop} {C : String} {b : Addr} {As : List Value} (hK : va_K D classes [(cI, .int)] s) (hN : nv s) (hP : va_P D classes wc H) (hD : va_D A wc) (hr : ∃ cell : Cell, H[b]? = some cell ∧ cell.vm.isStatics = false ∧ s.vm.findClass C = some cell.cls) : PreV s H C b (va_Pc (.ref b :: As) (gP D cI wc H.size)) As :=
  ⟨gblind, hr, fun U hU hW => ⟨rfl, by rw [hU], by rw [hU]; exact hP, va_K.moved hW.alike hK, hD.weaken (fun _ _ _ _ => trivial), nv.warm hW hN⟩⟩
theorem gpreS {s : State} {H : Heap} {D : va_G} {cI : ClassId} {wc : va_W} {A : Nat → Prop} {As : List Value} (hK : va_K D classes [(cI, .int)] s) (hN : nv s) (hP : va_P D classes wc H) (hD : va_D A wc) : PreS s H (va_Pc As (gP D cI wc H.size)) As :=
  ⟨gblind, fun U hU hW => ⟨rfl, by rw [hU], by rw [hU]; exact hP, va_K.moved hW.alike hK, hD.weaken (fun _ _ _ _ => trivial), nv.warm hW hN⟩⟩
theorem cA_eq {D : va_G} {s : State} {cI cA : ClassId} (h1 : va_K D classes [(cI, .int)] s) (h2 : va_K D classes ([(cI, .int)] ++ [(cA, .int)]) s) : cI = cA := by
  have a := va_nm_int (h1.2 0 _ rfl).2
  have b := va_nm_int (h2.2 1 _ rfl).2
  exact Option.some.inj (a.symm.trans b)
theorem vin_of {i : Int32} {N : Nat} (h0 : ¬ i < 0) (h1 : ¬ nI N ≤ i) (hN : N < 2 ^ 31) : vp_in i N := by
  rcases pk_ix i hN with h | h | ⟨j, hj, rfl⟩
  · exact absurd h h0
  · exact absurd h h1
  · exact vp_in_nI hj hN
theorem nb01 {v : Int32} (h : v = 0 ∨ v = 1) : narrow .boolean (.int v) = .int v := by
  rcases h with rfl | rfl <;> rfl
section GCALL
variable {p : Program} {l : Launch} {e : Env} {R : Room} {s : State} {m : MethodId} {args : Array Value} {below : List Frame} {meth : Method} {c : Code} {H : Heap} {locs : List Loc} {cells slots : Nat} {Q : State → Prop}
variable {D : va_G} {cI : ClassId} {A : Nat → Prop} {ws wc wr : va_W} {pc : Nat} {ls : Array Slot} {rest st0 : List Value} {a : Array Value} {mc ms : Nat}
theorem gcall_i {S : Type} {post : Int32 → S → Prop} {out : S → va_W}
    (hr : va_Run p l e R s m args below meth c H locs cells slots mc ms (F0 m pc ls st0) rest (va_Qi post (fun u => gB D cI (va_A wc H.size) (out u)) (va_A wc H.size) a) (va_A wc H.size))
    (hP : va_P D classes ws H) (hD : va_D A ws) (hS : va_S A s.heap H locs) (hA : ∀ q, s.heap.size ≤ q → A q)
    (isC isR : List Nat) (hC : isC.map (fun i => ws[i]?) = wc.map some) (hR : isR.map (fun i => ws[i]?) = wr.map some) (hn : va_nd isR = true) (hdis : ∀ i ∈ isR, i ∉ isC)
    (kk : ∀ (r : Int32) (u : S) (H1 : Heap) (locs1 : List Loc), post r u → va_P D classes (wr ++ out u) H1 → va_D A (wr ++ out u) → va_S A s.heap H1 locs1 → W p l e R s m args below meth c H1 locs1 (cells + mc) (slots + ms) Q (F0 m (pc + 3) ls (.int r :: rest))) :
    W p l e R s m args below meth c H locs cells slots Q (F0 m pc ls st0) := by
  have hF := va_free (wc := wc) hD hS hA isC hC
  refine va_calli hr hS (fun q _ h => hF q h) hF (fun r u t H1 locs1 ht hvm hw hB hz1 hk1 hS1 => ?_)
  obtain ⟨hP1, -, hD1⟩ := hB
  rw [ht] at hP1
  obtain ⟨hP2, hD2⟩ := va_join (wr := wr) (w1 := out u) hP hD isC isR hC hR hn hdis hk1 hF hP1 hD1
  exact kk r u H1 locs1 hw hP2 hD2 hS1
theorem gcall_v {S : Type} {post : S → Prop} {out : S → va_W}
    (hr : va_Run p l e R s m args below meth c H locs cells slots mc ms (F0 m pc ls st0) rest (va_Qv post (fun u => gB D cI (va_A wc H.size) (out u)) (va_A wc H.size) a) (va_A wc H.size))
    (hP : va_P D classes ws H) (hD : va_D A ws) (hS : va_S A s.heap H locs) (hA : ∀ q, s.heap.size ≤ q → A q)
    (isC isR : List Nat) (hC : isC.map (fun i => ws[i]?) = wc.map some) (hR : isR.map (fun i => ws[i]?) = wr.map some) (hn : va_nd isR = true) (hdis : ∀ i ∈ isR, i ∉ isC)
    (kk : ∀ (u : S) (H1 : Heap) (locs1 : List Loc), post u → va_P D classes (wr ++ out u) H1 → va_D A (wr ++ out u) → va_S A s.heap H1 locs1 → W p l e R s m args below meth c H1 locs1 (cells + mc) (slots + ms) Q (F0 m (pc + 3) ls rest)) :
    W p l e R s m args below meth c H locs cells slots Q (F0 m pc ls st0) := by
  have hF := va_free (wc := wc) hD hS hA isC hC
  refine va_callv hr hS (fun q _ h => hF q h) hF (fun u t H1 locs1 ht hvm hw hB hz1 hk1 hS1 => ?_)
  obtain ⟨hP1, -, hD1⟩ := hB
  rw [ht] at hP1
  obtain ⟨hP2, hD2⟩ := va_join (wr := wr) (w1 := out u) hP hD isC isR hC hR hn hdis hk1 hF hP1 hD1
  exact kk u H1 locs1 hw hP2 hD2 hS1
theorem gcall_r {S : Type} {post : S → Prop} {out : S → va_W} {rp : S → Nat → Prop}
    (hr : va_Run p l e R s m args below meth c H locs cells slots mc ms (F0 m pc ls st0) rest (va_Qr post (fun u ra t => gB D cI (va_A wc H.size) (out u) t ∧ rp u ra) (va_A wc H.size) a) (va_A wc H.size))
    (hP : va_P D classes ws H) (hD : va_D A ws) (hS : va_S A s.heap H locs) (hA : ∀ q, s.heap.size ≤ q → A q)
    (isC isR : List Nat) (hC : isC.map (fun i => ws[i]?) = wc.map some) (hR : isR.map (fun i => ws[i]?) = wr.map some) (hn : va_nd isR = true) (hdis : ∀ i ∈ isR, i ∉ isC)
    (kk : ∀ (u : S) (ra : Nat) (H1 : Heap) (locs1 : List Loc), (post u ∧ rp u ra) → va_P D classes (wr ++ out u) H1 → va_D A (wr ++ out u) → va_S A s.heap H1 locs1 → W p l e R s m args below meth c H1 locs1 (cells + mc) (slots + ms) Q (F0 m (pc + 3) ls (.ref ra :: rest))) :
    W p l e R s m args below meth c H locs cells slots Q (F0 m pc ls st0) := by
  have hF := va_free (wc := wc) hD hS hA isC hC
  refine va_callr hr hS (fun q _ h => hF q h) hF (fun u ra t H1 locs1 ht hvm hw hB hz1 hk1 hS1 => ?_)
  obtain ⟨⟨hP1, -, hD1⟩, hrp⟩ := hB
  rw [ht] at hP1
  obtain ⟨hP2, hD2⟩ := va_join (wr := wr) (w1 := out u) hP hD isC isR hC hR hn hdis hk1 hF hP1 hD1
  exact kk u ra H1 locs1 ⟨hw, hrp⟩ hP2 hD2 hS1
end GCALL
theorem nv_t1 {w : Cond} (i : Nat) (h : tables_1_1[i]? = some w) : w ∈ lw_tbl := List.mem_append_right _ (List.mem_append_left _ (List.mem_of_getElem? h))
theorem nv_t2 {w : Cond} (i : Nat) (h : tables_1_2[i]? = some w) : w ∈ lw_tbl := List.mem_append_right _ (List.mem_append_right _ (List.mem_append_left _ (List.mem_of_getElem? h)))
theorem nv_t3 {w : Cond} (i : Nat) (h : tables_1_3[i]? = some w) : w ∈ lw_tbl := List.mem_append_right _ (List.mem_append_right _ (List.mem_append_right _ (List.mem_append_left _ (List.mem_of_getElem? h))))
theorem nv_of {args : Array Value} {s : State} (hts : ∀ w ∈ lw_tbl, w.before args s = true) : nv s := by
  refine ⟨fun q hq => ?_, fun q hq => ?_⟩
  · simp only [nvF, List.mem_cons, List.not_mem_nil, or_false] at hq
    rcases hq with rfl | rfl | rfl | rfl | rfl | rfl | rfl
    · exact va_Nw.of rfl (hts _ (nv_t1 27 rfl))
    · exact va_Nw.of rfl (hts _ (nv_t1 29 rfl))
    · exact va_Nw.of rfl (hts _ (nv_t1 31 rfl))
    · exact va_Nw.of rfl (hts _ (nv_t1 33 rfl))
    · exact va_Nw.of rfl (hts _ (nv_t1 57 rfl))
    · exact va_Nw.of rfl (hts _ (nv_t1 59 rfl))
    · exact va_Nw.of rfl (hts _ (nv_t1 86 rfl))
  · simp only [nvM, List.mem_cons, List.not_mem_nil, or_false] at hq
    rcases hq with rfl | rfl | rfl | rfl | rfl
    · exact va_Nw.of rfl (hts _ (nv_t2 22 rfl))
    · exact va_Nw.of rfl (hts _ (nv_t2 40 rfl))
    · exact va_Nw.of rfl (hts _ (nv_t2 43 rfl))
    · exact va_Nw.of rfl (hts _ (nv_t2 75 rfl))
    · exact va_Nw.of rfl (hts _ (nv_t2 139 rfl))
theorem kk_0_0 : Cond.selects "NestedTags" yX3_beginText yX3_beginText ∈ tbW := tb_0 0 rfl rfl
theorem kk_0_22 : Cond.selects "NestedTags" yX3_endText yX3_endText ∈ tbW := tb_0 22 rfl rfl
theorem kk_0_25 : Cond.selects "NestedTagsModel" yX4_wrong yX4_wrong ∈ tbW := tb_0 25 rfl rfl
theorem kk_0_26 : Cond.selects "NestedTagsModel" yX4_fail yX4_fail ∈ tbW := tb_0 26 rfl rfl
theorem kk_1_1 : Cond.initialized "NestedTags" ∈ tbW := tb_1 1 rfl rfl
theorem kk_1_2 : Cond.initialized "NestedTags$Cursor" ∈ tbW := tb_1 2 rfl rfl
theorem kk_1_3 : Cond.initialized "NestedTags$Pieces" ∈ tbW := tb_1 3 rfl rfl
theorem kk_1_4 : Cond.initialized "NestedTags$Names" ∈ tbW := tb_1 4 rfl rfl
theorem kk_1_5 : Cond.initialized "java/lang/Math" ∈ tbW := tb_1 5 rfl rfl
theorem kk_1_6 : Cond.initialized "NestedTagsModel" ∈ tbW := tb_1 6 rfl rfl
theorem kk_1_11 : Cond.classLink "NestedTagsLaw" 7 "NestedTags" ∈ tbW := tb_1 11 rfl rfl
theorem kk_1_12 : Cond.instantiable "NestedTags" 14 ∈ tbW := tb_1 12 rfl rfl
theorem kk_1_13 : Cond.methodLink "NestedTagsLaw" 9 yX3_init ∈ tbW := tb_1 13 rfl rfl
theorem kk_1_14 : Cond.instanceMethod yX3_init ∈ tbW := tb_1 14 rfl rfl
theorem kk_1_15 : Cond.code yX3_init cX3_init 1 none ∈ tbW := tb_1 15 rfl rfl
theorem kk_1_16 : Cond.methodLink "NestedTags" 1 objectInit ∈ tbW := tb_1 16 rfl rfl
theorem kk_1_17 : Cond.instanceMethod objectInit ∈ tbW := tb_1 17 rfl rfl
theorem kk_1_19 : Cond.classLink "NestedTags" 13 "NestedTags$Cursor" ∈ tbW := tb_1 19 rfl rfl
theorem kk_1_20 : Cond.instantiable "NestedTags$Cursor" 5 ∈ tbW := tb_1 20 rfl rfl
theorem kk_1_21 : Cond.methodLink "NestedTags" 15 yX0_init ∈ tbW := tb_1 21 rfl rfl
theorem kk_1_22 : Cond.instanceMethod yX0_init ∈ tbW := tb_1 22 rfl rfl
theorem kk_1_23 : Cond.code yX0_init cX0_init 1 none ∈ tbW := tb_1 23 rfl rfl
theorem kk_1_24 : Cond.methodLink "NestedTags$Cursor" 3 objectInit ∈ tbW := tb_1 24 rfl rfl
theorem kk_1_25 : Cond.fieldLink "NestedTags$Cursor" 9 "NestedTags$Cursor" "bytes" "[I" ∈ tbW := tb_1 25 rfl rfl
theorem kk_1_26 : Cond.fieldLink "NestedTags$Cursor" 22 "NestedTags$Cursor" "length" "I" ∈ tbW := tb_1 26 rfl rfl
theorem kk_1_28 : Cond.fieldLink "NestedTags$Cursor" 25 "NestedTags$Cursor" "at" "I" ∈ tbW := tb_1 28 rfl rfl
theorem kk_1_30 : Cond.fieldLink "NestedTags$Cursor" 15 "NestedTags$Cursor" "fault" "I" ∈ tbW := tb_1 30 rfl rfl
theorem kk_1_32 : Cond.fieldLink "NestedTags$Cursor" 19 "NestedTags$Cursor" "faultPlace" "I" ∈ tbW := tb_1 32 rfl rfl
theorem kk_1_45 : Cond.arrayClass .int ∈ tbW := tb_1 45 rfl rfl
theorem kk_1_46 : Cond.classLink "NestedTags" 20 "NestedTags$Pieces" ∈ tbW := tb_1 46 rfl rfl
theorem kk_1_47 : Cond.instantiable "NestedTags$Pieces" 6 ∈ tbW := tb_1 47 rfl rfl
theorem kk_1_48 : Cond.methodLink "NestedTags" 22 yX2_init ∈ tbW := tb_1 48 rfl rfl
theorem kk_1_49 : Cond.instanceMethod yX2_init ∈ tbW := tb_1 49 rfl rfl
theorem kk_1_50 : Cond.code yX2_init cX2_init 1 none ∈ tbW := tb_1 50 rfl rfl
theorem kk_1_51 : Cond.methodLink "NestedTags$Pieces" 3 objectInit ∈ tbW := tb_1 51 rfl rfl
theorem kk_1_52 : Cond.fieldLink "NestedTags$Pieces" 9 "NestedTags$Pieces" "kinds" "[I" ∈ tbW := tb_1 52 rfl rfl
theorem kk_1_53 : Cond.fieldLink "NestedTags$Pieces" 15 "NestedTags$Pieces" "begins" "[I" ∈ tbW := tb_1 53 rfl rfl
theorem kk_1_54 : Cond.fieldLink "NestedTags$Pieces" 18 "NestedTags$Pieces" "ends" "[I" ∈ tbW := tb_1 54 rfl rfl
theorem kk_1_55 : Cond.fieldLink "NestedTags$Pieces" 21 "NestedTags$Pieces" "depths" "[I" ∈ tbW := tb_1 55 rfl rfl
theorem kk_1_56 : Cond.fieldLink "NestedTags$Pieces" 24 "NestedTags$Pieces" "size" "I" ∈ tbW := tb_1 56 rfl rfl
theorem kk_1_58 : Cond.fieldLink "NestedTags$Pieces" 28 "NestedTags$Pieces" "attributes" "I" ∈ tbW := tb_1 58 rfl rfl
theorem kk_1_73 : Cond.classLink "NestedTags" 27 "NestedTags$Names" ∈ tbW := tb_1 73 rfl rfl
theorem kk_1_74 : Cond.instantiable "NestedTags$Names" 4 ∈ tbW := tb_1 74 rfl rfl
theorem kk_1_75 : Cond.methodLink "NestedTags" 29 yX1_init ∈ tbW := tb_1 75 rfl rfl
theorem kk_1_76 : Cond.instanceMethod yX1_init ∈ tbW := tb_1 76 rfl rfl
theorem kk_1_77 : Cond.code yX1_init cX1_init 2 none ∈ tbW := tb_1 77 rfl rfl
theorem kk_1_78 : Cond.methodLink "NestedTags$Names" 1 objectInit ∈ tbW := tb_1 78 rfl rfl
theorem kk_1_79 : Cond.methodLink "NestedTags$Names" 7 Lib.Math.max.name ∈ tbW := tb_1 79 rfl rfl
theorem kk_1_80 : Cond.static Lib.Math.max.name ∈ tbW := tb_1 80 rfl rfl
theorem kk_1_82 : Cond.fieldLink "NestedTags$Names" 19 "NestedTags$Names" "begins" "[I" ∈ tbW := tb_1 82 rfl rfl
theorem kk_1_83 : Cond.fieldLink "NestedTags$Names" 23 "NestedTags$Names" "ends" "[I" ∈ tbW := tb_1 83 rfl rfl
theorem kk_1_84 : Cond.fieldLink "NestedTags$Names" 13 "NestedTags$Names" "limit" "I" ∈ tbW := tb_1 84 rfl rfl
theorem kk_1_85 : Cond.fieldLink "NestedTags$Names" 26 "NestedTags$Names" "size" "I" ∈ tbW := tb_1 85 rfl rfl
theorem kk_1_96 : Cond.fieldLink "NestedTags" 9 "NestedTags" "coming" "[I" ∈ tbW := tb_1 96 rfl rfl
theorem kk_1_97 : Cond.fieldLink "NestedTags" 43 "NestedTags" "comingLength" "I" ∈ tbW := tb_1 97 rfl rfl
theorem kk_1_98 : Cond.fieldLink "NestedTags" 16 "NestedTags" "cursor" "LNestedTags$Cursor;" ∈ tbW := tb_1 98 rfl rfl
theorem kk_1_99 : Cond.fieldLink "NestedTags" 23 "NestedTags" "pieces" "LNestedTags$Pieces;" ∈ tbW := tb_1 99 rfl rfl
theorem kk_1_100 : Cond.fieldLink "NestedTags" 32 "NestedTags" "openElements" "LNestedTags$Names;" ∈ tbW := tb_1 100 rfl rfl
theorem kk_1_101 : Cond.fieldLink "NestedTags" 36 "NestedTags" "tagAttributes" "LNestedTags$Names;" ∈ tbW := tb_1 101 rfl rfl
theorem kk_1_102 : Cond.fieldLink "NestedTags" 86 "NestedTags" "elements" "I" ∈ tbW := tb_1 102 rfl rfl
theorem kk_1_103 : Cond.fieldLink "NestedTags" 89 "NestedTags" "mostOpen" "I" ∈ tbW := tb_1 103 rfl rfl
theorem kk_1_104 : Cond.fieldLink "NestedTags" 56 "NestedTags" "inTag" "Z" ∈ tbW := tb_1 104 rfl rfl
theorem kk_1_109 : Cond.fieldLink "NestedTags" 39 "NestedTags" "quote" "I" ∈ tbW := tb_1 109 rfl rfl
theorem kk_1_139 : Cond.methodLink "NestedTagsLaw" 15 yX3_put ∈ tbW := tb_1 139 rfl rfl
theorem kk_1_140 : Cond.instanceMethod yX3_put ∈ tbW := tb_1 140 rfl rfl
theorem kk_1_141 : Cond.selects "NestedTags" yX3_put yX3_put ∈ tbW := tb_1 141 rfl rfl
theorem kk_1_142 : Cond.code yX3_put cX3_put 5 (some .boolean) ∈ tbW := tb_1 142 rfl rfl
theorem kk_1_143 : Cond.methodLink "NestedTagsLaw" 20 yX3_read ∈ tbW := tb_1 143 rfl rfl
theorem kk_1_144 : Cond.instanceMethod yX3_read ∈ tbW := tb_1 144 rfl rfl
theorem kk_1_145 : Cond.selects "NestedTags" yX3_read yX3_read ∈ tbW := tb_1 145 rfl rfl
theorem kk_1_146 : Cond.code yX3_read cX3_read 2 (some .int) ∈ tbW := tb_1 146 rfl rfl
theorem kk_1_147 : Cond.methodLink "NestedTags" 46 yX3_beginText ∈ tbW := tb_1 147 rfl rfl
theorem kk_1_149 : Cond.instanceMethod yX3_beginText ∈ tbW := tb_1 149 rfl rfl
theorem kk_1_150 : Cond.code yX3_beginText cX3_beginText 1 none ∈ tbW := tb_1 150 rfl rfl
theorem kk_1_151 : Cond.methodLink "NestedTags" 95 yX0_begin ∈ tbW := tb_1 151 rfl rfl
theorem kk_1_152 : Cond.instanceMethod yX0_begin ∈ tbW := tb_1 152 rfl rfl
theorem kk_1_153 : Cond.selects "NestedTags$Cursor" yX0_begin yX0_begin ∈ tbW := tb_1 153 rfl rfl
theorem kk_1_154 : Cond.code yX0_begin cX0_begin 4 (some (.array .int)) ∈ tbW := tb_1 154 rfl rfl
theorem kk_1_155 : Cond.methodLink "NestedTags" 99 yX2_clear ∈ tbW := tb_1 155 rfl rfl
theorem kk_1_156 : Cond.instanceMethod yX2_clear ∈ tbW := tb_1 156 rfl rfl
theorem kk_1_157 : Cond.selects "NestedTags$Pieces" yX2_clear yX2_clear ∈ tbW := tb_1 157 rfl rfl
theorem kk_1_158 : Cond.code yX2_clear cX2_clear 1 none ∈ tbW := tb_1 158 rfl rfl
theorem kk_1_159 : Cond.methodLink "NestedTags" 102 yX1_clear ∈ tbW := tb_1 159 rfl rfl
theorem kk_1_160 : Cond.instanceMethod yX1_clear ∈ tbW := tb_1 160 rfl rfl
theorem kk_1_161 : Cond.selects "NestedTags$Names" yX1_clear yX1_clear ∈ tbW := tb_1 161 rfl rfl
theorem kk_1_162 : Cond.code yX1_clear cX1_clear 1 none ∈ tbW := tb_1 162 rfl rfl
theorem kk_1_163 : Cond.methodLink "NestedTags" 49 yX0_goesOn ∈ tbW := tb_1 163 rfl rfl
theorem kk_1_164 : Cond.instanceMethod yX0_goesOn ∈ tbW := tb_1 164 rfl rfl
theorem kk_1_165 : Cond.selects "NestedTags$Cursor" yX0_goesOn yX0_goesOn ∈ tbW := tb_1 165 rfl rfl
theorem kk_1_166 : Cond.code yX0_goesOn cX0_goesOn 1 (some .boolean) ∈ tbW := tb_1 166 rfl rfl
theorem kk_1_176 : Cond.instanceMethod yX0_byteAt ∈ tbW := tb_1 176 rfl rfl
theorem kk_1_177 : Cond.selects "NestedTags$Cursor" yX0_byteAt yX0_byteAt ∈ tbW := tb_1 177 rfl rfl
theorem kk_1_178 : Cond.code yX0_byteAt cX0_byteAt 2 (some .int) ∈ tbW := tb_1 178 rfl rfl
theorem kk_1_188 : Cond.instanceMethod yX0_fail ∈ tbW := tb_1 188 rfl rfl
theorem kk_1_189 : Cond.selects "NestedTags$Cursor" yX0_fail yX0_fail ∈ tbW := tb_1 189 rfl rfl
theorem kk_1_190 : Cond.code yX0_fail cX0_fail 3 (some .boolean) ∈ tbW := tb_1 190 rfl rfl
theorem kk_2_10 : Cond.instanceMethod yX0_failHere ∈ tbW := tb_2 10 rfl rfl
theorem kk_2_11 : Cond.selects "NestedTags$Cursor" yX0_failHere yX0_failHere ∈ tbW := tb_2 11 rfl rfl
theorem kk_2_12 : Cond.code yX0_failHere cX0_failHere 1 (some .boolean) ∈ tbW := tb_2 12 rfl rfl
theorem kk_2_13 : Cond.methodLink "NestedTags$Cursor" 32 yX0_fail ∈ tbW := tb_2 13 rfl rfl
theorem kk_2_28 : Cond.methodLink "NestedTags" 104 yX0_failHere ∈ tbW := tb_2 28 rfl rfl
theorem kk_2_124 : Cond.methodLink "NestedTags" 82 yX0_byteAt ∈ tbW := tb_2 124 rfl rfl
theorem kk_2_181 : Cond.methodLink "NestedTags" 66 yX3_endText ∈ tbW := tb_2 181 rfl rfl
theorem kk_2_183 : Cond.instanceMethod yX3_endText ∈ tbW := tb_2 183 rfl rfl
theorem kk_2_184 : Cond.code yX3_endText cX3_endText 2 none ∈ tbW := tb_2 184 rfl rfl
theorem kk_2_186 : Cond.methodLink "NestedTagsLaw" 25 yX3_place ∈ tbW := tb_2 186 rfl rfl
theorem kk_2_187 : Cond.instanceMethod yX3_place ∈ tbW := tb_2 187 rfl rfl
theorem kk_2_188 : Cond.selects "NestedTags" yX3_place yX3_place ∈ tbW := tb_2 188 rfl rfl
theorem kk_2_189 : Cond.code yX3_place cX3_place 1 (some .int) ∈ tbW := tb_2 189 rfl rfl
theorem kk_2_190 : Cond.methodLink "NestedTagsLaw" 29 yX3_piece ∈ tbW := tb_2 190 rfl rfl
theorem kk_2_191 : Cond.instanceMethod yX3_piece ∈ tbW := tb_2 191 rfl rfl
theorem kk_2_192 : Cond.selects "NestedTags" yX3_piece yX3_piece ∈ tbW := tb_2 192 rfl rfl
theorem kk_2_193 : Cond.code yX3_piece cX3_piece 3 (some .int) ∈ tbW := tb_2 193 rfl rfl
theorem kk_2_194 : Cond.methodLink "NestedTags" 78 yX2_tell ∈ tbW := tb_2 194 rfl rfl
theorem kk_2_195 : Cond.instanceMethod yX2_tell ∈ tbW := tb_2 195 rfl rfl
theorem kk_2_196 : Cond.selects "NestedTags$Pieces" yX2_tell yX2_tell ∈ tbW := tb_2 196 rfl rfl
theorem kk_2_197 : Cond.code yX2_tell cX2_tell 3 (some .int) ∈ tbW := tb_2 197 rfl rfl
theorem kk_2_198 : Cond.methodLink "NestedTagsLaw" 34 yX3_byteOf ∈ tbW := tb_2 198 rfl rfl
theorem kk_2_199 : Cond.instanceMethod yX3_byteOf ∈ tbW := tb_2 199 rfl rfl
theorem kk_2_200 : Cond.selects "NestedTags" yX3_byteOf yX3_byteOf ∈ tbW := tb_2 200 rfl rfl
theorem kk_2_201 : Cond.code yX3_byteOf cX3_byteOf 2 (some .int) ∈ tbW := tb_2 201 rfl rfl
theorem kk_2_202 : Cond.methodLink "NestedTagsLaw" 39 yX3_count ∈ tbW := tb_2 202 rfl rfl
theorem kk_2_203 : Cond.instanceMethod yX3_count ∈ tbW := tb_2 203 rfl rfl
theorem kk_2_204 : Cond.selects "NestedTags" yX3_count yX3_count ∈ tbW := tb_2 204 rfl rfl
theorem kk_2_205 : Cond.code yX3_count cX3_count 2 (some .int) ∈ tbW := tb_2 205 rfl rfl
theorem kk_2_206 : Cond.classLink "NestedTagsLaw" 10 "NestedTagsModel" ∈ tbW := tb_2 206 rfl rfl
theorem kk_2_207 : Cond.instantiable "NestedTagsModel" 33 ∈ tbW := tb_2 207 rfl rfl
theorem kk_2_208 : Cond.methodLink "NestedTagsLaw" 12 yX4_init ∈ tbW := tb_2 208 rfl rfl
theorem kk_2_209 : Cond.instanceMethod yX4_init ∈ tbW := tb_2 209 rfl rfl
theorem kk_2_210 : Cond.code yX4_init cX4_init 1 none ∈ tbW := tb_2 210 rfl rfl
theorem kk_2_211 : Cond.methodLink "NestedTagsModel" 1 objectInit ∈ tbW := tb_2 211 rfl rfl
theorem kk_2_212 : Cond.fieldLink "NestedTagsModel" 7 "NestedTagsModel" "text" "[I" ∈ tbW := tb_2 212 rfl rfl
theorem kk_2_213 : Cond.fieldLink "NestedTagsModel" 44 "NestedTagsModel" "size" "I" ∈ tbW := tb_2 213 rfl rfl
theorem kk_2_214 : Cond.fieldLink "NestedTagsModel" 13 "NestedTagsModel" "read" "[I" ∈ tbW := tb_2 214 rfl rfl
theorem kk_2_215 : Cond.fieldLink "NestedTagsModel" 234 "NestedTagsModel" "length" "I" ∈ tbW := tb_2 215 rfl rfl
theorem kk_2_216 : Cond.fieldLink "NestedTagsModel" 66 "NestedTagsModel" "pieces" "I" ∈ tbW := tb_2 216 rfl rfl
theorem kk_2_217 : Cond.fieldLink "NestedTagsModel" 16 "NestedTagsModel" "kinds" "[I" ∈ tbW := tb_2 217 rfl rfl
theorem kk_2_218 : Cond.fieldLink "NestedTagsModel" 19 "NestedTagsModel" "begins" "[I" ∈ tbW := tb_2 218 rfl rfl
theorem kk_2_219 : Cond.fieldLink "NestedTagsModel" 22 "NestedTagsModel" "ends" "[I" ∈ tbW := tb_2 219 rfl rfl
theorem kk_2_220 : Cond.fieldLink "NestedTagsModel" 25 "NestedTagsModel" "depths" "[I" ∈ tbW := tb_2 220 rfl rfl
theorem kk_2_221 : Cond.fieldLink "NestedTagsModel" 72 "NestedTagsModel" "open" "I" ∈ tbW := tb_2 221 rfl rfl
theorem kk_2_222 : Cond.fieldLink "NestedTagsModel" 28 "NestedTagsModel" "names" "[I" ∈ tbW := tb_2 222 rfl rfl
theorem kk_2_223 : Cond.fieldLink "NestedTagsModel" 31 "NestedTagsModel" "sizes" "[I" ∈ tbW := tb_2 223 rfl rfl
theorem kk_2_224 : Cond.fieldLink "NestedTagsModel" 121 "NestedTagsModel" "attributes" "I" ∈ tbW := tb_2 224 rfl rfl
theorem kk_2_225 : Cond.fieldLink "NestedTagsModel" 34 "NestedTagsModel" "attributeAt" "[I" ∈ tbW := tb_2 225 rfl rfl
theorem kk_2_226 : Cond.fieldLink "NestedTagsModel" 37 "NestedTagsModel" "attributeSize" "[I" ∈ tbW := tb_2 226 rfl rfl
theorem kk_2_227 : Cond.fieldLink "NestedTagsModel" 118 "NestedTagsModel" "elements" "I" ∈ tbW := tb_2 227 rfl rfl
theorem kk_2_228 : Cond.fieldLink "NestedTagsModel" 102 "NestedTagsModel" "most" "I" ∈ tbW := tb_2 228 rfl rfl
theorem kk_2_229 : Cond.fieldLink "NestedTagsModel" 133 "NestedTagsModel" "values" "I" ∈ tbW := tb_2 229 rfl rfl
theorem kk_2_230 : Cond.fieldLink "NestedTagsModel" 40 "NestedTagsModel" "place" "I" ∈ tbW := tb_2 230 rfl rfl
theorem kk_2_231 : Cond.fieldLink "NestedTagsModel" 79 "NestedTagsModel" "phase" "I" ∈ tbW := tb_2 231 rfl rfl
theorem kk_2_232 : Cond.fieldLink "NestedTagsModel" 56 "NestedTagsModel" "state" "I" ∈ tbW := tb_2 232 rfl rfl
theorem kk_2_233 : Cond.fieldLink "NestedTagsModel" 59 "NestedTagsModel" "at" "I" ∈ tbW := tb_2 233 rfl rfl
theorem kk_2_239 : Cond.fieldLink "NestedTagsModel" 130 "NestedTagsModel" "quote" "I" ∈ tbW := tb_2 239 rfl rfl
theorem kk_3_0 : Cond.fieldLink "NestedTagsModel" 149 "NestedTagsModel" "characters" "I" ∈ tbW := tb_3 0 rfl rfl
theorem kk_3_1 : Cond.fieldLink "NestedTagsModel" 152 "NestedTagsModel" "brackets" "I" ∈ tbW := tb_3 1 rfl rfl
theorem kk_3_4 : Cond.fieldLink "NestedTagsModel" 53 "NestedTagsModel" "fault" "I" ∈ tbW := tb_3 4 rfl rfl
theorem kk_3_72 : Cond.methodLink "NestedTagsLaw" 19 yX4_put ∈ tbW := tb_3 72 rfl rfl
theorem kk_3_73 : Cond.instanceMethod yX4_put ∈ tbW := tb_3 73 rfl rfl
theorem kk_3_74 : Cond.selects "NestedTagsModel" yX4_put yX4_put ∈ tbW := tb_3 74 rfl rfl
theorem kk_3_75 : Cond.code yX4_put cX4_put 5 (some .boolean) ∈ tbW := tb_3 75 rfl rfl
theorem kk_3_76 : Cond.constantLong "NestedTagsModel" 47 255 ∈ tbW := tb_3 76 rfl rfl
theorem kk_3_77 : Cond.methodLink "NestedTagsLaw" 24 yX4_read ∈ tbW := tb_3 77 rfl rfl
theorem kk_3_78 : Cond.instanceMethod yX4_read ∈ tbW := tb_3 78 rfl rfl
theorem kk_3_79 : Cond.selects "NestedTagsModel" yX4_read yX4_read ∈ tbW := tb_3 79 rfl rfl
theorem kk_3_80 : Cond.code yX4_read cX4_read 2 (some .int) ∈ tbW := tb_3 80 rfl rfl
theorem kk_3_92 : Cond.methodLink "NestedTagsModel" 92 yX4_wrong ∈ tbW := tb_3 92 rfl rfl
theorem kk_3_94 : Cond.instanceMethod yX4_wrong ∈ tbW := tb_3 94 rfl rfl
theorem kk_3_95 : Cond.code yX4_wrong cX4_wrong 1 (some .int) ∈ tbW := tb_3 95 rfl rfl
theorem kk_3_96 : Cond.methodLink "NestedTagsModel" 62 yX4_fail ∈ tbW := tb_3 96 rfl rfl
theorem kk_3_98 : Cond.instanceMethod yX4_fail ∈ tbW := tb_3 98 rfl rfl
theorem kk_3_99 : Cond.code yX4_fail cX4_fail 3 (some .int) ∈ tbW := tb_3 99 rfl rfl
theorem kk_3_223 : Cond.methodLink "NestedTagsLaw" 28 yX4_place ∈ tbW := tb_3 223 rfl rfl
theorem kk_3_224 : Cond.instanceMethod yX4_place ∈ tbW := tb_3 224 rfl rfl
theorem kk_3_225 : Cond.selects "NestedTagsModel" yX4_place yX4_place ∈ tbW := tb_3 225 rfl rfl
theorem kk_3_226 : Cond.code yX4_place cX4_place 1 (some .int) ∈ tbW := tb_3 226 rfl rfl
theorem kk_3_227 : Cond.methodLink "NestedTagsLaw" 33 yX4_piece ∈ tbW := tb_3 227 rfl rfl
theorem kk_3_228 : Cond.instanceMethod yX4_piece ∈ tbW := tb_3 228 rfl rfl
theorem kk_3_229 : Cond.selects "NestedTagsModel" yX4_piece yX4_piece ∈ tbW := tb_3 229 rfl rfl
theorem kk_3_230 : Cond.code yX4_piece cX4_piece 3 (some .int) ∈ tbW := tb_3 230 rfl rfl
theorem kk_3_231 : Cond.methodLink "NestedTagsLaw" 38 yX4_byteOf ∈ tbW := tb_3 231 rfl rfl
theorem kk_3_232 : Cond.instanceMethod yX4_byteOf ∈ tbW := tb_3 232 rfl rfl
theorem kk_3_233 : Cond.selects "NestedTagsModel" yX4_byteOf yX4_byteOf ∈ tbW := tb_3 233 rfl rfl
theorem kk_3_234 : Cond.code yX4_byteOf cX4_byteOf 2 (some .int) ∈ tbW := tb_3 234 rfl rfl
theorem kk_3_235 : Cond.methodLink "NestedTagsLaw" 42 yX4_count ∈ tbW := tb_3 235 rfl rfl
theorem kk_3_236 : Cond.instanceMethod yX4_count ∈ tbW := tb_3 236 rfl rfl
theorem kk_3_237 : Cond.selects "NestedTagsModel" yX4_count yX4_count ∈ tbW := tb_3 237 rfl rfl
theorem kk_3_238 : Cond.code yX4_count cX4_count 2 (some .int) ∈ tbW := tb_3 238 rfl rfl
theorem kk_3_239 : Cond.constantLong "NestedTagsLaw" 13 4294967295 ∈ tbW := tb_3 239 rfl rfl
theorem kk_obj : Cond.code objectInit ⟨#[0xb1]⟩ 1 none ∈ tbW := tb_1 18 rfl rfl
theorem kk_mmax : Cond.code Lib.Math.max.name Lib.Math.max.code 2 (some .int) ∈ tbW := tb_1 81 rfl rfl
theorem kk_mmin : Cond.code Lib.Math.min.name Lib.Math.min.code 2 (some .int) ∈ tbW := tb_2 27 rfl rfl
theorem inX0 : ∀ w ∈ wsX00, w ∈ tbW := fun w h => tb_mem ((by decide +kernel : ∀ w ∈ wsX00, w ∈ tables_1) w h |> List.mem_append_right _) ((by decide +kernel : ∀ w ∈ wsX00, goodWord w = true) w h)
theorem inX1 : ∀ w ∈ wsX10, w ∈ tbW := fun w h => tb_mem ((by decide +kernel : ∀ w ∈ wsX10, w ∈ tables_1) w h |> List.mem_append_right _) ((by decide +kernel : ∀ w ∈ wsX10, goodWord w = true) w h)
theorem inX2 : ∀ w ∈ wsX20, w ∈ tbW := fun w h => tb_mem ((by decide +kernel : ∀ w ∈ wsX20, w ∈ tables_1) w h |> List.mem_append_right _) ((by decide +kernel : ∀ w ∈ wsX20, goodWord w = true) w h)
theorem inX3 : ∀ w ∈ wsX30, w ∈ tbW := fun w h => tb_mem ((by decide +kernel : ∀ w ∈ wsX30, w ∈ tables_1) w h |> List.mem_append_right _) ((by decide +kernel : ∀ w ∈ wsX30, goodWord w = true) w h)
theorem inX4 : ∀ w ∈ wsX40, w ∈ tbW := fun w h => tb_mem ((by decide +kernel : ∀ w ∈ wsX40, w ∈ tables_1) w h |> List.mem_append_right _) ((by decide +kernel : ∀ w ∈ wsX40, goodWord w = true) w h)
theorem k_start {args : Array Value} {s : State} (hts : ∀ w ∈ tbW, w.before args s = true) : ∃ (D : va_G) (cI : ClassId), va_K D classes [(cI, .int)] s := by
  obtain ⟨c0, i0, h0⟩ := u_known (C := RX0) (T := TX0) (N := 5) (n := 5) hts inX0 (hts (Cond.instantiable "NestedTags$Cursor" 5) kk_1_20)
  obtain ⟨c1, i1, h1⟩ := u_known (C := RX1) (T := TX1) (N := 4) (n := 4) hts inX1 (hts (Cond.instantiable "NestedTags$Names" 4) kk_1_74)
  obtain ⟨c2, i2, h2⟩ := u_known (C := RX2) (T := TX2) (N := 6) (n := 6) hts inX2 (hts (Cond.instantiable "NestedTags$Pieces" 6) kk_1_47)
  obtain ⟨c3, i3, h3⟩ := u_known (C := RX3) (T := TX3) (N := 14) (n := 14) hts inX3 (hts (Cond.instantiable "NestedTags" 14) kk_1_12)
  obtain ⟨c4, i4, h4⟩ := u_known (C := RX4) (T := TX4) (N := 33) (n := 33) hts inX4 (hts (Cond.instantiable "NestedTagsModel" 33) kk_2_207)
  obtain ⟨cI, kA, comp, q1, q2, q3⟩ := Cond.arrayClass_spec (type := .int) (hts (Cond.arrayClass .int) kk_1_45)
  refine ⟨(fun k => if k = 0 then c0 else if k = 1 then c1 else if k = 2 then c2 else if k = 3 then c3 else c4, fun k => if k = 0 then i0 else if k = 1 then i1 else if k = 2 then i2 else if k = 3 then i3 else i4), cI, ?_, ?_⟩
  · intro k q hq
    match k, hq with
    | 0, hq => cases hq; exact h0
    | 1, hq => cases hq; exact h1
    | 2, hq => cases hq; exact h2
    | 3, hq => cases hq; exact h3
    | 4, hq => cases hq; exact h4
    | k + 5, hq => simp [classes] at hq
  · intro k q hq
    match k, hq with
    | 0, hq => cases hq; exact ⟨fun n z => ⟨fun k h => (by cases h), kA, q2, comp, q3⟩, q1⟩
    | k + 1, hq => simp at hq
end
section
theorem dL_law_0 : decode cL_law 0 = .ok (.new 7, 3) := by decide +kernel
theorem dL_law_3 : decode cL_law 3 = .ok (.dup, 1) := by decide +kernel
theorem dL_law_4 : decode cL_law 4 = .ok (.invokespecial 9, 3) := by decide +kernel
theorem dL_law_7 : decode cL_law 7 = .ok (.astore_n 1, 1) := by decide +kernel
theorem dL_law_8 : decode cL_law 8 = .ok (.new 10, 3) := by decide +kernel
theorem dL_law_11 : decode cL_law 11 = .ok (.dup, 1) := by decide +kernel
theorem dL_law_12 : decode cL_law 12 = .ok (.invokespecial 12, 3) := by decide +kernel
theorem dL_law_15 : decode cL_law 15 = .ok (.astore_n 2, 1) := by decide +kernel
theorem dL_law_16 : decode cL_law 16 = .ok (.iconst 0, 1) := by decide +kernel
theorem dL_law_17 : decode cL_law 17 = .ok (.istore_n 3, 1) := by decide +kernel
theorem dL_law_18 : decode cL_law 18 = .ok (.iload_n 3, 1) := by decide +kernel
theorem dL_law_19 : decode cL_law 19 = .ok (.aload_n 0, 1) := by decide +kernel
theorem dL_law_20 : decode cL_law 20 = .ok (.arraylength, 1) := by decide +kernel
theorem dL_law_21 : decode cL_law 21 = .ok (.iconst 4, 1) := by decide +kernel
theorem dL_law_22 : decode cL_law 22 = .ok (.isub, 1) := by decide +kernel
theorem dL_law_23 : decode cL_law 23 = .ok (.if_icmp .gt 223, 3) := by decide +kernel
theorem dL_law_26 : decode cL_law 26 = .ok (.aload_n 0, 1) := by decide +kernel
theorem dL_law_27 : decode cL_law 27 = .ok (.iload_n 3, 1) := by decide +kernel
theorem dL_law_28 : decode cL_law 28 = .ok (.iaload, 1) := by decide +kernel
theorem dL_law_29 : decode cL_law 29 = .ok (.bipush 7, 2) := by decide +kernel
theorem dL_law_31 : decode cL_law 31 = .ok (.iand, 1) := by decide +kernel
theorem dL_law_32 : decode cL_law 32 = .ok (.tableswitch 208 0 5 #[40, 103, 116, 129, 162, 185], 40) := by decide +kernel
theorem dL_law_72 : decode cL_law 72 = .ok (.aload_n 1, 1) := by decide +kernel
theorem dL_law_73 : decode cL_law 73 = .ok (.aload_n 0, 1) := by decide +kernel
theorem dL_law_74 : decode cL_law 74 = .ok (.iload_n 3, 1) := by decide +kernel
theorem dL_law_75 : decode cL_law 75 = .ok (.iconst 1, 1) := by decide +kernel
theorem dL_law_76 : decode cL_law 76 = .ok (.iadd, 1) := by decide +kernel
theorem dL_law_77 : decode cL_law 77 = .ok (.iaload, 1) := by decide +kernel
theorem dL_law_78 : decode cL_law 78 = .ok (.i2l, 1) := by decide +kernel
theorem dL_law_79 : decode cL_law 79 = .ok (.bipush 32, 2) := by decide +kernel
theorem dL_law_81 : decode cL_law 81 = .ok (.lshl, 1) := by decide +kernel
theorem dL_law_82 : decode cL_law 82 = .ok (.aload_n 0, 1) := by decide +kernel
theorem dL_law_83 : decode cL_law 83 = .ok (.iload_n 3, 1) := by decide +kernel
theorem dL_law_84 : decode cL_law 84 = .ok (.iconst 2, 1) := by decide +kernel
theorem dL_law_85 : decode cL_law 85 = .ok (.iadd, 1) := by decide +kernel
theorem dL_law_86 : decode cL_law 86 = .ok (.iaload, 1) := by decide +kernel
theorem dL_law_87 : decode cL_law 87 = .ok (.i2l, 1) := by decide +kernel
theorem dL_law_88 : decode cL_law 88 = .ok (.ldc2_w 13, 3) := by decide +kernel
theorem dL_law_91 : decode cL_law 91 = .ok (.land, 1) := by decide +kernel
theorem dL_law_92 : decode cL_law 92 = .ok (.lor, 1) := by decide +kernel
theorem dL_law_93 : decode cL_law 93 = .ok (.aload_n 0, 1) := by decide +kernel
theorem dL_law_94 : decode cL_law 94 = .ok (.iload_n 3, 1) := by decide +kernel
theorem dL_law_95 : decode cL_law 95 = .ok (.iconst 3, 1) := by decide +kernel
theorem dL_law_96 : decode cL_law 96 = .ok (.iadd, 1) := by decide +kernel
theorem dL_law_97 : decode cL_law 97 = .ok (.iaload, 1) := by decide +kernel
theorem dL_law_98 : decode cL_law 98 = .ok (.invokevirtual 15, 3) := by decide +kernel
theorem dL_law_101 : decode cL_law 101 = .ok (.aload_n 2, 1) := by decide +kernel
theorem dL_law_102 : decode cL_law 102 = .ok (.aload_n 0, 1) := by decide +kernel
theorem dL_law_103 : decode cL_law 103 = .ok (.iload_n 3, 1) := by decide +kernel
theorem dL_law_104 : decode cL_law 104 = .ok (.iconst 1, 1) := by decide +kernel
theorem dL_law_105 : decode cL_law 105 = .ok (.iadd, 1) := by decide +kernel
theorem dL_law_106 : decode cL_law 106 = .ok (.iaload, 1) := by decide +kernel
theorem dL_law_107 : decode cL_law 107 = .ok (.i2l, 1) := by decide +kernel
theorem dL_law_108 : decode cL_law 108 = .ok (.bipush 32, 2) := by decide +kernel
theorem dL_law_110 : decode cL_law 110 = .ok (.lshl, 1) := by decide +kernel
theorem dL_law_111 : decode cL_law 111 = .ok (.aload_n 0, 1) := by decide +kernel
theorem dL_law_112 : decode cL_law 112 = .ok (.iload_n 3, 1) := by decide +kernel
theorem dL_law_113 : decode cL_law 113 = .ok (.iconst 2, 1) := by decide +kernel
theorem dL_law_114 : decode cL_law 114 = .ok (.iadd, 1) := by decide +kernel
theorem dL_law_115 : decode cL_law 115 = .ok (.iaload, 1) := by decide +kernel
theorem dL_law_116 : decode cL_law 116 = .ok (.i2l, 1) := by decide +kernel
theorem dL_law_117 : decode cL_law 117 = .ok (.ldc2_w 13, 3) := by decide +kernel
theorem dL_law_120 : decode cL_law 120 = .ok (.land, 1) := by decide +kernel
theorem dL_law_121 : decode cL_law 121 = .ok (.lor, 1) := by decide +kernel
theorem dL_law_122 : decode cL_law 122 = .ok (.aload_n 0, 1) := by decide +kernel
theorem dL_law_123 : decode cL_law 123 = .ok (.iload_n 3, 1) := by decide +kernel
theorem dL_law_124 : decode cL_law 124 = .ok (.iconst 3, 1) := by decide +kernel
theorem dL_law_125 : decode cL_law 125 = .ok (.iadd, 1) := by decide +kernel
theorem dL_law_126 : decode cL_law 126 = .ok (.iaload, 1) := by decide +kernel
theorem dL_law_127 : decode cL_law 127 = .ok (.invokevirtual 19, 3) := by decide +kernel
theorem dL_law_130 : decode cL_law 130 = .ok (.if_icmp .eq 110, 3) := by decide +kernel
theorem dL_law_133 : decode cL_law 133 = .ok (.iconst 0, 1) := by decide +kernel
theorem dL_law_134 : decode cL_law 134 = .ok (.ireturn, 1) := by decide +kernel
theorem dL_law_135 : decode cL_law 135 = .ok (.aload_n 1, 1) := by decide +kernel
theorem dL_law_136 : decode cL_law 136 = .ok (.invokevirtual 20, 3) := by decide +kernel
theorem dL_law_139 : decode cL_law 139 = .ok (.aload_n 2, 1) := by decide +kernel
theorem dL_law_140 : decode cL_law 140 = .ok (.invokevirtual 24, 3) := by decide +kernel
theorem dL_law_143 : decode cL_law 143 = .ok (.if_icmp .eq 97, 3) := by decide +kernel
theorem dL_law_146 : decode cL_law 146 = .ok (.iconst 0, 1) := by decide +kernel
theorem dL_law_147 : decode cL_law 147 = .ok (.ireturn, 1) := by decide +kernel
theorem dL_law_148 : decode cL_law 148 = .ok (.aload_n 1, 1) := by decide +kernel
theorem dL_law_149 : decode cL_law 149 = .ok (.invokevirtual 25, 3) := by decide +kernel
theorem dL_law_152 : decode cL_law 152 = .ok (.aload_n 2, 1) := by decide +kernel
theorem dL_law_153 : decode cL_law 153 = .ok (.invokevirtual 28, 3) := by decide +kernel
theorem dL_law_156 : decode cL_law 156 = .ok (.if_icmp .eq 84, 3) := by decide +kernel
theorem dL_law_159 : decode cL_law 159 = .ok (.iconst 0, 1) := by decide +kernel
theorem dL_law_160 : decode cL_law 160 = .ok (.ireturn, 1) := by decide +kernel
theorem dL_law_161 : decode cL_law 161 = .ok (.aload_n 1, 1) := by decide +kernel
theorem dL_law_162 : decode cL_law 162 = .ok (.aload_n 0, 1) := by decide +kernel
theorem dL_law_163 : decode cL_law 163 = .ok (.iload_n 3, 1) := by decide +kernel
theorem dL_law_164 : decode cL_law 164 = .ok (.iconst 1, 1) := by decide +kernel
theorem dL_law_165 : decode cL_law 165 = .ok (.iadd, 1) := by decide +kernel
theorem dL_law_166 : decode cL_law 166 = .ok (.iaload, 1) := by decide +kernel
theorem dL_law_167 : decode cL_law 167 = .ok (.aload_n 0, 1) := by decide +kernel
theorem dL_law_168 : decode cL_law 168 = .ok (.iload_n 3, 1) := by decide +kernel
theorem dL_law_169 : decode cL_law 169 = .ok (.iconst 2, 1) := by decide +kernel
theorem dL_law_170 : decode cL_law 170 = .ok (.iadd, 1) := by decide +kernel
theorem dL_law_171 : decode cL_law 171 = .ok (.iaload, 1) := by decide +kernel
theorem dL_law_172 : decode cL_law 172 = .ok (.invokevirtual 29, 3) := by decide +kernel
theorem dL_law_175 : decode cL_law 175 = .ok (.aload_n 2, 1) := by decide +kernel
theorem dL_law_176 : decode cL_law 176 = .ok (.aload_n 0, 1) := by decide +kernel
theorem dL_law_177 : decode cL_law 177 = .ok (.iload_n 3, 1) := by decide +kernel
theorem dL_law_178 : decode cL_law 178 = .ok (.iconst 1, 1) := by decide +kernel
theorem dL_law_179 : decode cL_law 179 = .ok (.iadd, 1) := by decide +kernel
theorem dL_law_180 : decode cL_law 180 = .ok (.iaload, 1) := by decide +kernel
theorem dL_law_181 : decode cL_law 181 = .ok (.aload_n 0, 1) := by decide +kernel
theorem dL_law_182 : decode cL_law 182 = .ok (.iload_n 3, 1) := by decide +kernel
theorem dL_law_183 : decode cL_law 183 = .ok (.iconst 2, 1) := by decide +kernel
theorem dL_law_184 : decode cL_law 184 = .ok (.iadd, 1) := by decide +kernel
theorem dL_law_185 : decode cL_law 185 = .ok (.iaload, 1) := by decide +kernel
theorem dL_law_186 : decode cL_law 186 = .ok (.invokevirtual 33, 3) := by decide +kernel
theorem dL_law_189 : decode cL_law 189 = .ok (.if_icmp .eq 51, 3) := by decide +kernel
theorem dL_law_192 : decode cL_law 192 = .ok (.iconst 0, 1) := by decide +kernel
theorem dL_law_193 : decode cL_law 193 = .ok (.ireturn, 1) := by decide +kernel
theorem dL_law_194 : decode cL_law 194 = .ok (.aload_n 1, 1) := by decide +kernel
theorem dL_law_195 : decode cL_law 195 = .ok (.aload_n 0, 1) := by decide +kernel
theorem dL_law_196 : decode cL_law 196 = .ok (.iload_n 3, 1) := by decide +kernel
theorem dL_law_197 : decode cL_law 197 = .ok (.iconst 1, 1) := by decide +kernel
theorem dL_law_198 : decode cL_law 198 = .ok (.iadd, 1) := by decide +kernel
theorem dL_law_199 : decode cL_law 199 = .ok (.iaload, 1) := by decide +kernel
theorem dL_law_200 : decode cL_law 200 = .ok (.invokevirtual 34, 3) := by decide +kernel
theorem dL_law_203 : decode cL_law 203 = .ok (.aload_n 2, 1) := by decide +kernel
theorem dL_law_204 : decode cL_law 204 = .ok (.aload_n 0, 1) := by decide +kernel
theorem dL_law_205 : decode cL_law 205 = .ok (.iload_n 3, 1) := by decide +kernel
theorem dL_law_206 : decode cL_law 206 = .ok (.iconst 1, 1) := by decide +kernel
theorem dL_law_207 : decode cL_law 207 = .ok (.iadd, 1) := by decide +kernel
theorem dL_law_208 : decode cL_law 208 = .ok (.iaload, 1) := by decide +kernel
theorem dL_law_209 : decode cL_law 209 = .ok (.invokevirtual 38, 3) := by decide +kernel
theorem dL_law_212 : decode cL_law 212 = .ok (.if_icmp .eq 28, 3) := by decide +kernel
theorem dL_law_215 : decode cL_law 215 = .ok (.iconst 0, 1) := by decide +kernel
theorem dL_law_216 : decode cL_law 216 = .ok (.ireturn, 1) := by decide +kernel
theorem dL_law_217 : decode cL_law 217 = .ok (.aload_n 1, 1) := by decide +kernel
theorem dL_law_218 : decode cL_law 218 = .ok (.aload_n 0, 1) := by decide +kernel
theorem dL_law_219 : decode cL_law 219 = .ok (.iload_n 3, 1) := by decide +kernel
theorem dL_law_220 : decode cL_law 220 = .ok (.iconst 1, 1) := by decide +kernel
theorem dL_law_221 : decode cL_law 221 = .ok (.iadd, 1) := by decide +kernel
theorem dL_law_222 : decode cL_law 222 = .ok (.iaload, 1) := by decide +kernel
theorem dL_law_223 : decode cL_law 223 = .ok (.invokevirtual 39, 3) := by decide +kernel
theorem dL_law_226 : decode cL_law 226 = .ok (.aload_n 2, 1) := by decide +kernel
theorem dL_law_227 : decode cL_law 227 = .ok (.aload_n 0, 1) := by decide +kernel
theorem dL_law_228 : decode cL_law 228 = .ok (.iload_n 3, 1) := by decide +kernel
theorem dL_law_229 : decode cL_law 229 = .ok (.iconst 1, 1) := by decide +kernel
theorem dL_law_230 : decode cL_law 230 = .ok (.iadd, 1) := by decide +kernel
theorem dL_law_231 : decode cL_law 231 = .ok (.iaload, 1) := by decide +kernel
theorem dL_law_232 : decode cL_law 232 = .ok (.invokevirtual 42, 3) := by decide +kernel
theorem dL_law_235 : decode cL_law 235 = .ok (.if_icmp .eq 5, 3) := by decide +kernel
theorem dL_law_238 : decode cL_law 238 = .ok (.iconst 0, 1) := by decide +kernel
theorem dL_law_239 : decode cL_law 239 = .ok (.ireturn, 1) := by decide +kernel
theorem dL_law_240 : decode cL_law 240 = .ok (.iinc 3 4, 3) := by decide +kernel
theorem dL_law_243 : decode cL_law 243 = .ok (.goto (-225), 3) := by decide +kernel
theorem dL_law_246 : decode cL_law 246 = .ok (.iconst 1, 1) := by decide +kernel
theorem dL_law_247 : decode cL_law 247 = .ok (.ireturn, 1) := by decide +kernel
theorem dX0_begin_0 : decode cX0_begin 0 = .ok (.aload_n 0, 1) := by decide +kernel
theorem dX0_begin_1 : decode cX0_begin 1 = .ok (.getfield 9, 3) := by decide +kernel
theorem dX0_begin_4 : decode cX0_begin 4 = .ok (.astore_n 3, 1) := by decide +kernel
theorem dX0_begin_5 : decode cX0_begin 5 = .ok (.aload_n 0, 1) := by decide +kernel
theorem dX0_begin_6 : decode cX0_begin 6 = .ok (.aload_n 1, 1) := by decide +kernel
theorem dX0_begin_7 : decode cX0_begin 7 = .ok (.putfield 9, 3) := by decide +kernel
theorem dX0_begin_10 : decode cX0_begin 10 = .ok (.aload_n 0, 1) := by decide +kernel
theorem dX0_begin_11 : decode cX0_begin 11 = .ok (.iload_n 2, 1) := by decide +kernel
theorem dX0_begin_12 : decode cX0_begin 12 = .ok (.putfield 22, 3) := by decide +kernel
theorem dX0_begin_15 : decode cX0_begin 15 = .ok (.aload_n 0, 1) := by decide +kernel
theorem dX0_begin_16 : decode cX0_begin 16 = .ok (.iconst 0, 1) := by decide +kernel
theorem dX0_begin_17 : decode cX0_begin 17 = .ok (.putfield 25, 3) := by decide +kernel
theorem dX0_begin_20 : decode cX0_begin 20 = .ok (.aload_n 0, 1) := by decide +kernel
theorem dX0_begin_21 : decode cX0_begin 21 = .ok (.iconst 0, 1) := by decide +kernel
theorem dX0_begin_22 : decode cX0_begin 22 = .ok (.putfield 15, 3) := by decide +kernel
theorem dX0_begin_25 : decode cX0_begin 25 = .ok (.aload_n 0, 1) := by decide +kernel
theorem dX0_begin_26 : decode cX0_begin 26 = .ok (.iconst (-1), 1) := by decide +kernel
theorem dX0_begin_27 : decode cX0_begin 27 = .ok (.putfield 19, 3) := by decide +kernel
theorem dX0_begin_30 : decode cX0_begin 30 = .ok (.aload_n 3, 1) := by decide +kernel
theorem dX0_begin_31 : decode cX0_begin 31 = .ok (.areturn, 1) := by decide +kernel
theorem dX0_byteAt_0 : decode cX0_byteAt 0 = .ok (.iload_n 1, 1) := by decide +kernel
theorem dX0_byteAt_1 : decode cX0_byteAt 1 = .ok (.ifCond .lt 29, 3) := by decide +kernel
theorem dX0_byteAt_4 : decode cX0_byteAt 4 = .ok (.iload_n 1, 1) := by decide +kernel
theorem dX0_byteAt_5 : decode cX0_byteAt 5 = .ok (.aload_n 0, 1) := by decide +kernel
theorem dX0_byteAt_6 : decode cX0_byteAt 6 = .ok (.getfield 22, 3) := by decide +kernel
theorem dX0_byteAt_9 : decode cX0_byteAt 9 = .ok (.if_icmp .ge 21, 3) := by decide +kernel
theorem dX0_byteAt_12 : decode cX0_byteAt 12 = .ok (.iload_n 1, 1) := by decide +kernel
theorem dX0_byteAt_13 : decode cX0_byteAt 13 = .ok (.aload_n 0, 1) := by decide +kernel
theorem dX0_byteAt_14 : decode cX0_byteAt 14 = .ok (.getfield 9, 3) := by decide +kernel
theorem dX0_byteAt_17 : decode cX0_byteAt 17 = .ok (.arraylength, 1) := by decide +kernel
theorem dX0_byteAt_18 : decode cX0_byteAt 18 = .ok (.if_icmp .ge 12, 3) := by decide +kernel
theorem dX0_byteAt_21 : decode cX0_byteAt 21 = .ok (.aload_n 0, 1) := by decide +kernel
theorem dX0_byteAt_22 : decode cX0_byteAt 22 = .ok (.getfield 9, 3) := by decide +kernel
theorem dX0_byteAt_25 : decode cX0_byteAt 25 = .ok (.iload_n 1, 1) := by decide +kernel
theorem dX0_byteAt_26 : decode cX0_byteAt 26 = .ok (.iaload, 1) := by decide +kernel
theorem dX0_byteAt_27 : decode cX0_byteAt 27 = .ok (.goto 4, 3) := by decide +kernel
theorem dX0_byteAt_30 : decode cX0_byteAt 30 = .ok (.iconst (-1), 1) := by decide +kernel
theorem dX0_byteAt_31 : decode cX0_byteAt 31 = .ok (.ireturn, 1) := by decide +kernel
theorem dX0_fail_0 : decode cX0_fail 0 = .ok (.aload_n 0, 1) := by decide +kernel
theorem dX0_fail_1 : decode cX0_fail 1 = .ok (.getfield 15, 3) := by decide +kernel
theorem dX0_fail_4 : decode cX0_fail 4 = .ok (.ifCond .ne 13, 3) := by decide +kernel
theorem dX0_fail_7 : decode cX0_fail 7 = .ok (.aload_n 0, 1) := by decide +kernel
theorem dX0_fail_8 : decode cX0_fail 8 = .ok (.iload_n 1, 1) := by decide +kernel
theorem dX0_fail_9 : decode cX0_fail 9 = .ok (.putfield 15, 3) := by decide +kernel
theorem dX0_fail_12 : decode cX0_fail 12 = .ok (.aload_n 0, 1) := by decide +kernel
theorem dX0_fail_13 : decode cX0_fail 13 = .ok (.iload_n 2, 1) := by decide +kernel
theorem dX0_fail_14 : decode cX0_fail 14 = .ok (.putfield 19, 3) := by decide +kernel
theorem dX0_fail_17 : decode cX0_fail 17 = .ok (.iconst 0, 1) := by decide +kernel
theorem dX0_fail_18 : decode cX0_fail 18 = .ok (.ireturn, 1) := by decide +kernel
theorem dX0_failHere_0 : decode cX0_failHere 0 = .ok (.aload_n 0, 1) := by decide +kernel
theorem dX0_failHere_1 : decode cX0_failHere 1 = .ok (.iconst 2, 1) := by decide +kernel
theorem dX0_failHere_2 : decode cX0_failHere 2 = .ok (.aload_n 0, 1) := by decide +kernel
theorem dX0_failHere_3 : decode cX0_failHere 3 = .ok (.getfield 25, 3) := by decide +kernel
theorem dX0_failHere_6 : decode cX0_failHere 6 = .ok (.invokevirtual 32, 3) := by decide +kernel
theorem dX0_failHere_9 : decode cX0_failHere 9 = .ok (.ireturn, 1) := by decide +kernel
theorem dX0_goesOn_0 : decode cX0_goesOn 0 = .ok (.aload_n 0, 1) := by decide +kernel
theorem dX0_goesOn_1 : decode cX0_goesOn 1 = .ok (.getfield 15, 3) := by decide +kernel
theorem dX0_goesOn_4 : decode cX0_goesOn 4 = .ok (.ifCond .ne 18, 3) := by decide +kernel
theorem dX0_goesOn_7 : decode cX0_goesOn 7 = .ok (.aload_n 0, 1) := by decide +kernel
theorem dX0_goesOn_8 : decode cX0_goesOn 8 = .ok (.getfield 25, 3) := by decide +kernel
theorem dX0_goesOn_11 : decode cX0_goesOn 11 = .ok (.aload_n 0, 1) := by decide +kernel
theorem dX0_goesOn_12 : decode cX0_goesOn 12 = .ok (.getfield 22, 3) := by decide +kernel
theorem dX0_goesOn_15 : decode cX0_goesOn 15 = .ok (.if_icmp .ge 7, 3) := by decide +kernel
theorem dX0_goesOn_18 : decode cX0_goesOn 18 = .ok (.iconst 1, 1) := by decide +kernel
theorem dX0_goesOn_19 : decode cX0_goesOn 19 = .ok (.goto 4, 3) := by decide +kernel
theorem dX0_goesOn_22 : decode cX0_goesOn 22 = .ok (.iconst 0, 1) := by decide +kernel
theorem dX0_goesOn_23 : decode cX0_goesOn 23 = .ok (.ireturn, 1) := by decide +kernel
theorem dX0_init_0 : decode cX0_init 0 = .ok (.aload_n 0, 1) := by decide +kernel
theorem dX0_init_1 : decode cX0_init 1 = .ok (.invokespecial 3, 3) := by decide +kernel
theorem dX0_init_4 : decode cX0_init 4 = .ok (.aload_n 0, 1) := by decide +kernel
theorem dX0_init_5 : decode cX0_init 5 = .ok (.sipush 500, 3) := by decide +kernel
theorem dX0_init_8 : decode cX0_init 8 = .ok (.newarray .int, 2) := by decide +kernel
theorem dX0_init_10 : decode cX0_init 10 = .ok (.putfield 9, 3) := by decide +kernel
theorem dX0_init_13 : decode cX0_init 13 = .ok (.aload_n 0, 1) := by decide +kernel
theorem dX0_init_14 : decode cX0_init 14 = .ok (.iconst 0, 1) := by decide +kernel
theorem dX0_init_15 : decode cX0_init 15 = .ok (.putfield 15, 3) := by decide +kernel
theorem dX0_init_18 : decode cX0_init 18 = .ok (.aload_n 0, 1) := by decide +kernel
theorem dX0_init_19 : decode cX0_init 19 = .ok (.iconst (-1), 1) := by decide +kernel
theorem dX0_init_20 : decode cX0_init 20 = .ok (.putfield 19, 3) := by decide +kernel
theorem dX0_init_23 : decode cX0_init 23 = .ok (.return_, 1) := by decide +kernel
theorem dX1_clear_0 : decode cX1_clear 0 = .ok (.aload_n 0, 1) := by decide +kernel
theorem dX1_clear_1 : decode cX1_clear 1 = .ok (.iconst 0, 1) := by decide +kernel
theorem dX1_clear_2 : decode cX1_clear 2 = .ok (.putfield 26, 3) := by decide +kernel
theorem dX1_clear_5 : decode cX1_clear 5 = .ok (.return_, 1) := by decide +kernel
theorem dX1_init_0 : decode cX1_init 0 = .ok (.aload_n 0, 1) := by decide +kernel
theorem dX1_init_1 : decode cX1_init 1 = .ok (.invokespecial 1, 3) := by decide +kernel
theorem dX1_init_4 : decode cX1_init 4 = .ok (.aload_n 0, 1) := by decide +kernel
theorem dX1_init_5 : decode cX1_init 5 = .ok (.iload_n 1, 1) := by decide +kernel
theorem dX1_init_6 : decode cX1_init 6 = .ok (.iconst 0, 1) := by decide +kernel
theorem dX1_init_7 : decode cX1_init 7 = .ok (.invokestatic 7, 3) := by decide +kernel
theorem dX1_init_10 : decode cX1_init 10 = .ok (.putfield 13, 3) := by decide +kernel
theorem dX1_init_13 : decode cX1_init 13 = .ok (.aload_n 0, 1) := by decide +kernel
theorem dX1_init_14 : decode cX1_init 14 = .ok (.aload_n 0, 1) := by decide +kernel
theorem dX1_init_15 : decode cX1_init 15 = .ok (.getfield 13, 3) := by decide +kernel
theorem dX1_init_18 : decode cX1_init 18 = .ok (.newarray .int, 2) := by decide +kernel
theorem dX1_init_20 : decode cX1_init 20 = .ok (.putfield 19, 3) := by decide +kernel
theorem dX1_init_23 : decode cX1_init 23 = .ok (.aload_n 0, 1) := by decide +kernel
theorem dX1_init_24 : decode cX1_init 24 = .ok (.aload_n 0, 1) := by decide +kernel
theorem dX1_init_25 : decode cX1_init 25 = .ok (.getfield 13, 3) := by decide +kernel
theorem dX1_init_28 : decode cX1_init 28 = .ok (.newarray .int, 2) := by decide +kernel
theorem dX1_init_30 : decode cX1_init 30 = .ok (.putfield 23, 3) := by decide +kernel
theorem dX1_init_33 : decode cX1_init 33 = .ok (.return_, 1) := by decide +kernel
theorem dX2_clear_0 : decode cX2_clear 0 = .ok (.aload_n 0, 1) := by decide +kernel
theorem dX2_clear_1 : decode cX2_clear 1 = .ok (.iconst 0, 1) := by decide +kernel
theorem dX2_clear_2 : decode cX2_clear 2 = .ok (.putfield 24, 3) := by decide +kernel
theorem dX2_clear_5 : decode cX2_clear 5 = .ok (.aload_n 0, 1) := by decide +kernel
theorem dX2_clear_6 : decode cX2_clear 6 = .ok (.iconst 0, 1) := by decide +kernel
theorem dX2_clear_7 : decode cX2_clear 7 = .ok (.putfield 28, 3) := by decide +kernel
theorem dX2_clear_10 : decode cX2_clear 10 = .ok (.return_, 1) := by decide +kernel
theorem dX2_init_0 : decode cX2_init 0 = .ok (.aload_n 0, 1) := by decide +kernel
theorem dX2_init_1 : decode cX2_init 1 = .ok (.invokespecial 3, 3) := by decide +kernel
theorem dX2_init_4 : decode cX2_init 4 = .ok (.aload_n 0, 1) := by decide +kernel
theorem dX2_init_5 : decode cX2_init 5 = .ok (.sipush 150, 3) := by decide +kernel
theorem dX2_init_8 : decode cX2_init 8 = .ok (.newarray .int, 2) := by decide +kernel
theorem dX2_init_10 : decode cX2_init 10 = .ok (.putfield 9, 3) := by decide +kernel
theorem dX2_init_13 : decode cX2_init 13 = .ok (.aload_n 0, 1) := by decide +kernel
theorem dX2_init_14 : decode cX2_init 14 = .ok (.sipush 150, 3) := by decide +kernel
theorem dX2_init_17 : decode cX2_init 17 = .ok (.newarray .int, 2) := by decide +kernel
theorem dX2_init_19 : decode cX2_init 19 = .ok (.putfield 15, 3) := by decide +kernel
theorem dX2_init_22 : decode cX2_init 22 = .ok (.aload_n 0, 1) := by decide +kernel
theorem dX2_init_23 : decode cX2_init 23 = .ok (.sipush 150, 3) := by decide +kernel
theorem dX2_init_26 : decode cX2_init 26 = .ok (.newarray .int, 2) := by decide +kernel
theorem dX2_init_28 : decode cX2_init 28 = .ok (.putfield 18, 3) := by decide +kernel
theorem dX2_init_31 : decode cX2_init 31 = .ok (.aload_n 0, 1) := by decide +kernel
theorem dX2_init_32 : decode cX2_init 32 = .ok (.sipush 150, 3) := by decide +kernel
theorem dX2_init_35 : decode cX2_init 35 = .ok (.newarray .int, 2) := by decide +kernel
theorem dX2_init_37 : decode cX2_init 37 = .ok (.putfield 21, 3) := by decide +kernel
theorem dX2_init_40 : decode cX2_init 40 = .ok (.return_, 1) := by decide +kernel
theorem dX2_tell_0 : decode cX2_tell 0 = .ok (.iload_n 1, 1) := by decide +kernel
theorem dX2_tell_1 : decode cX2_tell 1 = .ok (.ifCond .lt 18, 3) := by decide +kernel
theorem dX2_tell_4 : decode cX2_tell 4 = .ok (.iload_n 1, 1) := by decide +kernel
theorem dX2_tell_5 : decode cX2_tell 5 = .ok (.aload_n 0, 1) := by decide +kernel
theorem dX2_tell_6 : decode cX2_tell 6 = .ok (.getfield 24, 3) := by decide +kernel
theorem dX2_tell_9 : decode cX2_tell 9 = .ok (.if_icmp .ge 10, 3) := by decide +kernel
theorem dX2_tell_12 : decode cX2_tell 12 = .ok (.iload_n 1, 1) := by decide +kernel
theorem dX2_tell_13 : decode cX2_tell 13 = .ok (.sipush 150, 3) := by decide +kernel
theorem dX2_tell_16 : decode cX2_tell 16 = .ok (.if_icmp .lt 5, 3) := by decide +kernel
theorem dX2_tell_19 : decode cX2_tell 19 = .ok (.iconst (-1), 1) := by decide +kernel
theorem dX2_tell_20 : decode cX2_tell 20 = .ok (.ireturn, 1) := by decide +kernel
theorem dX2_tell_21 : decode cX2_tell 21 = .ok (.iload_n 2, 1) := by decide +kernel
theorem dX2_tell_22 : decode cX2_tell 22 = .ok (.tableswitch 58 0 3 #[30, 37, 44, 51], 30) := by decide +kernel
theorem dX2_tell_52 : decode cX2_tell 52 = .ok (.aload_n 0, 1) := by decide +kernel
theorem dX2_tell_53 : decode cX2_tell 53 = .ok (.getfield 9, 3) := by decide +kernel
theorem dX2_tell_56 : decode cX2_tell 56 = .ok (.iload_n 1, 1) := by decide +kernel
theorem dX2_tell_57 : decode cX2_tell 57 = .ok (.iaload, 1) := by decide +kernel
theorem dX2_tell_58 : decode cX2_tell 58 = .ok (.ireturn, 1) := by decide +kernel
theorem dX2_tell_59 : decode cX2_tell 59 = .ok (.aload_n 0, 1) := by decide +kernel
theorem dX2_tell_60 : decode cX2_tell 60 = .ok (.getfield 15, 3) := by decide +kernel
theorem dX2_tell_63 : decode cX2_tell 63 = .ok (.iload_n 1, 1) := by decide +kernel
theorem dX2_tell_64 : decode cX2_tell 64 = .ok (.iaload, 1) := by decide +kernel
theorem dX2_tell_65 : decode cX2_tell 65 = .ok (.ireturn, 1) := by decide +kernel
theorem dX2_tell_66 : decode cX2_tell 66 = .ok (.aload_n 0, 1) := by decide +kernel
theorem dX2_tell_67 : decode cX2_tell 67 = .ok (.getfield 18, 3) := by decide +kernel
theorem dX2_tell_70 : decode cX2_tell 70 = .ok (.iload_n 1, 1) := by decide +kernel
theorem dX2_tell_71 : decode cX2_tell 71 = .ok (.iaload, 1) := by decide +kernel
theorem dX2_tell_72 : decode cX2_tell 72 = .ok (.ireturn, 1) := by decide +kernel
theorem dX2_tell_73 : decode cX2_tell 73 = .ok (.aload_n 0, 1) := by decide +kernel
theorem dX2_tell_74 : decode cX2_tell 74 = .ok (.getfield 21, 3) := by decide +kernel
theorem dX2_tell_77 : decode cX2_tell 77 = .ok (.iload_n 1, 1) := by decide +kernel
theorem dX2_tell_78 : decode cX2_tell 78 = .ok (.iaload, 1) := by decide +kernel
theorem dX2_tell_79 : decode cX2_tell 79 = .ok (.ireturn, 1) := by decide +kernel
theorem dX2_tell_80 : decode cX2_tell 80 = .ok (.iconst (-1), 1) := by decide +kernel
theorem dX2_tell_81 : decode cX2_tell 81 = .ok (.ireturn, 1) := by decide +kernel
theorem dX3_beginText_0 : decode cX3_beginText 0 = .ok (.aload_n 0, 1) := by decide +kernel
theorem dX3_beginText_1 : decode cX3_beginText 1 = .ok (.aload_n 0, 1) := by decide +kernel
theorem dX3_beginText_2 : decode cX3_beginText 2 = .ok (.getfield 16, 3) := by decide +kernel
theorem dX3_beginText_5 : decode cX3_beginText 5 = .ok (.aload_n 0, 1) := by decide +kernel
theorem dX3_beginText_6 : decode cX3_beginText 6 = .ok (.getfield 9, 3) := by decide +kernel
theorem dX3_beginText_9 : decode cX3_beginText 9 = .ok (.aload_n 0, 1) := by decide +kernel
theorem dX3_beginText_10 : decode cX3_beginText 10 = .ok (.getfield 43, 3) := by decide +kernel
theorem dX3_beginText_13 : decode cX3_beginText 13 = .ok (.invokevirtual 95, 3) := by decide +kernel
theorem dX3_beginText_16 : decode cX3_beginText 16 = .ok (.putfield 9, 3) := by decide +kernel
theorem dX3_beginText_19 : decode cX3_beginText 19 = .ok (.aload_n 0, 1) := by decide +kernel
theorem dX3_beginText_20 : decode cX3_beginText 20 = .ok (.iconst 0, 1) := by decide +kernel
theorem dX3_beginText_21 : decode cX3_beginText 21 = .ok (.putfield 43, 3) := by decide +kernel
theorem dX3_beginText_24 : decode cX3_beginText 24 = .ok (.aload_n 0, 1) := by decide +kernel
theorem dX3_beginText_25 : decode cX3_beginText 25 = .ok (.getfield 23, 3) := by decide +kernel
theorem dX3_beginText_28 : decode cX3_beginText 28 = .ok (.invokevirtual 99, 3) := by decide +kernel
theorem dX3_beginText_31 : decode cX3_beginText 31 = .ok (.aload_n 0, 1) := by decide +kernel
theorem dX3_beginText_32 : decode cX3_beginText 32 = .ok (.getfield 32, 3) := by decide +kernel
theorem dX3_beginText_35 : decode cX3_beginText 35 = .ok (.invokevirtual 102, 3) := by decide +kernel
theorem dX3_beginText_38 : decode cX3_beginText 38 = .ok (.aload_n 0, 1) := by decide +kernel
theorem dX3_beginText_39 : decode cX3_beginText 39 = .ok (.getfield 36, 3) := by decide +kernel
theorem dX3_beginText_42 : decode cX3_beginText 42 = .ok (.invokevirtual 102, 3) := by decide +kernel
theorem dX3_beginText_45 : decode cX3_beginText 45 = .ok (.aload_n 0, 1) := by decide +kernel
theorem dX3_beginText_46 : decode cX3_beginText 46 = .ok (.iconst 0, 1) := by decide +kernel
theorem dX3_beginText_47 : decode cX3_beginText 47 = .ok (.putfield 86, 3) := by decide +kernel
theorem dX3_beginText_50 : decode cX3_beginText 50 = .ok (.aload_n 0, 1) := by decide +kernel
theorem dX3_beginText_51 : decode cX3_beginText 51 = .ok (.iconst 0, 1) := by decide +kernel
theorem dX3_beginText_52 : decode cX3_beginText 52 = .ok (.putfield 89, 3) := by decide +kernel
theorem dX3_beginText_55 : decode cX3_beginText 55 = .ok (.aload_n 0, 1) := by decide +kernel
theorem dX3_beginText_56 : decode cX3_beginText 56 = .ok (.iconst 0, 1) := by decide +kernel
theorem dX3_beginText_57 : decode cX3_beginText 57 = .ok (.putfield 56, 3) := by decide +kernel
theorem dX3_beginText_60 : decode cX3_beginText 60 = .ok (.aload_n 0, 1) := by decide +kernel
theorem dX3_beginText_61 : decode cX3_beginText 61 = .ok (.iconst (-1), 1) := by decide +kernel
theorem dX3_beginText_62 : decode cX3_beginText 62 = .ok (.putfield 39, 3) := by decide +kernel
theorem dX3_beginText_65 : decode cX3_beginText 65 = .ok (.return_, 1) := by decide +kernel
theorem dX3_byteOf_0 : decode cX3_byteOf 0 = .ok (.aload_n 0, 1) := by decide +kernel
theorem dX3_byteOf_1 : decode cX3_byteOf 1 = .ok (.getfield 16, 3) := by decide +kernel
theorem dX3_byteOf_4 : decode cX3_byteOf 4 = .ok (.iload_n 1, 1) := by decide +kernel
theorem dX3_byteOf_5 : decode cX3_byteOf 5 = .ok (.invokevirtual 82, 3) := by decide +kernel
theorem dX3_byteOf_8 : decode cX3_byteOf 8 = .ok (.ireturn, 1) := by decide +kernel
theorem dX3_count_0 : decode cX3_count 0 = .ok (.iload_n 1, 1) := by decide +kernel
theorem dX3_count_1 : decode cX3_count 1 = .ok (.tableswitch 66 0 4 #[35, 43, 48, 53, 58], 35) := by decide +kernel
theorem dX3_count_36 : decode cX3_count 36 = .ok (.aload_n 0, 1) := by decide +kernel
theorem dX3_count_37 : decode cX3_count 37 = .ok (.getfield 23, 3) := by decide +kernel
theorem dX3_count_40 : decode cX3_count 40 = .ok (.getfield 72, 3) := by decide +kernel
theorem dX3_count_43 : decode cX3_count 43 = .ok (.ireturn, 1) := by decide +kernel
theorem dX3_count_44 : decode cX3_count 44 = .ok (.aload_n 0, 1) := by decide +kernel
theorem dX3_count_45 : decode cX3_count 45 = .ok (.getfield 86, 3) := by decide +kernel
theorem dX3_count_48 : decode cX3_count 48 = .ok (.ireturn, 1) := by decide +kernel
theorem dX3_count_49 : decode cX3_count 49 = .ok (.aload_n 0, 1) := by decide +kernel
theorem dX3_count_50 : decode cX3_count 50 = .ok (.getfield 89, 3) := by decide +kernel
theorem dX3_count_53 : decode cX3_count 53 = .ok (.ireturn, 1) := by decide +kernel
theorem dX3_count_54 : decode cX3_count 54 = .ok (.aload_n 0, 1) := by decide +kernel
theorem dX3_count_55 : decode cX3_count 55 = .ok (.getfield 43, 3) := by decide +kernel
theorem dX3_count_58 : decode cX3_count 58 = .ok (.ireturn, 1) := by decide +kernel
theorem dX3_count_59 : decode cX3_count 59 = .ok (.aload_n 0, 1) := by decide +kernel
theorem dX3_count_60 : decode cX3_count 60 = .ok (.getfield 23, 3) := by decide +kernel
theorem dX3_count_63 : decode cX3_count 63 = .ok (.getfield 92, 3) := by decide +kernel
theorem dX3_count_66 : decode cX3_count 66 = .ok (.ireturn, 1) := by decide +kernel
theorem dX3_count_67 : decode cX3_count 67 = .ok (.iconst (-1), 1) := by decide +kernel
theorem dX3_count_68 : decode cX3_count 68 = .ok (.ireturn, 1) := by decide +kernel
theorem dX3_endText_0 : decode cX3_endText 0 = .ok (.aload_n 0, 1) := by decide +kernel
theorem dX3_endText_1 : decode cX3_endText 1 = .ok (.getfield 86, 3) := by decide +kernel
theorem dX3_endText_4 : decode cX3_endText 4 = .ok (.ifCond .le 24, 3) := by decide +kernel
theorem dX3_endText_7 : decode cX3_endText 7 = .ok (.aload_n 0, 1) := by decide +kernel
theorem dX3_endText_8 : decode cX3_endText 8 = .ok (.getfield 32, 3) := by decide +kernel
theorem dX3_endText_11 : decode cX3_endText 11 = .ok (.getfield 103, 3) := by decide +kernel
theorem dX3_endText_14 : decode cX3_endText 14 = .ok (.ifCond .ne 14, 3) := by decide +kernel
theorem dX3_endText_17 : decode cX3_endText 17 = .ok (.aload_n 0, 1) := by decide +kernel
theorem dX3_endText_18 : decode cX3_endText 18 = .ok (.getfield 56, 3) := by decide +kernel
theorem dX3_endText_21 : decode cX3_endText 21 = .ok (.ifCond .ne 7, 3) := by decide +kernel
theorem dX3_endText_24 : decode cX3_endText 24 = .ok (.iconst 1, 1) := by decide +kernel
theorem dX3_endText_25 : decode cX3_endText 25 = .ok (.goto 4, 3) := by decide +kernel
theorem dX3_endText_28 : decode cX3_endText 28 = .ok (.iconst 0, 1) := by decide +kernel
theorem dX3_endText_29 : decode cX3_endText 29 = .ok (.istore_n 1, 1) := by decide +kernel
theorem dX3_endText_30 : decode cX3_endText 30 = .ok (.iload_n 1, 1) := by decide +kernel
theorem dX3_endText_31 : decode cX3_endText 31 = .ok (.ifCond .ne 11, 3) := by decide +kernel
theorem dX3_endText_34 : decode cX3_endText 34 = .ok (.aload_n 0, 1) := by decide +kernel
theorem dX3_endText_35 : decode cX3_endText 35 = .ok (.getfield 16, 3) := by decide +kernel
theorem dX3_endText_38 : decode cX3_endText 38 = .ok (.invokevirtual 104, 3) := by decide +kernel
theorem dX3_endText_41 : decode cX3_endText 41 = .ok (.pop, 1) := by decide +kernel
theorem dX3_endText_42 : decode cX3_endText 42 = .ok (.return_, 1) := by decide +kernel
theorem dX3_init_0 : decode cX3_init 0 = .ok (.aload_n 0, 1) := by decide +kernel
theorem dX3_init_1 : decode cX3_init 1 = .ok (.invokespecial 1, 3) := by decide +kernel
theorem dX3_init_4 : decode cX3_init 4 = .ok (.aload_n 0, 1) := by decide +kernel
theorem dX3_init_5 : decode cX3_init 5 = .ok (.sipush 500, 3) := by decide +kernel
theorem dX3_init_8 : decode cX3_init 8 = .ok (.newarray .int, 2) := by decide +kernel
theorem dX3_init_10 : decode cX3_init 10 = .ok (.putfield 9, 3) := by decide +kernel
theorem dX3_init_13 : decode cX3_init 13 = .ok (.aload_n 0, 1) := by decide +kernel
theorem dX3_init_14 : decode cX3_init 14 = .ok (.new 13, 3) := by decide +kernel
theorem dX3_init_17 : decode cX3_init 17 = .ok (.dup, 1) := by decide +kernel
theorem dX3_init_18 : decode cX3_init 18 = .ok (.invokespecial 15, 3) := by decide +kernel
theorem dX3_init_21 : decode cX3_init 21 = .ok (.putfield 16, 3) := by decide +kernel
theorem dX3_init_24 : decode cX3_init 24 = .ok (.aload_n 0, 1) := by decide +kernel
theorem dX3_init_25 : decode cX3_init 25 = .ok (.new 20, 3) := by decide +kernel
theorem dX3_init_28 : decode cX3_init 28 = .ok (.dup, 1) := by decide +kernel
theorem dX3_init_29 : decode cX3_init 29 = .ok (.invokespecial 22, 3) := by decide +kernel
theorem dX3_init_32 : decode cX3_init 32 = .ok (.putfield 23, 3) := by decide +kernel
theorem dX3_init_35 : decode cX3_init 35 = .ok (.aload_n 0, 1) := by decide +kernel
theorem dX3_init_36 : decode cX3_init 36 = .ok (.new 27, 3) := by decide +kernel
theorem dX3_init_39 : decode cX3_init 39 = .ok (.dup, 1) := by decide +kernel
theorem dX3_init_40 : decode cX3_init 40 = .ok (.bipush 20, 2) := by decide +kernel
theorem dX3_init_42 : decode cX3_init 42 = .ok (.invokespecial 29, 3) := by decide +kernel
theorem dX3_init_45 : decode cX3_init 45 = .ok (.putfield 32, 3) := by decide +kernel
theorem dX3_init_48 : decode cX3_init 48 = .ok (.aload_n 0, 1) := by decide +kernel
theorem dX3_init_49 : decode cX3_init 49 = .ok (.new 27, 3) := by decide +kernel
theorem dX3_init_52 : decode cX3_init 52 = .ok (.dup, 1) := by decide +kernel
theorem dX3_init_53 : decode cX3_init 53 = .ok (.bipush 8, 2) := by decide +kernel
theorem dX3_init_55 : decode cX3_init 55 = .ok (.invokespecial 29, 3) := by decide +kernel
theorem dX3_init_58 : decode cX3_init 58 = .ok (.putfield 36, 3) := by decide +kernel
theorem dX3_init_61 : decode cX3_init 61 = .ok (.aload_n 0, 1) := by decide +kernel
theorem dX3_init_62 : decode cX3_init 62 = .ok (.iconst (-1), 1) := by decide +kernel
theorem dX3_init_63 : decode cX3_init 63 = .ok (.putfield 39, 3) := by decide +kernel
theorem dX3_init_66 : decode cX3_init 66 = .ok (.return_, 1) := by decide +kernel
theorem dX3_piece_0 : decode cX3_piece 0 = .ok (.aload_n 0, 1) := by decide +kernel
theorem dX3_piece_1 : decode cX3_piece 1 = .ok (.getfield 23, 3) := by decide +kernel
theorem dX3_piece_4 : decode cX3_piece 4 = .ok (.iload_n 1, 1) := by decide +kernel
theorem dX3_piece_5 : decode cX3_piece 5 = .ok (.iload_n 2, 1) := by decide +kernel
theorem dX3_piece_6 : decode cX3_piece 6 = .ok (.invokevirtual 78, 3) := by decide +kernel
theorem dX3_piece_9 : decode cX3_piece 9 = .ok (.ireturn, 1) := by decide +kernel
theorem dX3_place_0 : decode cX3_place 0 = .ok (.aload_n 0, 1) := by decide +kernel
theorem dX3_place_1 : decode cX3_place 1 = .ok (.getfield 16, 3) := by decide +kernel
theorem dX3_place_4 : decode cX3_place 4 = .ok (.getfield 75, 3) := by decide +kernel
theorem dX3_place_7 : decode cX3_place 7 = .ok (.ireturn, 1) := by decide +kernel
theorem dX3_put_0 : decode cX3_put 0 = .ok (.iload_n 3, 1) := by decide +kernel
theorem dX3_put_1 : decode cX3_put 1 = .ok (.iconst 1, 1) := by decide +kernel
theorem dX3_put_2 : decode cX3_put 2 = .ok (.if_icmp .lt 21, 3) := by decide +kernel
theorem dX3_put_5 : decode cX3_put 5 = .ok (.iload_n 3, 1) := by decide +kernel
theorem dX3_put_6 : decode cX3_put 6 = .ok (.bipush 8, 2) := by decide +kernel
theorem dX3_put_8 : decode cX3_put 8 = .ok (.if_icmp .gt 15, 3) := by decide +kernel
theorem dX3_put_11 : decode cX3_put 11 = .ok (.aload_n 0, 1) := by decide +kernel
theorem dX3_put_12 : decode cX3_put 12 = .ok (.getfield 43, 3) := by decide +kernel
theorem dX3_put_15 : decode cX3_put 15 = .ok (.sipush 500, 3) := by decide +kernel
theorem dX3_put_18 : decode cX3_put 18 = .ok (.iload_n 3, 1) := by decide +kernel
theorem dX3_put_19 : decode cX3_put 19 = .ok (.isub, 1) := by decide +kernel
theorem dX3_put_20 : decode cX3_put 20 = .ok (.if_icmp .le 5, 3) := by decide +kernel
theorem dX3_put_23 : decode cX3_put 23 = .ok (.iconst 0, 1) := by decide +kernel
theorem dX3_put_24 : decode cX3_put 24 = .ok (.ireturn, 1) := by decide +kernel
theorem dX3_put_25 : decode cX3_put 25 = .ok (.iload_n 3, 1) := by decide +kernel
theorem dX3_put_26 : decode cX3_put 26 = .ok (.iconst 1, 1) := by decide +kernel
theorem dX3_put_27 : decode cX3_put 27 = .ok (.isub, 1) := by decide +kernel
theorem dX3_put_28 : decode cX3_put 28 = .ok (.istore 4, 2) := by decide +kernel
theorem dX3_put_30 : decode cX3_put 30 = .ok (.iload 4, 2) := by decide +kernel
theorem dX3_put_32 : decode cX3_put 32 = .ok (.ifCond .lt 59, 3) := by decide +kernel
theorem dX3_put_35 : decode cX3_put 35 = .ok (.aload_n 0, 1) := by decide +kernel
theorem dX3_put_36 : decode cX3_put 36 = .ok (.getfield 43, 3) := by decide +kernel
theorem dX3_put_39 : decode cX3_put 39 = .ok (.ifCond .lt 46, 3) := by decide +kernel
theorem dX3_put_42 : decode cX3_put 42 = .ok (.aload_n 0, 1) := by decide +kernel
theorem dX3_put_43 : decode cX3_put 43 = .ok (.getfield 43, 3) := by decide +kernel
theorem dX3_put_46 : decode cX3_put 46 = .ok (.aload_n 0, 1) := by decide +kernel
theorem dX3_put_47 : decode cX3_put 47 = .ok (.getfield 9, 3) := by decide +kernel
theorem dX3_put_50 : decode cX3_put 50 = .ok (.arraylength, 1) := by decide +kernel
theorem dX3_put_51 : decode cX3_put 51 = .ok (.if_icmp .ge 34, 3) := by decide +kernel
theorem dX3_put_54 : decode cX3_put 54 = .ok (.aload_n 0, 1) := by decide +kernel
theorem dX3_put_55 : decode cX3_put 55 = .ok (.getfield 9, 3) := by decide +kernel
theorem dX3_put_58 : decode cX3_put 58 = .ok (.aload_n 0, 1) := by decide +kernel
theorem dX3_put_59 : decode cX3_put 59 = .ok (.getfield 43, 3) := by decide +kernel
theorem dX3_put_62 : decode cX3_put 62 = .ok (.lload_n 1, 1) := by decide +kernel
theorem dX3_put_63 : decode cX3_put 63 = .ok (.bipush 8, 2) := by decide +kernel
theorem dX3_put_65 : decode cX3_put 65 = .ok (.iload 4, 2) := by decide +kernel
theorem dX3_put_67 : decode cX3_put 67 = .ok (.imul, 1) := by decide +kernel
theorem dX3_put_68 : decode cX3_put 68 = .ok (.lushr, 1) := by decide +kernel
theorem dX3_put_69 : decode cX3_put 69 = .ok (.l2i, 1) := by decide +kernel
theorem dX3_put_70 : decode cX3_put 70 = .ok (.sipush 255, 3) := by decide +kernel
theorem dX3_put_73 : decode cX3_put 73 = .ok (.iand, 1) := by decide +kernel
theorem dX3_put_74 : decode cX3_put 74 = .ok (.iastore, 1) := by decide +kernel
theorem dX3_put_75 : decode cX3_put 75 = .ok (.aload_n 0, 1) := by decide +kernel
theorem dX3_put_76 : decode cX3_put 76 = .ok (.dup, 1) := by decide +kernel
theorem dX3_put_77 : decode cX3_put 77 = .ok (.getfield 43, 3) := by decide +kernel
theorem dX3_put_80 : decode cX3_put 80 = .ok (.iconst 1, 1) := by decide +kernel
theorem dX3_put_81 : decode cX3_put 81 = .ok (.iadd, 1) := by decide +kernel
theorem dX3_put_82 : decode cX3_put 82 = .ok (.putfield 43, 3) := by decide +kernel
theorem dX3_put_85 : decode cX3_put 85 = .ok (.iinc 4 (-1), 3) := by decide +kernel
theorem dX3_put_88 : decode cX3_put 88 = .ok (.goto (-58), 3) := by decide +kernel
theorem dX3_put_91 : decode cX3_put 91 = .ok (.iconst 1, 1) := by decide +kernel
theorem dX3_put_92 : decode cX3_put 92 = .ok (.ireturn, 1) := by decide +kernel
theorem dX3_read_0 : decode cX3_read 0 = .ok (.aload_n 0, 1) := by decide +kernel
theorem dX3_read_1 : decode cX3_read 1 = .ok (.invokevirtual 46, 3) := by decide +kernel
theorem dX3_read_4 : decode cX3_read 4 = .ok (.iconst 0, 1) := by decide +kernel
theorem dX3_read_5 : decode cX3_read 5 = .ok (.istore_n 1, 1) := by decide +kernel
theorem dX3_read_6 : decode cX3_read 6 = .ok (.iload_n 1, 1) := by decide +kernel
theorem dX3_read_7 : decode cX3_read 7 = .ok (.sipush 500, 3) := by decide +kernel
theorem dX3_read_10 : decode cX3_read 10 = .ok (.if_icmp .ge 52, 3) := by decide +kernel
theorem dX3_read_13 : decode cX3_read 13 = .ok (.aload_n 0, 1) := by decide +kernel
theorem dX3_read_14 : decode cX3_read 14 = .ok (.getfield 16, 3) := by decide +kernel
theorem dX3_read_17 : decode cX3_read 17 = .ok (.invokevirtual 49, 3) := by decide +kernel
theorem dX3_read_20 : decode cX3_read 20 = .ok (.ifCond .eq 42, 3) := by decide +kernel
theorem dX3_read_23 : decode cX3_read 23 = .ok (.aload_n 0, 1) := by decide +kernel
theorem dX3_read_24 : decode cX3_read 24 = .ok (.getfield 39, 3) := by decide +kernel
theorem dX3_read_27 : decode cX3_read 27 = .ok (.iconst (-1), 1) := by decide +kernel
theorem dX3_read_28 : decode cX3_read 28 = .ok (.if_icmp .eq 10, 3) := by decide +kernel
theorem dX3_read_31 : decode cX3_read 31 = .ok (.aload_n 0, 1) := by decide +kernel
theorem dX3_read_32 : decode cX3_read 32 = .ok (.invokevirtual 53, 3) := by decide +kernel
theorem dX3_read_35 : decode cX3_read 35 = .ok (.goto 21, 3) := by decide +kernel
theorem dX3_read_38 : decode cX3_read 38 = .ok (.aload_n 0, 1) := by decide +kernel
theorem dX3_read_39 : decode cX3_read 39 = .ok (.getfield 56, 3) := by decide +kernel
theorem dX3_read_42 : decode cX3_read 42 = .ok (.ifCond .eq 10, 3) := by decide +kernel
theorem dX3_read_45 : decode cX3_read 45 = .ok (.aload_n 0, 1) := by decide +kernel
theorem dX3_read_46 : decode cX3_read 46 = .ok (.invokevirtual 60, 3) := by decide +kernel
theorem dX3_read_49 : decode cX3_read 49 = .ok (.goto 7, 3) := by decide +kernel
theorem dX3_read_52 : decode cX3_read 52 = .ok (.aload_n 0, 1) := by decide +kernel
theorem dX3_read_53 : decode cX3_read 53 = .ok (.invokevirtual 63, 3) := by decide +kernel
theorem dX3_read_56 : decode cX3_read 56 = .ok (.iinc 1 1, 3) := by decide +kernel
theorem dX3_read_59 : decode cX3_read 59 = .ok (.goto (-53), 3) := by decide +kernel
theorem dX3_read_62 : decode cX3_read 62 = .ok (.aload_n 0, 1) := by decide +kernel
theorem dX3_read_63 : decode cX3_read 63 = .ok (.invokevirtual 66, 3) := by decide +kernel
theorem dX3_read_66 : decode cX3_read 66 = .ok (.aload_n 0, 1) := by decide +kernel
theorem dX3_read_67 : decode cX3_read 67 = .ok (.getfield 16, 3) := by decide +kernel
theorem dX3_read_70 : decode cX3_read 70 = .ok (.getfield 69, 3) := by decide +kernel
theorem dX3_read_73 : decode cX3_read 73 = .ok (.ifCond .ne 13, 3) := by decide +kernel
theorem dX3_read_76 : decode cX3_read 76 = .ok (.aload_n 0, 1) := by decide +kernel
theorem dX3_read_77 : decode cX3_read 77 = .ok (.getfield 23, 3) := by decide +kernel
theorem dX3_read_80 : decode cX3_read 80 = .ok (.getfield 72, 3) := by decide +kernel
theorem dX3_read_83 : decode cX3_read 83 = .ok (.goto 12, 3) := by decide +kernel
theorem dX3_read_86 : decode cX3_read 86 = .ok (.iconst (-1), 1) := by decide +kernel
theorem dX3_read_87 : decode cX3_read 87 = .ok (.aload_n 0, 1) := by decide +kernel
theorem dX3_read_88 : decode cX3_read 88 = .ok (.getfield 16, 3) := by decide +kernel
theorem dX3_read_91 : decode cX3_read 91 = .ok (.getfield 69, 3) := by decide +kernel
theorem dX3_read_94 : decode cX3_read 94 = .ok (.isub, 1) := by decide +kernel
theorem dX3_read_95 : decode cX3_read 95 = .ok (.ireturn, 1) := by decide +kernel
theorem dX4_byteOf_0 : decode cX4_byteOf 0 = .ok (.iload_n 1, 1) := by decide +kernel
theorem dX4_byteOf_1 : decode cX4_byteOf 1 = .ok (.ifCond .lt 20, 3) := by decide +kernel
theorem dX4_byteOf_4 : decode cX4_byteOf 4 = .ok (.iload_n 1, 1) := by decide +kernel
theorem dX4_byteOf_5 : decode cX4_byteOf 5 = .ok (.aload_n 0, 1) := by decide +kernel
theorem dX4_byteOf_6 : decode cX4_byteOf 6 = .ok (.getfield 234, 3) := by decide +kernel
theorem dX4_byteOf_9 : decode cX4_byteOf 9 = .ok (.if_icmp .ge 12, 3) := by decide +kernel
theorem dX4_byteOf_12 : decode cX4_byteOf 12 = .ok (.aload_n 0, 1) := by decide +kernel
theorem dX4_byteOf_13 : decode cX4_byteOf 13 = .ok (.getfield 13, 3) := by decide +kernel
theorem dX4_byteOf_16 : decode cX4_byteOf 16 = .ok (.iload_n 1, 1) := by decide +kernel
theorem dX4_byteOf_17 : decode cX4_byteOf 17 = .ok (.iaload, 1) := by decide +kernel
theorem dX4_byteOf_18 : decode cX4_byteOf 18 = .ok (.goto 4, 3) := by decide +kernel
theorem dX4_byteOf_21 : decode cX4_byteOf 21 = .ok (.iconst (-1), 1) := by decide +kernel
theorem dX4_byteOf_22 : decode cX4_byteOf 22 = .ok (.ireturn, 1) := by decide +kernel
theorem dX4_count_0 : decode cX4_count 0 = .ok (.iload_n 1, 1) := by decide +kernel
theorem dX4_count_1 : decode cX4_count 1 = .ok (.tableswitch 60 0 4 #[35, 40, 45, 50, 55], 35) := by decide +kernel
theorem dX4_count_36 : decode cX4_count 36 = .ok (.aload_n 0, 1) := by decide +kernel
theorem dX4_count_37 : decode cX4_count 37 = .ok (.getfield 66, 3) := by decide +kernel
theorem dX4_count_40 : decode cX4_count 40 = .ok (.ireturn, 1) := by decide +kernel
theorem dX4_count_41 : decode cX4_count 41 = .ok (.aload_n 0, 1) := by decide +kernel
theorem dX4_count_42 : decode cX4_count 42 = .ok (.getfield 118, 3) := by decide +kernel
theorem dX4_count_45 : decode cX4_count 45 = .ok (.ireturn, 1) := by decide +kernel
theorem dX4_count_46 : decode cX4_count 46 = .ok (.aload_n 0, 1) := by decide +kernel
theorem dX4_count_47 : decode cX4_count 47 = .ok (.getfield 102, 3) := by decide +kernel
theorem dX4_count_50 : decode cX4_count 50 = .ok (.ireturn, 1) := by decide +kernel
theorem dX4_count_51 : decode cX4_count 51 = .ok (.aload_n 0, 1) := by decide +kernel
theorem dX4_count_52 : decode cX4_count 52 = .ok (.getfield 44, 3) := by decide +kernel
theorem dX4_count_55 : decode cX4_count 55 = .ok (.ireturn, 1) := by decide +kernel
theorem dX4_count_56 : decode cX4_count 56 = .ok (.aload_n 0, 1) := by decide +kernel
theorem dX4_count_57 : decode cX4_count 57 = .ok (.getfield 133, 3) := by decide +kernel
theorem dX4_count_60 : decode cX4_count 60 = .ok (.ireturn, 1) := by decide +kernel
theorem dX4_count_61 : decode cX4_count 61 = .ok (.iconst (-1), 1) := by decide +kernel
theorem dX4_count_62 : decode cX4_count 62 = .ok (.ireturn, 1) := by decide +kernel
theorem dX4_fail_0 : decode cX4_fail 0 = .ok (.aload_n 0, 1) := by decide +kernel
theorem dX4_fail_1 : decode cX4_fail 1 = .ok (.iload_n 1, 1) := by decide +kernel
theorem dX4_fail_2 : decode cX4_fail 2 = .ok (.putfield 53, 3) := by decide +kernel
theorem dX4_fail_5 : decode cX4_fail 5 = .ok (.aload_n 0, 1) := by decide +kernel
theorem dX4_fail_6 : decode cX4_fail 6 = .ok (.iload_n 2, 1) := by decide +kernel
theorem dX4_fail_7 : decode cX4_fail 7 = .ok (.putfield 40, 3) := by decide +kernel
theorem dX4_fail_10 : decode cX4_fail 10 = .ok (.iconst (-1), 1) := by decide +kernel
theorem dX4_fail_11 : decode cX4_fail 11 = .ok (.ireturn, 1) := by decide +kernel
theorem dX4_init_0 : decode cX4_init 0 = .ok (.aload_n 0, 1) := by decide +kernel
theorem dX4_init_1 : decode cX4_init 1 = .ok (.invokespecial 1, 3) := by decide +kernel
theorem dX4_init_4 : decode cX4_init 4 = .ok (.aload_n 0, 1) := by decide +kernel
theorem dX4_init_5 : decode cX4_init 5 = .ok (.sipush 500, 3) := by decide +kernel
theorem dX4_init_8 : decode cX4_init 8 = .ok (.newarray .int, 2) := by decide +kernel
theorem dX4_init_10 : decode cX4_init 10 = .ok (.putfield 7, 3) := by decide +kernel
theorem dX4_init_13 : decode cX4_init 13 = .ok (.aload_n 0, 1) := by decide +kernel
theorem dX4_init_14 : decode cX4_init 14 = .ok (.sipush 500, 3) := by decide +kernel
theorem dX4_init_17 : decode cX4_init 17 = .ok (.newarray .int, 2) := by decide +kernel
theorem dX4_init_19 : decode cX4_init 19 = .ok (.putfield 13, 3) := by decide +kernel
theorem dX4_init_22 : decode cX4_init 22 = .ok (.aload_n 0, 1) := by decide +kernel
theorem dX4_init_23 : decode cX4_init 23 = .ok (.sipush 150, 3) := by decide +kernel
theorem dX4_init_26 : decode cX4_init 26 = .ok (.newarray .int, 2) := by decide +kernel
theorem dX4_init_28 : decode cX4_init 28 = .ok (.putfield 16, 3) := by decide +kernel
theorem dX4_init_31 : decode cX4_init 31 = .ok (.aload_n 0, 1) := by decide +kernel
theorem dX4_init_32 : decode cX4_init 32 = .ok (.sipush 150, 3) := by decide +kernel
theorem dX4_init_35 : decode cX4_init 35 = .ok (.newarray .int, 2) := by decide +kernel
theorem dX4_init_37 : decode cX4_init 37 = .ok (.putfield 19, 3) := by decide +kernel
theorem dX4_init_40 : decode cX4_init 40 = .ok (.aload_n 0, 1) := by decide +kernel
theorem dX4_init_41 : decode cX4_init 41 = .ok (.sipush 150, 3) := by decide +kernel
theorem dX4_init_44 : decode cX4_init 44 = .ok (.newarray .int, 2) := by decide +kernel
theorem dX4_init_46 : decode cX4_init 46 = .ok (.putfield 22, 3) := by decide +kernel
theorem dX4_init_49 : decode cX4_init 49 = .ok (.aload_n 0, 1) := by decide +kernel
theorem dX4_init_50 : decode cX4_init 50 = .ok (.sipush 150, 3) := by decide +kernel
theorem dX4_init_53 : decode cX4_init 53 = .ok (.newarray .int, 2) := by decide +kernel
theorem dX4_init_55 : decode cX4_init 55 = .ok (.putfield 25, 3) := by decide +kernel
theorem dX4_init_58 : decode cX4_init 58 = .ok (.aload_n 0, 1) := by decide +kernel
theorem dX4_init_59 : decode cX4_init 59 = .ok (.bipush 20, 2) := by decide +kernel
theorem dX4_init_61 : decode cX4_init 61 = .ok (.newarray .int, 2) := by decide +kernel
theorem dX4_init_63 : decode cX4_init 63 = .ok (.putfield 28, 3) := by decide +kernel
theorem dX4_init_66 : decode cX4_init 66 = .ok (.aload_n 0, 1) := by decide +kernel
theorem dX4_init_67 : decode cX4_init 67 = .ok (.bipush 20, 2) := by decide +kernel
theorem dX4_init_69 : decode cX4_init 69 = .ok (.newarray .int, 2) := by decide +kernel
theorem dX4_init_71 : decode cX4_init 71 = .ok (.putfield 31, 3) := by decide +kernel
theorem dX4_init_74 : decode cX4_init 74 = .ok (.aload_n 0, 1) := by decide +kernel
theorem dX4_init_75 : decode cX4_init 75 = .ok (.bipush 8, 2) := by decide +kernel
theorem dX4_init_77 : decode cX4_init 77 = .ok (.newarray .int, 2) := by decide +kernel
theorem dX4_init_79 : decode cX4_init 79 = .ok (.putfield 34, 3) := by decide +kernel
theorem dX4_init_82 : decode cX4_init 82 = .ok (.aload_n 0, 1) := by decide +kernel
theorem dX4_init_83 : decode cX4_init 83 = .ok (.bipush 8, 2) := by decide +kernel
theorem dX4_init_85 : decode cX4_init 85 = .ok (.newarray .int, 2) := by decide +kernel
theorem dX4_init_87 : decode cX4_init 87 = .ok (.putfield 37, 3) := by decide +kernel
theorem dX4_init_90 : decode cX4_init 90 = .ok (.aload_n 0, 1) := by decide +kernel
theorem dX4_init_91 : decode cX4_init 91 = .ok (.iconst (-1), 1) := by decide +kernel
theorem dX4_init_92 : decode cX4_init 92 = .ok (.putfield 40, 3) := by decide +kernel
theorem dX4_init_95 : decode cX4_init 95 = .ok (.return_, 1) := by decide +kernel
theorem dX4_piece_0 : decode cX4_piece 0 = .ok (.iload_n 1, 1) := by decide +kernel
theorem dX4_piece_1 : decode cX4_piece 1 = .ok (.ifCond .lt 11, 3) := by decide +kernel
theorem dX4_piece_4 : decode cX4_piece 4 = .ok (.iload_n 1, 1) := by decide +kernel
theorem dX4_piece_5 : decode cX4_piece 5 = .ok (.aload_n 0, 1) := by decide +kernel
theorem dX4_piece_6 : decode cX4_piece 6 = .ok (.getfield 66, 3) := by decide +kernel
theorem dX4_piece_9 : decode cX4_piece 9 = .ok (.if_icmp .lt 5, 3) := by decide +kernel
theorem dX4_piece_12 : decode cX4_piece 12 = .ok (.iconst (-1), 1) := by decide +kernel
theorem dX4_piece_13 : decode cX4_piece 13 = .ok (.ireturn, 1) := by decide +kernel
theorem dX4_piece_14 : decode cX4_piece 14 = .ok (.iload_n 2, 1) := by decide +kernel
theorem dX4_piece_15 : decode cX4_piece 15 = .ok (.tableswitch 57 0 3 #[29, 36, 43, 50], 29) := by decide +kernel
theorem dX4_piece_44 : decode cX4_piece 44 = .ok (.aload_n 0, 1) := by decide +kernel
theorem dX4_piece_45 : decode cX4_piece 45 = .ok (.getfield 16, 3) := by decide +kernel
theorem dX4_piece_48 : decode cX4_piece 48 = .ok (.iload_n 1, 1) := by decide +kernel
theorem dX4_piece_49 : decode cX4_piece 49 = .ok (.iaload, 1) := by decide +kernel
theorem dX4_piece_50 : decode cX4_piece 50 = .ok (.ireturn, 1) := by decide +kernel
theorem dX4_piece_51 : decode cX4_piece 51 = .ok (.aload_n 0, 1) := by decide +kernel
theorem dX4_piece_52 : decode cX4_piece 52 = .ok (.getfield 19, 3) := by decide +kernel
theorem dX4_piece_55 : decode cX4_piece 55 = .ok (.iload_n 1, 1) := by decide +kernel
theorem dX4_piece_56 : decode cX4_piece 56 = .ok (.iaload, 1) := by decide +kernel
theorem dX4_piece_57 : decode cX4_piece 57 = .ok (.ireturn, 1) := by decide +kernel
theorem dX4_piece_58 : decode cX4_piece 58 = .ok (.aload_n 0, 1) := by decide +kernel
theorem dX4_piece_59 : decode cX4_piece 59 = .ok (.getfield 22, 3) := by decide +kernel
theorem dX4_piece_62 : decode cX4_piece 62 = .ok (.iload_n 1, 1) := by decide +kernel
theorem dX4_piece_63 : decode cX4_piece 63 = .ok (.iaload, 1) := by decide +kernel
theorem dX4_piece_64 : decode cX4_piece 64 = .ok (.ireturn, 1) := by decide +kernel
theorem dX4_piece_65 : decode cX4_piece 65 = .ok (.aload_n 0, 1) := by decide +kernel
theorem dX4_piece_66 : decode cX4_piece 66 = .ok (.getfield 25, 3) := by decide +kernel
theorem dX4_piece_69 : decode cX4_piece 69 = .ok (.iload_n 1, 1) := by decide +kernel
theorem dX4_piece_70 : decode cX4_piece 70 = .ok (.iaload, 1) := by decide +kernel
theorem dX4_piece_71 : decode cX4_piece 71 = .ok (.ireturn, 1) := by decide +kernel
theorem dX4_piece_72 : decode cX4_piece 72 = .ok (.iconst (-1), 1) := by decide +kernel
theorem dX4_piece_73 : decode cX4_piece 73 = .ok (.ireturn, 1) := by decide +kernel
theorem dX4_place_0 : decode cX4_place 0 = .ok (.aload_n 0, 1) := by decide +kernel
theorem dX4_place_1 : decode cX4_place 1 = .ok (.getfield 40, 3) := by decide +kernel
theorem dX4_place_4 : decode cX4_place 4 = .ok (.ireturn, 1) := by decide +kernel
theorem dX4_put_0 : decode cX4_put 0 = .ok (.iload_n 3, 1) := by decide +kernel
theorem dX4_put_1 : decode cX4_put 1 = .ok (.iconst 1, 1) := by decide +kernel
theorem dX4_put_2 : decode cX4_put 2 = .ok (.if_icmp .lt 21, 3) := by decide +kernel
theorem dX4_put_5 : decode cX4_put 5 = .ok (.iload_n 3, 1) := by decide +kernel
theorem dX4_put_6 : decode cX4_put 6 = .ok (.bipush 8, 2) := by decide +kernel
theorem dX4_put_8 : decode cX4_put 8 = .ok (.if_icmp .gt 15, 3) := by decide +kernel
theorem dX4_put_11 : decode cX4_put 11 = .ok (.aload_n 0, 1) := by decide +kernel
theorem dX4_put_12 : decode cX4_put 12 = .ok (.getfield 44, 3) := by decide +kernel
theorem dX4_put_15 : decode cX4_put 15 = .ok (.iload_n 3, 1) := by decide +kernel
theorem dX4_put_16 : decode cX4_put 16 = .ok (.iadd, 1) := by decide +kernel
theorem dX4_put_17 : decode cX4_put 17 = .ok (.sipush 500, 3) := by decide +kernel
theorem dX4_put_20 : decode cX4_put 20 = .ok (.if_icmp .le 5, 3) := by decide +kernel
theorem dX4_put_23 : decode cX4_put 23 = .ok (.iconst 0, 1) := by decide +kernel
theorem dX4_put_24 : decode cX4_put 24 = .ok (.ireturn, 1) := by decide +kernel
theorem dX4_put_25 : decode cX4_put 25 = .ok (.iconst 0, 1) := by decide +kernel
theorem dX4_put_26 : decode cX4_put 26 = .ok (.istore 4, 2) := by decide +kernel
theorem dX4_put_28 : decode cX4_put 28 = .ok (.iload 4, 2) := by decide +kernel
theorem dX4_put_30 : decode cX4_put 30 = .ok (.iload_n 3, 1) := by decide +kernel
theorem dX4_put_31 : decode cX4_put 31 = .ok (.if_icmp .ge 37, 3) := by decide +kernel
theorem dX4_put_34 : decode cX4_put 34 = .ok (.aload_n 0, 1) := by decide +kernel
theorem dX4_put_35 : decode cX4_put 35 = .ok (.getfield 7, 3) := by decide +kernel
theorem dX4_put_38 : decode cX4_put 38 = .ok (.aload_n 0, 1) := by decide +kernel
theorem dX4_put_39 : decode cX4_put 39 = .ok (.getfield 44, 3) := by decide +kernel
theorem dX4_put_42 : decode cX4_put 42 = .ok (.iload 4, 2) := by decide +kernel
theorem dX4_put_44 : decode cX4_put 44 = .ok (.iadd, 1) := by decide +kernel
theorem dX4_put_45 : decode cX4_put 45 = .ok (.lload_n 1, 1) := by decide +kernel
theorem dX4_put_46 : decode cX4_put 46 = .ok (.bipush 8, 2) := by decide +kernel
theorem dX4_put_48 : decode cX4_put 48 = .ok (.iload_n 3, 1) := by decide +kernel
theorem dX4_put_49 : decode cX4_put 49 = .ok (.iconst 1, 1) := by decide +kernel
theorem dX4_put_50 : decode cX4_put 50 = .ok (.isub, 1) := by decide +kernel
theorem dX4_put_51 : decode cX4_put 51 = .ok (.iload 4, 2) := by decide +kernel
theorem dX4_put_53 : decode cX4_put 53 = .ok (.isub, 1) := by decide +kernel
theorem dX4_put_54 : decode cX4_put 54 = .ok (.imul, 1) := by decide +kernel
theorem dX4_put_55 : decode cX4_put 55 = .ok (.lshr, 1) := by decide +kernel
theorem dX4_put_56 : decode cX4_put 56 = .ok (.ldc2_w 47, 3) := by decide +kernel
theorem dX4_put_59 : decode cX4_put 59 = .ok (.land, 1) := by decide +kernel
theorem dX4_put_60 : decode cX4_put 60 = .ok (.l2i, 1) := by decide +kernel
theorem dX4_put_61 : decode cX4_put 61 = .ok (.iastore, 1) := by decide +kernel
theorem dX4_put_62 : decode cX4_put 62 = .ok (.iinc 4 1, 3) := by decide +kernel
theorem dX4_put_65 : decode cX4_put 65 = .ok (.goto (-37), 3) := by decide +kernel
theorem dX4_put_68 : decode cX4_put 68 = .ok (.aload_n 0, 1) := by decide +kernel
theorem dX4_put_69 : decode cX4_put 69 = .ok (.aload_n 0, 1) := by decide +kernel
theorem dX4_put_70 : decode cX4_put 70 = .ok (.getfield 44, 3) := by decide +kernel
theorem dX4_put_73 : decode cX4_put 73 = .ok (.iload_n 3, 1) := by decide +kernel
theorem dX4_put_74 : decode cX4_put 74 = .ok (.iadd, 1) := by decide +kernel
theorem dX4_put_75 : decode cX4_put 75 = .ok (.putfield 44, 3) := by decide +kernel
theorem dX4_put_78 : decode cX4_put 78 = .ok (.iconst 1, 1) := by decide +kernel
theorem dX4_put_79 : decode cX4_put 79 = .ok (.ireturn, 1) := by decide +kernel
theorem dX4_read_0 : decode cX4_read 0 = .ok (.iconst 0, 1) := by decide +kernel
theorem dX4_read_1 : decode cX4_read 1 = .ok (.istore_n 1, 1) := by decide +kernel
theorem dX4_read_2 : decode cX4_read 2 = .ok (.iload_n 1, 1) := by decide +kernel
theorem dX4_read_3 : decode cX4_read 3 = .ok (.aload_n 0, 1) := by decide +kernel
theorem dX4_read_4 : decode cX4_read 4 = .ok (.getfield 44, 3) := by decide +kernel
theorem dX4_read_7 : decode cX4_read 7 = .ok (.if_icmp .ge 21, 3) := by decide +kernel
theorem dX4_read_10 : decode cX4_read 10 = .ok (.aload_n 0, 1) := by decide +kernel
theorem dX4_read_11 : decode cX4_read 11 = .ok (.getfield 13, 3) := by decide +kernel
theorem dX4_read_14 : decode cX4_read 14 = .ok (.iload_n 1, 1) := by decide +kernel
theorem dX4_read_15 : decode cX4_read 15 = .ok (.aload_n 0, 1) := by decide +kernel
theorem dX4_read_16 : decode cX4_read 16 = .ok (.getfield 7, 3) := by decide +kernel
theorem dX4_read_19 : decode cX4_read 19 = .ok (.iload_n 1, 1) := by decide +kernel
theorem dX4_read_20 : decode cX4_read 20 = .ok (.iaload, 1) := by decide +kernel
theorem dX4_read_21 : decode cX4_read 21 = .ok (.iastore, 1) := by decide +kernel
theorem dX4_read_22 : decode cX4_read 22 = .ok (.iinc 1 1, 3) := by decide +kernel
theorem dX4_read_25 : decode cX4_read 25 = .ok (.goto (-23), 3) := by decide +kernel
theorem dX4_read_28 : decode cX4_read 28 = .ok (.aload_n 0, 1) := by decide +kernel
theorem dX4_read_29 : decode cX4_read 29 = .ok (.aload_n 0, 1) := by decide +kernel
theorem dX4_read_30 : decode cX4_read 30 = .ok (.getfield 44, 3) := by decide +kernel
theorem dX4_read_33 : decode cX4_read 33 = .ok (.putfield 234, 3) := by decide +kernel
theorem dX4_read_36 : decode cX4_read 36 = .ok (.aload_n 0, 1) := by decide +kernel
theorem dX4_read_37 : decode cX4_read 37 = .ok (.iconst 0, 1) := by decide +kernel
theorem dX4_read_38 : decode cX4_read 38 = .ok (.putfield 44, 3) := by decide +kernel
theorem dX4_read_41 : decode cX4_read 41 = .ok (.aload_n 0, 1) := by decide +kernel
theorem dX4_read_42 : decode cX4_read 42 = .ok (.iconst 0, 1) := by decide +kernel
theorem dX4_read_43 : decode cX4_read 43 = .ok (.putfield 66, 3) := by decide +kernel
theorem dX4_read_46 : decode cX4_read 46 = .ok (.aload_n 0, 1) := by decide +kernel
theorem dX4_read_47 : decode cX4_read 47 = .ok (.iconst 0, 1) := by decide +kernel
theorem dX4_read_48 : decode cX4_read 48 = .ok (.putfield 72, 3) := by decide +kernel
theorem dX4_read_51 : decode cX4_read 51 = .ok (.aload_n 0, 1) := by decide +kernel
theorem dX4_read_52 : decode cX4_read 52 = .ok (.iconst 0, 1) := by decide +kernel
theorem dX4_read_53 : decode cX4_read 53 = .ok (.putfield 121, 3) := by decide +kernel
theorem dX4_read_56 : decode cX4_read 56 = .ok (.aload_n 0, 1) := by decide +kernel
theorem dX4_read_57 : decode cX4_read 57 = .ok (.iconst 0, 1) := by decide +kernel
theorem dX4_read_58 : decode cX4_read 58 = .ok (.putfield 118, 3) := by decide +kernel
theorem dX4_read_61 : decode cX4_read 61 = .ok (.aload_n 0, 1) := by decide +kernel
theorem dX4_read_62 : decode cX4_read 62 = .ok (.iconst 0, 1) := by decide +kernel
theorem dX4_read_63 : decode cX4_read 63 = .ok (.putfield 102, 3) := by decide +kernel
theorem dX4_read_66 : decode cX4_read 66 = .ok (.aload_n 0, 1) := by decide +kernel
theorem dX4_read_67 : decode cX4_read 67 = .ok (.iconst 0, 1) := by decide +kernel
theorem dX4_read_68 : decode cX4_read 68 = .ok (.putfield 133, 3) := by decide +kernel
theorem dX4_read_71 : decode cX4_read 71 = .ok (.aload_n 0, 1) := by decide +kernel
theorem dX4_read_72 : decode cX4_read 72 = .ok (.iconst (-1), 1) := by decide +kernel
theorem dX4_read_73 : decode cX4_read 73 = .ok (.putfield 40, 3) := by decide +kernel
theorem dX4_read_76 : decode cX4_read 76 = .ok (.aload_n 0, 1) := by decide +kernel
theorem dX4_read_77 : decode cX4_read 77 = .ok (.iconst 0, 1) := by decide +kernel
theorem dX4_read_78 : decode cX4_read 78 = .ok (.putfield 79, 3) := by decide +kernel
theorem dX4_read_81 : decode cX4_read 81 = .ok (.aload_n 0, 1) := by decide +kernel
theorem dX4_read_82 : decode cX4_read 82 = .ok (.iconst 0, 1) := by decide +kernel
theorem dX4_read_83 : decode cX4_read 83 = .ok (.putfield 56, 3) := by decide +kernel
theorem dX4_read_86 : decode cX4_read 86 = .ok (.aload_n 0, 1) := by decide +kernel
theorem dX4_read_87 : decode cX4_read 87 = .ok (.iconst 0, 1) := by decide +kernel
theorem dX4_read_88 : decode cX4_read 88 = .ok (.putfield 59, 3) := by decide +kernel
theorem dX4_read_91 : decode cX4_read 91 = .ok (.aload_n 0, 1) := by decide +kernel
theorem dX4_read_92 : decode cX4_read 92 = .ok (.iconst 0, 1) := by decide +kernel
theorem dX4_read_93 : decode cX4_read 93 = .ok (.putfield 130, 3) := by decide +kernel
theorem dX4_read_96 : decode cX4_read 96 = .ok (.aload_n 0, 1) := by decide +kernel
theorem dX4_read_97 : decode cX4_read 97 = .ok (.iconst (-1), 1) := by decide +kernel
theorem dX4_read_98 : decode cX4_read 98 = .ok (.putfield 149, 3) := by decide +kernel
theorem dX4_read_101 : decode cX4_read 101 = .ok (.aload_n 0, 1) := by decide +kernel
theorem dX4_read_102 : decode cX4_read 102 = .ok (.iconst 0, 1) := by decide +kernel
theorem dX4_read_103 : decode cX4_read 103 = .ok (.putfield 152, 3) := by decide +kernel
theorem dX4_read_106 : decode cX4_read 106 = .ok (.iconst 0, 1) := by decide +kernel
theorem dX4_read_107 : decode cX4_read 107 = .ok (.istore_n 1, 1) := by decide +kernel
theorem dX4_read_108 : decode cX4_read 108 = .ok (.aload_n 0, 1) := by decide +kernel
theorem dX4_read_109 : decode cX4_read 109 = .ok (.getfield 59, 3) := by decide +kernel
theorem dX4_read_112 : decode cX4_read 112 = .ok (.aload_n 0, 1) := by decide +kernel
theorem dX4_read_113 : decode cX4_read 113 = .ok (.getfield 234, 3) := by decide +kernel
theorem dX4_read_116 : decode cX4_read 116 = .ok (.if_icmp .ge 45, 3) := by decide +kernel
theorem dX4_read_119 : decode cX4_read 119 = .ok (.iload_n 1, 1) := by decide +kernel
theorem dX4_read_120 : decode cX4_read 120 = .ok (.ifCond .ne 41, 3) := by decide +kernel
theorem dX4_read_123 : decode cX4_read 123 = .ok (.aload_n 0, 1) := by decide +kernel
theorem dX4_read_124 : decode cX4_read 124 = .ok (.aload_n 0, 1) := by decide +kernel
theorem dX4_read_125 : decode cX4_read 125 = .ok (.getfield 13, 3) := by decide +kernel
theorem dX4_read_128 : decode cX4_read 128 = .ok (.aload_n 0, 1) := by decide +kernel
theorem dX4_read_129 : decode cX4_read 129 = .ok (.getfield 59, 3) := by decide +kernel
theorem dX4_read_132 : decode cX4_read 132 = .ok (.iaload, 1) := by decide +kernel
theorem dX4_read_133 : decode cX4_read 133 = .ok (.invokevirtual 237, 3) := by decide +kernel
theorem dX4_read_136 : decode cX4_read 136 = .ok (.istore_n 1, 1) := by decide +kernel
theorem dX4_read_137 : decode cX4_read 137 = .ok (.aload_n 0, 1) := by decide +kernel
theorem dX4_read_138 : decode cX4_read 138 = .ok (.iload_n 1, 1) := by decide +kernel
theorem dX4_read_139 : decode cX4_read 139 = .ok (.ifCond .ne 12, 3) := by decide +kernel
theorem dX4_read_142 : decode cX4_read 142 = .ok (.aload_n 0, 1) := by decide +kernel
theorem dX4_read_143 : decode cX4_read 143 = .ok (.getfield 59, 3) := by decide +kernel
theorem dX4_read_146 : decode cX4_read 146 = .ok (.iconst 1, 1) := by decide +kernel
theorem dX4_read_147 : decode cX4_read 147 = .ok (.iadd, 1) := by decide +kernel
theorem dX4_read_148 : decode cX4_read 148 = .ok (.goto 7, 3) := by decide +kernel
theorem dX4_read_151 : decode cX4_read 151 = .ok (.aload_n 0, 1) := by decide +kernel
theorem dX4_read_152 : decode cX4_read 152 = .ok (.getfield 59, 3) := by decide +kernel
theorem dX4_read_155 : decode cX4_read 155 = .ok (.putfield 59, 3) := by decide +kernel
theorem dX4_read_158 : decode cX4_read 158 = .ok (.goto (-50), 3) := by decide +kernel
theorem dX4_read_161 : decode cX4_read 161 = .ok (.iload_n 1, 1) := by decide +kernel
theorem dX4_read_162 : decode cX4_read 162 = .ok (.ifCond .ne 45, 3) := by decide +kernel
theorem dX4_read_165 : decode cX4_read 165 = .ok (.aload_n 0, 1) := by decide +kernel
theorem dX4_read_166 : decode cX4_read 166 = .ok (.getfield 56, 3) := by decide +kernel
theorem dX4_read_169 : decode cX4_read 169 = .ok (.bipush 11, 2) := by decide +kernel
theorem dX4_read_171 : decode cX4_read 171 = .ok (.if_icmp .eq 30, 3) := by decide +kernel
theorem dX4_read_174 : decode cX4_read 174 = .ok (.aload_n 0, 1) := by decide +kernel
theorem dX4_read_175 : decode cX4_read 175 = .ok (.getfield 56, 3) := by decide +kernel
theorem dX4_read_178 : decode cX4_read 178 = .ok (.bipush 21, 2) := by decide +kernel
theorem dX4_read_180 : decode cX4_read 180 = .ok (.if_icmp .eq 21, 3) := by decide +kernel
theorem dX4_read_183 : decode cX4_read 183 = .ok (.aload_n 0, 1) := by decide +kernel
theorem dX4_read_184 : decode cX4_read 184 = .ok (.getfield 56, 3) := by decide +kernel
theorem dX4_read_187 : decode cX4_read 187 = .ok (.bipush 30, 2) := by decide +kernel
theorem dX4_read_189 : decode cX4_read 189 = .ok (.if_icmp .eq 12, 3) := by decide +kernel
theorem dX4_read_192 : decode cX4_read 192 = .ok (.aload_n 0, 1) := by decide +kernel
theorem dX4_read_193 : decode cX4_read 193 = .ok (.getfield 56, 3) := by decide +kernel
theorem dX4_read_196 : decode cX4_read 196 = .ok (.bipush 33, 2) := by decide +kernel
theorem dX4_read_198 : decode cX4_read 198 = .ok (.if_icmp .ne 9, 3) := by decide +kernel
theorem dX4_read_201 : decode cX4_read 201 = .ok (.aload_n 0, 1) := by decide +kernel
theorem dX4_read_202 : decode cX4_read 202 = .ok (.iconst (-1), 1) := by decide +kernel
theorem dX4_read_203 : decode cX4_read 203 = .ok (.invokevirtual 237, 3) := by decide +kernel
theorem dX4_read_206 : decode cX4_read 206 = .ok (.istore_n 1, 1) := by decide +kernel
theorem dX4_read_207 : decode cX4_read 207 = .ok (.iload_n 1, 1) := by decide +kernel
theorem dX4_read_208 : decode cX4_read 208 = .ok (.ifCond .ne 23, 3) := by decide +kernel
theorem dX4_read_211 : decode cX4_read 211 = .ok (.aload_n 0, 1) := by decide +kernel
theorem dX4_read_212 : decode cX4_read 212 = .ok (.getfield 79, 3) := by decide +kernel
theorem dX4_read_215 : decode cX4_read 215 = .ok (.iconst 2, 1) := by decide +kernel
theorem dX4_read_216 : decode cX4_read 216 = .ok (.if_icmp .ne 10, 3) := by decide +kernel
theorem dX4_read_219 : decode cX4_read 219 = .ok (.aload_n 0, 1) := by decide +kernel
theorem dX4_read_220 : decode cX4_read 220 = .ok (.getfield 56, 3) := by decide +kernel
theorem dX4_read_223 : decode cX4_read 223 = .ok (.ifCond .eq 8, 3) := by decide +kernel
theorem dX4_read_226 : decode cX4_read 226 = .ok (.aload_n 0, 1) := by decide +kernel
theorem dX4_read_227 : decode cX4_read 227 = .ok (.invokevirtual 92, 3) := by decide +kernel
theorem dX4_read_230 : decode cX4_read 230 = .ok (.istore_n 1, 1) := by decide +kernel
theorem dX4_read_231 : decode cX4_read 231 = .ok (.iload_n 1, 1) := by decide +kernel
theorem dX4_read_232 : decode cX4_read 232 = .ok (.ifCond .ne 10, 3) := by decide +kernel
theorem dX4_read_235 : decode cX4_read 235 = .ok (.aload_n 0, 1) := by decide +kernel
theorem dX4_read_236 : decode cX4_read 236 = .ok (.getfield 66, 3) := by decide +kernel
theorem dX4_read_239 : decode cX4_read 239 = .ok (.goto 9, 3) := by decide +kernel
theorem dX4_read_242 : decode cX4_read 242 = .ok (.iconst (-1), 1) := by decide +kernel
theorem dX4_read_243 : decode cX4_read 243 = .ok (.aload_n 0, 1) := by decide +kernel
theorem dX4_read_244 : decode cX4_read 244 = .ok (.getfield 53, 3) := by decide +kernel
theorem dX4_read_247 : decode cX4_read 247 = .ok (.isub, 1) := by decide +kernel
theorem dX4_read_248 : decode cX4_read 248 = .ok (.ireturn, 1) := by decide +kernel
theorem dX4_wrong_0 : decode cX4_wrong 0 = .ok (.aload_n 0, 1) := by decide +kernel
theorem dX4_wrong_1 : decode cX4_wrong 1 = .ok (.iconst 2, 1) := by decide +kernel
theorem dX4_wrong_2 : decode cX4_wrong 2 = .ok (.aload_n 0, 1) := by decide +kernel
theorem dX4_wrong_3 : decode cX4_wrong 3 = .ok (.getfield 59, 3) := by decide +kernel
theorem dX4_wrong_6 : decode cX4_wrong 6 = .ok (.invokevirtual 62, 3) := by decide +kernel
theorem dX4_wrong_9 : decode cX4_wrong 9 = .ok (.ireturn, 1) := by decide +kernel
end
section
/-! numbers and rows -/
def byteAt (g : Nat → Int32) (ln i : Int32) : Int32 := if ¬ i < 0 ∧ ¬ ln ≤ i ∧ ¬ nI 500 ≤ i then g i.toNatClampNeg else -1
theorem byteAt_in {g : Nat → Int32} {ln i : Int32} (h1 : ¬ i < 0) (h2 : ¬ ln ≤ i) (h3 : ¬ nI 500 ≤ i) : byteAt g ln i = g i.toNatClampNeg := if_pos ⟨h1, h2, h3⟩
theorem byteAt_a {g : Nat → Int32} {ln i : Int32} (h : i < 0) : byteAt g ln i = -1 := if_neg (fun q => q.1 h)
theorem byteAt_b {g : Nat → Int32} {ln i : Int32} (h : ln ≤ i) : byteAt g ln i = -1 := if_neg (fun q => q.2.1 h)
theorem byteAt_c {g : Nat → Int32} {ln i : Int32} (h : nI 500 ≤ i) : byteAt g ln i = -1 := if_neg (fun q => q.2.2 h)
theorem nlt150 {i : Int32} (h : i < 150) : ¬ nI 150 ≤ i := fun q => absurd h (Int32.not_lt.mpr q)
theorem pin {i n : Int32} (h0 : ¬ i < 0) (h1 : i < n) (hn : n ≤ 150) : vp_in i 150 := vin_of h0 (nlt150 (Int32.lt_of_lt_of_le h1 hn)) (by decide)
theorem bin {i n : Int32} (h1 : ¬ n ≤ i) (hn : n ≤ 500) : ¬ nI 500 ≤ i := fun q => h1 (Int32.le_trans hn q)
/-- byte i of v, the lowest is 0 -/
def byt (v : Int64) (i : Nat) : Int32 := (v.toUInt64 >>> ((nI (8 * i)).toInt64.toUInt64 &&& Int64.toUInt64 63)).toInt64.toInt32 &&& 255
/-- i bytes more, from place k on -/
def putF (v : Int64) : Nat → Nat → (Nat → Int32) → (Nat → Int32)
  | 0, _, f => f
  | i + 1, k, f => putF v i (k + 1) (upd f k (byt v i))
theorem byt_eq (v : Int64) (i : Nat) : (v.toUInt64 >>> ((8 * nI i).toInt64.toUInt64 &&& Int64.toUInt64 63)).toInt64.toInt32 &&& 255 = byt v i := by
  rw [byt, show (8 : Int32) = nI 8 from rfl, pk_mul]
theorem put_c20 {k0 j0 : Nat} {p2 x : Int32} (ep2 : p2 = nI (j0 + 1)) (hj : j0 < 8) (hk : k0 + j0 + 1 ≤ 500) (ex : x = 500 - p2) : nI k0 ≤ x := by
  rw [ex, ep2, show (500 : Int32) = nI 500 from rfl, pk_sub (by omega)]
  exact nI_le (by omega) (by omega)
theorem put_m20 {k0 j0 : Nat} {p2 x : Int32} (ep2 : p2 = nI (j0 + 1)) (hj : j0 < 8) (hk : k0 + j0 + 1 ≤ 500) (ex : x = nI k0 + p2) : x ≤ 500 := by
  rw [ex, ep2, nI_add, show (500 : Int32) = nI 500 from rfl]
  exact nI_le (by omega) (by omega)
theorem put_j {p2 : Int32} (h1 : ¬ p2 < 1) (h8 : ¬ 8 < p2) : ∃ j : Nat, j < 8 ∧ p2 = nI (j + 1) := by
  have a := Int32.le_iff_toInt_le.mp (Int32.not_lt.mp h1)
  have b := Int32.le_iff_toInt_le.mp (Int32.not_lt.mp h8)
  have e1 : (1 : Int32).toInt = 1 := by decide
  have e8 : (8 : Int32).toInt = 8 := by decide
  rw [e1] at a
  rw [e8] at b
  refine ⟨p2.toInt.toNat - 1, by omega, Int32.toInt_inj.mp ?_⟩
  rw [nI_toInt (by omega)]
  omega
theorem put_no {k0 : Nat} {p2 x : Int32} (h1 : ¬ p2 < 1) (h8 : ¬ 8 < p2) (ex : x = 500 - p2) (c : nI k0 ≤ x) (hno : ∀ j : Nat, j < 8 → p2 = nI (j + 1) → 500 < k0 + j + 1) (hk0 : k0 ≤ 500) : False := by
  obtain ⟨j, hj, ej⟩ := put_j h1 h8
  have h := hno j hj ej
  rw [ex, ej, show (500 : Int32) = nI 500 from rfl, pk_sub (by omega)] at c
  exact absurd c (nI_ge (by omega) (by omega))
theorem put_nom {k0 : Nat} {p2 x : Int32} (h1 : ¬ p2 < 1) (h8 : ¬ 8 < p2) (ex : x = nI k0 + p2) (c : x ≤ 500) (hno : ∀ j : Nat, j < 8 → p2 = nI (j + 1) → 500 < k0 + j + 1) (hk0 : k0 ≤ 500) : False := by
  obtain ⟨j, hj, ej⟩ := put_j h1 h8
  have h := hno j hj ej
  rw [ex, ej, nI_add, show (500 : Int32) = nI 500 from rfl] at c
  exact absurd c (nI_ge (by omega) (by omega))
theorem byteAt0 {g : Nat → Int32} {i : Int32} : byteAt g 0 i = -1 := by
  by_cases h : i < 0
  · exact byteAt_a h
  · exact byteAt_b (Int32.not_lt.mp h)
end
section
set_option maxHeartbeats 4000000 in
set_option maxRecDepth 100000 in
/-- Cursor(): a row of 500, no fault -/
theorem c_X0_init (l : Launch) (D : va_G) (cI : ClassId) (h0 : Nat) (sz : Nat)   : Met l yX0_init (.code yX0_init cX0_init 1 none :: tbW) ({ frames := 1, cells := 1, slots := 500, locals := 12 }) (va_Pc [.ref h0] (gP D cI [(h0, .inr (0, [.null, .int 0, .int 0, .int 0, .int 0]))] sz)) (va_Qv (fun (u : Nat) => True) (fun u => gB D cI (va_A [(h0, .inr (0, [.null, .int 0, .int 0, .int 0, .int 0]))] sz) [(h0, .inr (0, [.ref u, .int 0, .int 0, .int 0, .int (-1)])), (u, .inl (cI, 500, .inl (fun _ => 0)))]) (va_A [(h0, .inr (0, [.null, .int 0, .int 0, .int 0, .int 0]))] sz)) 1 500 (va_A [(h0, .inr (0, [.null, .int 0, .int 0, .int 0, .int 0]))] sz) := by
  refine Met.ofW (cc := cX0_init) (maxL := 1) (ret := none) (by decide) rfl ?_
  intro p e s m args below meth c s₁ B hml hv
  obtain ⟨rfl, hsz, hP, hK, hD0, hN⟩ := hv
  have hx := B.exec
  have hb := B.bytes
  have hr := B.returns
  have hts := tb_hts (atoms_spec (ws := .code yX0_init cX0_init 1 none :: tbW) B.pre)
  have hown : s.vm.findClass RX0 = some m.cls := findClass_of_methodNamed B.named
  have hlocks := B.notSynchronized
  have hin : meth.name = "<init>" := (name_of_methodNamed B.named B.method).1
  subst hsz
  have hD := hD0.self (sz := s.heap.size)
  generalize hAe : va_A [(h0, .inr (0, [.null, .int 0, .int 0, .int 0, .int 0]))] s.heap.size = A at hD ⊢
  have hA : ∀ q : Nat, s.heap.size ≤ q → A q := fun q h => by rw [← hAe]; exact Or.inr h
  have hS : va_S A s.heap s.heap [] := va_S.rf
  have hP : va_P D classes [(h0, .inr (0, [.null, .int 0, .int 0, .int 0, .int 0]))] s.heap := hP
  have hl := lv_entry ([.ref h0]) (n := 1) (Nat.le_of_ble_eq_true rfl)
  rw [lg_entry_eq]
  generalize (lg_sl ([.ref h0]) ++ List.replicate (1 - (lg_sl ([.ref h0])).length) Slot.unset).toArray = ls at hl ⊢
  have hl : lv_has ls 1 [(0, .ref h0)] := hl
  refine lv_aload_n hx hb dX0_init_0 rfl (lv_at hl 0 rfl) ?_
  refine W.objInit hx hb hown (hts (Cond.methodLink "NestedTags$Cursor" 3 objectInit) kk_1_24) (hts (Cond.instanceMethod objectInit) kk_1_17) (hts _ kk_obj) rfl (by rw [hml]; exact hl.1) rfl dX0_init_1 (Nat.le_of_ble_eq_true rfl) (Nat.le_of_ble_eq_true rfl) ?_
  refine W.eq (g2 := F0 m 4 ls []) rfl ?_
  refine lv_aload_n hx hb dX0_init_4 rfl (lv_at hl 0 rfl) ?_
  refine lv_sipush (v := 500) hx hb dX0_init_5 (by decide) ?_
  refine va_newa (atype := .int) (ty := .int) (a0 := (500, .inl (fun _ => 0))) hx hb (hts (Cond.arrayClass .int) kk_1_45) rfl hK hP hD hS hA (fun _ => by first | rfl | exact vp_cell_i) (by decide) (by decide) (by decide) (Nat.le_of_ble_eq_true rfl) (Nat.le_of_ble_eq_true rfl) dX0_init_8 (fun q_1 cA H hK2 hP hD hS => ?_)
  obtain rfl : cI = cA := cA_eq hK hK2
  have hP : va_P D classes [(h0, .inr (0, [.null, .int 0, .int 0, .int 0, .int 0])), (q_1, .inl (cI, 500, .inl (fun _ => 0)))] H := hP
  have hD : va_D A [(h0, .inr (0, [.null, .int 0, .int 0, .int 0, .int 0])), (q_1, .inl (cI, 500, .inl (fun _ => 0)))] := hD
  refine W.widen (k := 1) (n := 500) (by decide) (by decide) ?_
  refine va_put (D := D) (ci := 0) (v := .ref q_1) (ty := .array .int) (C := RX0) (T := TX0) (N := 5) hx hb hts inX0 tyX0 tyX0_ok nmX0 hown hK hP hD hS 0 rfl rfl 0 (by decide) (hts (Cond.fieldLink "NestedTags$Cursor" 9 "NestedTags$Cursor" "bytes" "[I") kk_1_25) (fun _ h9 => h9) rfl (by decide +kernel) rfl rfl (Nat.le_of_ble_eq_true rfl) dX0_init_10 (fun H locs hP hD hS => ?_)
  have hP : va_P D classes [(h0, .inr (0, [.ref q_1, .int 0, .int 0, .int 0, .int 0])), (q_1, .inl (cI, 500, .inl (fun _ => 0)))] H := hP
  have hD : va_D A [(h0, .inr (0, [.ref q_1, .int 0, .int 0, .int 0, .int 0])), (q_1, .inl (cI, 500, .inl (fun _ => 0)))] := hD
  refine lv_aload_n hx hb dX0_init_13 rfl (lv_at hl 0 rfl) ?_
  refine lv_iconst (v := 0) hx hb dX0_init_14 (by decide) ?_
  refine va_put (D := D) (ci := 0) (v := .int 0) (ty := .int) (C := RX0) (T := TX0) (N := 5) hx hb hts inX0 tyX0 tyX0_ok nmX0 hown hK hP hD hS 0 rfl rfl 3 (by decide) (hts (Cond.fieldLink "NestedTags$Cursor" 15 "NestedTags$Cursor" "fault" "I") kk_1_30) (fun _ h9 => h9) rfl (by decide +kernel) rfl rfl (Nat.le_of_ble_eq_true rfl) dX0_init_15 (fun H locs hP hD hS => ?_)
  have hP : va_P D classes [(h0, .inr (0, [.ref q_1, .int 0, .int 0, .int 0, .int 0])), (q_1, .inl (cI, 500, .inl (fun _ => 0)))] H := hP
  have hD : va_D A [(h0, .inr (0, [.ref q_1, .int 0, .int 0, .int 0, .int 0])), (q_1, .inl (cI, 500, .inl (fun _ => 0)))] := hD
  refine lv_aload_n hx hb dX0_init_18 rfl (lv_at hl 0 rfl) ?_
  refine lv_iconst (v := (-1)) hx hb dX0_init_19 (by decide) ?_
  refine va_put (D := D) (ci := 0) (v := .int (-1)) (ty := .int) (C := RX0) (T := TX0) (N := 5) hx hb hts inX0 tyX0 tyX0_ok nmX0 hown hK hP hD hS 0 rfl rfl 4 (by decide) (hts (Cond.fieldLink "NestedTags$Cursor" 19 "NestedTags$Cursor" "faultPlace" "I") kk_1_32) (fun _ h9 => h9) rfl (by decide +kernel) rfl rfl (Nat.le_of_ble_eq_true rfl) dX0_init_20 (fun H locs hP hD hS => ?_)
  have hP : va_P D classes [(h0, .inr (0, [.ref q_1, .int 0, .int 0, .int 0, .int (-1)])), (q_1, .inl (cI, 500, .inl (fun _ => 0)))] H := hP
  have hD : va_D A [(h0, .inr (0, [.ref q_1, .int 0, .int 0, .int 0, .int (-1)])), (q_1, .inl (cI, 500, .inl (fun _ => 0)))] := hD
  have hP9 := hP.sub (ws' := [(h0, .inr (0, [.ref q_1, .int 0, .int 0, .int 0, .int (-1)])), (q_1, .inl (cI, 500, .inl (fun _ => 0)))]) [0, 1] rfl
  have hD9 := hD.sub (ws' := [(h0, .inr (0, [.ref q_1, .int 0, .int 0, .int 0, .int (-1)])), (q_1, .inl (cI, 500, .inl (fun _ => 0)))]) [0, 1] (by decide) rfl
  refine W.widen (k := 1) (n := 500) (by decide) (by decide) ?_
  exact W.vret hx hb hr (fun t ht hW => ⟨⟨q_1, rfl, trivial, by rw [ht]; exact hP9, va_K.moved hW.alike hK, hD9⟩, hS.F ht⟩) hS.2.2 dX0_init_23

set_option maxHeartbeats 4000000 in
set_option maxRecDepth 100000 in
/-- begin: the rows change places -/
theorem c_X0_begin (l : Launch) (D : va_G) (cI : ClassId) (h0 : Nat) (b0 : Nat) (ln : Int32) (ca : Int32) (fa : Int32) (fp : Int32) (nx : Nat) (sz : Nat) (p1 : Int32)  : Met l yX0_begin (.code yX0_begin cX0_begin 4 (some (.array .int)) :: tbW) ({ frames := 0, cells := 0, slots := 0, locals := 0 }) (va_Pc [.ref h0, .ref nx, .int p1] (gP D cI [(h0, .inr (0, [.ref b0, .int ln, .int ca, .int fa, .int fp]))] sz)) (va_Qr (fun (u : Unit) => True) (fun u (ra : Nat) t => gB D cI (va_A [(h0, .inr (0, [.ref b0, .int ln, .int ca, .int fa, .int fp]))] sz) [(h0, .inr (0, [.ref nx, .int p1, .int 0, .int 0, .int (-1)]))] t ∧ ra = b0) (va_A [(h0, .inr (0, [.ref b0, .int ln, .int ca, .int fa, .int fp]))] sz)) 0 0 (va_A [(h0, .inr (0, [.ref b0, .int ln, .int ca, .int fa, .int fp]))] sz) := by
  refine Met.ofW (cc := cX0_begin) (maxL := 4) (ret := (some (.array .int))) (by decide) rfl ?_
  intro p e s m args below meth c s₁ B hml hv
  obtain ⟨rfl, hsz, hP, hK, hD0, hN⟩ := hv
  have hx := B.exec
  have hb := B.bytes
  have hr := B.returns
  have hts := tb_hts (atoms_spec (ws := .code yX0_begin cX0_begin 4 (some (.array .int)) :: tbW) B.pre)
  have hown : s.vm.findClass RX0 = some m.cls := findClass_of_methodNamed B.named
  have hlocks := B.notSynchronized
  subst hsz
  have hD := hD0.self (sz := s.heap.size)
  generalize hAe : va_A [(h0, .inr (0, [.ref b0, .int ln, .int ca, .int fa, .int fp]))] s.heap.size = A at hD ⊢
  have hA : ∀ q : Nat, s.heap.size ≤ q → A q := fun q h => by rw [← hAe]; exact Or.inr h
  have hS : va_S A s.heap s.heap [] := va_S.rf
  have hP : va_P D classes [(h0, .inr (0, [.ref b0, .int ln, .int ca, .int fa, .int fp]))] s.heap := hP
  have hl := lv_entry ([.ref h0, .ref nx, .int p1]) (n := 4) (Nat.le_of_ble_eq_true rfl)
  rw [lg_entry_eq]
  generalize (lg_sl ([.ref h0, .ref nx, .int p1]) ++ List.replicate (4 - (lg_sl ([.ref h0, .ref nx, .int p1])).length) Slot.unset).toArray = ls at hl ⊢
  have hl : lv_has ls 4 [(0, .ref h0), (1, .ref nx), (2, .int p1)] := hl
  refine lv_aload_n hx hb dX0_begin_0 rfl (lv_at hl 0 rfl) ?_
  refine va_get (D := D) (ci := 0) (v := .ref b0) (C := RX0) (T := TX0) (N := 5) hx hb hts inX0 hown hK hP 0 rfl rfl 0 (by decide) (hts (Cond.fieldLink "NestedTags$Cursor" 9 "NestedTags$Cursor" "bytes" "[I") kk_1_25) (fun _ h9 => h9) rfl dX0_begin_1 ?_
  refine lv_astore_n (lv' := [(3, .ref b0), (0, .ref h0), (1, .ref nx), (2, .int p1)]) hx hb dX0_begin_4 rfl hl (by decide) rfl (fun ls hl => ?_)
  refine lv_aload_n hx hb dX0_begin_5 rfl (lv_at hl 1 rfl) ?_
  refine lv_aload_n hx hb dX0_begin_6 rfl (lv_at hl 2 rfl) ?_
  refine va_put (D := D) (ci := 0) (v := .ref nx) (ty := .array .int) (C := RX0) (T := TX0) (N := 5) hx hb hts inX0 tyX0 tyX0_ok nmX0 hown hK hP hD hS 0 rfl rfl 0 (by decide) (hts (Cond.fieldLink "NestedTags$Cursor" 9 "NestedTags$Cursor" "bytes" "[I") kk_1_25) (fun _ h9 => h9) rfl (by decide +kernel) rfl rfl (Nat.le_of_ble_eq_true rfl) dX0_begin_7 (fun H locs hP hD hS => ?_)
  have hP : va_P D classes [(h0, .inr (0, [.ref nx, .int ln, .int ca, .int fa, .int fp]))] H := hP
  have hD : va_D A [(h0, .inr (0, [.ref nx, .int ln, .int ca, .int fa, .int fp]))] := hD
  refine lv_aload_n hx hb dX0_begin_10 rfl (lv_at hl 1 rfl) ?_
  refine lv_iload_n hx hb dX0_begin_11 rfl (lv_at hl 3 rfl) ?_
  refine va_put (D := D) (ci := 0) (v := .int p1) (ty := .int) (C := RX0) (T := TX0) (N := 5) hx hb hts inX0 tyX0 tyX0_ok nmX0 hown hK hP hD hS 0 rfl rfl 1 (by decide) (hts (Cond.fieldLink "NestedTags$Cursor" 22 "NestedTags$Cursor" "length" "I") kk_1_26) (fun _ h9 => h9) rfl (by decide +kernel) rfl rfl (Nat.le_of_ble_eq_true rfl) dX0_begin_12 (fun H locs hP hD hS => ?_)
  have hP : va_P D classes [(h0, .inr (0, [.ref nx, .int p1, .int ca, .int fa, .int fp]))] H := hP
  have hD : va_D A [(h0, .inr (0, [.ref nx, .int p1, .int ca, .int fa, .int fp]))] := hD
  refine lv_aload_n hx hb dX0_begin_15 rfl (lv_at hl 1 rfl) ?_
  refine lv_iconst (v := 0) hx hb dX0_begin_16 (by decide) ?_
  refine va_put (D := D) (ci := 0) (v := .int 0) (ty := .int) (C := RX0) (T := TX0) (N := 5) hx hb hts inX0 tyX0 tyX0_ok nmX0 hown hK hP hD hS 0 rfl rfl 2 (by decide) (hts (Cond.fieldLink "NestedTags$Cursor" 25 "NestedTags$Cursor" "at" "I") kk_1_28) (fun _ h9 => h9) rfl (by decide +kernel) rfl rfl (Nat.le_of_ble_eq_true rfl) dX0_begin_17 (fun H locs hP hD hS => ?_)
  have hP : va_P D classes [(h0, .inr (0, [.ref nx, .int p1, .int 0, .int fa, .int fp]))] H := hP
  have hD : va_D A [(h0, .inr (0, [.ref nx, .int p1, .int 0, .int fa, .int fp]))] := hD
  refine lv_aload_n hx hb dX0_begin_20 rfl (lv_at hl 1 rfl) ?_
  refine lv_iconst (v := 0) hx hb dX0_begin_21 (by decide) ?_
  refine va_put (D := D) (ci := 0) (v := .int 0) (ty := .int) (C := RX0) (T := TX0) (N := 5) hx hb hts inX0 tyX0 tyX0_ok nmX0 hown hK hP hD hS 0 rfl rfl 3 (by decide) (hts (Cond.fieldLink "NestedTags$Cursor" 15 "NestedTags$Cursor" "fault" "I") kk_1_30) (fun _ h9 => h9) rfl (by decide +kernel) rfl rfl (Nat.le_of_ble_eq_true rfl) dX0_begin_22 (fun H locs hP hD hS => ?_)
  have hP : va_P D classes [(h0, .inr (0, [.ref nx, .int p1, .int 0, .int 0, .int fp]))] H := hP
  have hD : va_D A [(h0, .inr (0, [.ref nx, .int p1, .int 0, .int 0, .int fp]))] := hD
  refine lv_aload_n hx hb dX0_begin_25 rfl (lv_at hl 1 rfl) ?_
  refine lv_iconst (v := (-1)) hx hb dX0_begin_26 (by decide) ?_
  refine va_put (D := D) (ci := 0) (v := .int (-1)) (ty := .int) (C := RX0) (T := TX0) (N := 5) hx hb hts inX0 tyX0 tyX0_ok nmX0 hown hK hP hD hS 0 rfl rfl 4 (by decide) (hts (Cond.fieldLink "NestedTags$Cursor" 19 "NestedTags$Cursor" "faultPlace" "I") kk_1_32) (fun _ h9 => h9) rfl (by decide +kernel) rfl rfl (Nat.le_of_ble_eq_true rfl) dX0_begin_27 (fun H locs hP hD hS => ?_)
  have hP : va_P D classes [(h0, .inr (0, [.ref nx, .int p1, .int 0, .int 0, .int (-1)]))] H := hP
  have hD : va_D A [(h0, .inr (0, [.ref nx, .int p1, .int 0, .int 0, .int (-1)]))] := hD
  refine lv_aload_n hx hb dX0_begin_30 rfl (lv_at hl 0 rfl) ?_
  have hP9 := hP.sub (ws' := [(h0, .inr (0, [.ref nx, .int p1, .int 0, .int 0, .int (-1)]))]) [0] rfl
  have hD9 := hD.sub (ws' := [(h0, .inr (0, [.ref nx, .int p1, .int 0, .int 0, .int (-1)]))]) [0] (by decide) rfl
  exact W.aret (v := .ref b0) hx hb hr (Or.inr ⟨_, rfl⟩) (Or.inr ⟨_, rfl⟩) (fun t ht hW => ⟨⟨(), b0, rfl, trivial, ⟨by rw [ht]; exact hP9, va_K.moved hW.alike hK, hD9⟩, rfl⟩, hS.F ht⟩) hS.2.2 dX0_begin_31

set_option maxHeartbeats 4000000 in
set_option maxRecDepth 100000 in
/-- X0_goesOn -/
theorem c_X0_goesOn (l : Launch) (D : va_G) (cI : ClassId) (h0 : Nat) (b0 : Nat) (ln : Int32) (ca : Int32) (fa : Int32) (fp : Int32) (sz : Nat)   : Met l yX0_goesOn (.code yX0_goesOn cX0_goesOn 1 (some .boolean) :: tbW) ({ frames := 0, cells := 0, slots := 0, locals := 0 }) (va_Pc [.ref h0] (gP D cI [(h0, .inr (0, [.ref b0, .int ln, .int ca, .int fa, .int fp]))] sz)) (va_Qi (fun (r : Int32) (u : Unit) => r = if fa = 0 ∧ ca < ln then 1 else 0) (fun u => gB D cI (va_A [(h0, .inr (0, [.ref b0, .int ln, .int ca, .int fa, .int fp]))] sz) [(h0, .inr (0, [.ref b0, .int ln, .int ca, .int fa, .int fp]))]) (va_A [(h0, .inr (0, [.ref b0, .int ln, .int ca, .int fa, .int fp]))] sz)) 0 0 (va_A [(h0, .inr (0, [.ref b0, .int ln, .int ca, .int fa, .int fp]))] sz) := by
  refine Met.ofW (cc := cX0_goesOn) (maxL := 1) (ret := (some .boolean)) (by decide) rfl ?_
  intro p e s m args below meth c s₁ B hml hv
  obtain ⟨rfl, hsz, hP, hK, hD0, hN⟩ := hv
  have hx := B.exec
  have hb := B.bytes
  have hr := B.returns
  have hts := tb_hts (atoms_spec (ws := .code yX0_goesOn cX0_goesOn 1 (some .boolean) :: tbW) B.pre)
  have hown : s.vm.findClass RX0 = some m.cls := findClass_of_methodNamed B.named
  have hlocks := B.notSynchronized
  subst hsz
  have hD := hD0.self (sz := s.heap.size)
  generalize hAe : va_A [(h0, .inr (0, [.ref b0, .int ln, .int ca, .int fa, .int fp]))] s.heap.size = A at hD ⊢
  have hA : ∀ q : Nat, s.heap.size ≤ q → A q := fun q h => by rw [← hAe]; exact Or.inr h
  have hS : va_S A s.heap s.heap [] := va_S.rf
  have hP : va_P D classes [(h0, .inr (0, [.ref b0, .int ln, .int ca, .int fa, .int fp]))] s.heap := hP
  have hl := lv_entry ([.ref h0]) (n := 1) (Nat.le_of_ble_eq_true rfl)
  rw [lg_entry_eq]
  generalize (lg_sl ([.ref h0]) ++ List.replicate (1 - (lg_sl ([.ref h0])).length) Slot.unset).toArray = ls at hl ⊢
  have hl : lv_has ls 1 [(0, .ref h0)] := hl
  refine lv_aload_n hx hb dX0_goesOn_0 rfl (lv_at hl 0 rfl) ?_
  refine va_get (D := D) (ci := 0) (v := .int fa) (C := RX0) (T := TX0) (N := 5) hx hb hts inX0 hown hK hP 0 rfl rfl 3 (by decide) (hts (Cond.fieldLink "NestedTags$Cursor" 15 "NestedTags$Cursor" "fault" "I") kk_1_30) (fun _ h9 => h9) rfl dX0_goesOn_1 ?_
  refine lv_if_ne (tgt := 22) hx hb dX0_goesOn_4 (by decide) (fun c_4 => ?_) (fun c_4 => ?_)
  · skip
    refine lv_iconst (v := 0) hx hb dX0_goesOn_22 (by decide) ?_
    have hP9 := hP.sub (ws' := [(h0, .inr (0, [.ref b0, .int ln, .int ca, .int fa, .int fp]))]) [0] rfl
    have hD9 := hD.sub (ws' := [(h0, .inr (0, [.ref b0, .int ln, .int ca, .int fa, .int fp]))]) [0] (by decide) rfl
    exact W.zret (v := 0) (ty := .boolean) hx hb hr rfl (fun t ht hW => ⟨⟨0, (), rfl, by rw [if_neg (fun q => c_4 q.1)], by rw [ht]; exact hP9, va_K.moved hW.alike hK, hD9⟩, hS.F ht⟩) hS.2.2 dX0_goesOn_23
  · skip
    refine lv_aload_n hx hb dX0_goesOn_7 rfl (lv_at hl 0 rfl) ?_
    refine va_get (D := D) (ci := 0) (v := .int ca) (C := RX0) (T := TX0) (N := 5) hx hb hts inX0 hown hK hP 0 rfl rfl 2 (by decide) (hts (Cond.fieldLink "NestedTags$Cursor" 25 "NestedTags$Cursor" "at" "I") kk_1_28) (fun _ h9 => h9) rfl dX0_goesOn_8 ?_
    refine lv_aload_n hx hb dX0_goesOn_11 rfl (lv_at hl 0 rfl) ?_
    refine va_get (D := D) (ci := 0) (v := .int ln) (C := RX0) (T := TX0) (N := 5) hx hb hts inX0 hown hK hP 0 rfl rfl 1 (by decide) (hts (Cond.fieldLink "NestedTags$Cursor" 22 "NestedTags$Cursor" "length" "I") kk_1_26) (fun _ h9 => h9) rfl dX0_goesOn_12 ?_
    refine lv_icmp_ge (tgt := 22) hx hb dX0_goesOn_15 (by decide) (fun c_15 => ?_) (fun c_15 => ?_)
    · skip
      refine lv_iconst (v := 0) hx hb dX0_goesOn_22 (by decide) ?_
      have hP9 := hP.sub (ws' := [(h0, .inr (0, [.ref b0, .int ln, .int ca, .int fa, .int fp]))]) [0] rfl
      have hD9 := hD.sub (ws' := [(h0, .inr (0, [.ref b0, .int ln, .int ca, .int fa, .int fp]))]) [0] (by decide) rfl
      exact W.zret (v := 0) (ty := .boolean) hx hb hr rfl (fun t ht hW => ⟨⟨0, (), rfl, by rw [if_neg (fun q => absurd q.2 (Int32.not_lt.mpr c_15))], by rw [ht]; exact hP9, va_K.moved hW.alike hK, hD9⟩, hS.F ht⟩) hS.2.2 dX0_goesOn_23
    · skip
      refine lv_iconst (v := 1) hx hb dX0_goesOn_18 (by decide) ?_
      refine lv_goto (tgt := 23) hx hb dX0_goesOn_19 (by decide) ?_
      have hP9 := hP.sub (ws' := [(h0, .inr (0, [.ref b0, .int ln, .int ca, .int fa, .int fp]))]) [0] rfl
      have hD9 := hD.sub (ws' := [(h0, .inr (0, [.ref b0, .int ln, .int ca, .int fa, .int fp]))]) [0] (by decide) rfl
      exact W.zret (v := 1) (ty := .boolean) hx hb hr rfl (fun t ht hW => ⟨⟨1, (), rfl, by rw [if_pos ⟨c_4, Int32.not_le.mp c_15⟩], by rw [ht]; exact hP9, va_K.moved hW.alike hK, hD9⟩, hS.F ht⟩) hS.2.2 dX0_goesOn_23

set_option maxHeartbeats 4000000 in
set_option maxRecDepth 100000 in
/-- byteAt: the byte, or -1 -/
theorem c_X0_byteAt (l : Launch) (D : va_G) (cI : ClassId) (h0 : Nat) (b0 : Nat) (ln : Int32) (ca : Int32) (fa : Int32) (fp : Int32) (g : Nat → Int32) (sz : Nat) (p1 : Int32)  : Met l yX0_byteAt (.code yX0_byteAt cX0_byteAt 2 (some .int) :: tbW) ({ frames := 0, cells := 0, slots := 0, locals := 0 }) (va_Pc [.ref h0, .int p1] (gP D cI [(h0, .inr (0, [.ref b0, .int ln, .int ca, .int fa, .int fp])), (b0, .inl (cI, 500, .inl g))] sz)) (va_Qi (fun (r : Int32) (u : Unit) => r = byteAt g ln p1) (fun u => gB D cI (va_A [(h0, .inr (0, [.ref b0, .int ln, .int ca, .int fa, .int fp])), (b0, .inl (cI, 500, .inl g))] sz) [(h0, .inr (0, [.ref b0, .int ln, .int ca, .int fa, .int fp])), (b0, .inl (cI, 500, .inl g))]) (va_A [(h0, .inr (0, [.ref b0, .int ln, .int ca, .int fa, .int fp])), (b0, .inl (cI, 500, .inl g))] sz)) 0 0 (va_A [(h0, .inr (0, [.ref b0, .int ln, .int ca, .int fa, .int fp])), (b0, .inl (cI, 500, .inl g))] sz) := by
  refine Met.ofW (cc := cX0_byteAt) (maxL := 2) (ret := (some .int)) (by decide) rfl ?_
  intro p e s m args below meth c s₁ B hml hv
  obtain ⟨rfl, hsz, hP, hK, hD0, hN⟩ := hv
  have hx := B.exec
  have hb := B.bytes
  have hr := B.returns
  have hts := tb_hts (atoms_spec (ws := .code yX0_byteAt cX0_byteAt 2 (some .int) :: tbW) B.pre)
  have hown : s.vm.findClass RX0 = some m.cls := findClass_of_methodNamed B.named
  have hlocks := B.notSynchronized
  subst hsz
  have hD := hD0.self (sz := s.heap.size)
  generalize hAe : va_A [(h0, .inr (0, [.ref b0, .int ln, .int ca, .int fa, .int fp])), (b0, .inl (cI, 500, .inl g))] s.heap.size = A at hD ⊢
  have hA : ∀ q : Nat, s.heap.size ≤ q → A q := fun q h => by rw [← hAe]; exact Or.inr h
  have hS : va_S A s.heap s.heap [] := va_S.rf
  have hP : va_P D classes [(h0, .inr (0, [.ref b0, .int ln, .int ca, .int fa, .int fp])), (b0, .inl (cI, 500, .inl g))] s.heap := hP
  have hl := lv_entry ([.ref h0, .int p1]) (n := 2) (Nat.le_of_ble_eq_true rfl)
  rw [lg_entry_eq]
  generalize (lg_sl ([.ref h0, .int p1]) ++ List.replicate (2 - (lg_sl ([.ref h0, .int p1])).length) Slot.unset).toArray = ls at hl ⊢
  have hl : lv_has ls 2 [(0, .ref h0), (1, .int p1)] := hl
  refine lv_iload_n hx hb dX0_byteAt_0 rfl (lv_at hl 1 rfl) ?_
  refine lv_if_lt (tgt := 30) hx hb dX0_byteAt_1 (by decide) (fun c_1 => ?_) (fun c_1 => ?_)
  · skip
    refine lv_iconst (v := (-1)) hx hb dX0_byteAt_30 (by decide) ?_
    have hP9 := hP.sub (ws' := [(h0, .inr (0, [.ref b0, .int ln, .int ca, .int fa, .int fp])), (b0, .inl (cI, 500, .inl g))]) [0, 1] rfl
    have hD9 := hD.sub (ws' := [(h0, .inr (0, [.ref b0, .int ln, .int ca, .int fa, .int fp])), (b0, .inl (cI, 500, .inl g))]) [0, 1] (by decide) rfl
    exact W.iret (v := (-1)) hx hb hr (fun t ht hW => ⟨⟨(-1), (), rfl, (byteAt_a c_1).symm, by rw [ht]; exact hP9, va_K.moved hW.alike hK, hD9⟩, hS.F ht⟩) hS.2.2 dX0_byteAt_31
  · skip
    refine lv_iload_n hx hb dX0_byteAt_4 rfl (lv_at hl 1 rfl) ?_
    refine lv_aload_n hx hb dX0_byteAt_5 rfl (lv_at hl 0 rfl) ?_
    refine va_get (D := D) (ci := 0) (v := .int ln) (C := RX0) (T := TX0) (N := 5) hx hb hts inX0 hown hK hP 0 rfl rfl 1 (by decide) (hts (Cond.fieldLink "NestedTags$Cursor" 22 "NestedTags$Cursor" "length" "I") kk_1_26) (fun _ h9 => h9) rfl dX0_byteAt_6 ?_
    refine lv_icmp_ge (tgt := 30) hx hb dX0_byteAt_9 (by decide) (fun c_9 => ?_) (fun c_9 => ?_)
    · skip
      refine lv_iconst (v := (-1)) hx hb dX0_byteAt_30 (by decide) ?_
      have hP9 := hP.sub (ws' := [(h0, .inr (0, [.ref b0, .int ln, .int ca, .int fa, .int fp])), (b0, .inl (cI, 500, .inl g))]) [0, 1] rfl
      have hD9 := hD.sub (ws' := [(h0, .inr (0, [.ref b0, .int ln, .int ca, .int fa, .int fp])), (b0, .inl (cI, 500, .inl g))]) [0, 1] (by decide) rfl
      exact W.iret (v := (-1)) hx hb hr (fun t ht hW => ⟨⟨(-1), (), rfl, (byteAt_b c_9).symm, by rw [ht]; exact hP9, va_K.moved hW.alike hK, hD9⟩, hS.F ht⟩) hS.2.2 dX0_byteAt_31
    · skip
      refine lv_iload_n hx hb dX0_byteAt_12 rfl (lv_at hl 1 rfl) ?_
      refine lv_aload_n hx hb dX0_byteAt_13 rfl (lv_at hl 0 rfl) ?_
      refine va_get (D := D) (ci := 0) (v := .ref b0) (C := RX0) (T := TX0) (N := 5) hx hb hts inX0 hown hK hP 0 rfl rfl 0 (by decide) (hts (Cond.fieldLink "NestedTags$Cursor" 9 "NestedTags$Cursor" "bytes" "[I") kk_1_25) (fun _ h9 => h9) rfl dX0_byteAt_14 ?_
      refine va_alen hx hb hK hP 1 0 rfl rfl (v := nI 500) rfl dX0_byteAt_17 ?_
      refine lv_icmp_ge (tgt := 30) hx hb dX0_byteAt_18 (by decide) (fun c_18 => ?_) (fun c_18 => ?_)
      · skip
        refine lv_iconst (v := (-1)) hx hb dX0_byteAt_30 (by decide) ?_
        have hP9 := hP.sub (ws' := [(h0, .inr (0, [.ref b0, .int ln, .int ca, .int fa, .int fp])), (b0, .inl (cI, 500, .inl g))]) [0, 1] rfl
        have hD9 := hD.sub (ws' := [(h0, .inr (0, [.ref b0, .int ln, .int ca, .int fa, .int fp])), (b0, .inl (cI, 500, .inl g))]) [0, 1] (by decide) rfl
        exact W.iret (v := (-1)) hx hb hr (fun t ht hW => ⟨⟨(-1), (), rfl, (byteAt_c c_18).symm, by rw [ht]; exact hP9, va_K.moved hW.alike hK, hD9⟩, hS.F ht⟩) hS.2.2 dX0_byteAt_31
      · skip
        refine lv_aload_n hx hb dX0_byteAt_21 rfl (lv_at hl 0 rfl) ?_
        refine va_get (D := D) (ci := 0) (v := .ref b0) (C := RX0) (T := TX0) (N := 5) hx hb hts inX0 hown hK hP 0 rfl rfl 0 (by decide) (hts (Cond.fieldLink "NestedTags$Cursor" 9 "NestedTags$Cursor" "bytes" "[I") kk_1_25) (fun _ h9 => h9) rfl dX0_byteAt_22 ?_
        refine lv_iload_n hx hb dX0_byteAt_25 rfl (lv_at hl 1 rfl) ?_
        refine va_iald hx hb hK hP 1 0 rfl rfl (vin_of c_1 c_18 (by decide)) dX0_byteAt_26 ?_
        refine lv_topi (fun x_1 ex_1 => ?_)
        refine lv_goto (tgt := 31) hx hb dX0_byteAt_27 (by decide) ?_
        have hP9 := hP.sub (ws' := [(h0, .inr (0, [.ref b0, .int ln, .int ca, .int fa, .int fp])), (b0, .inl (cI, 500, .inl g))]) [0, 1] rfl
        have hD9 := hD.sub (ws' := [(h0, .inr (0, [.ref b0, .int ln, .int ca, .int fa, .int fp])), (b0, .inl (cI, 500, .inl g))]) [0, 1] (by decide) rfl
        exact W.iret (v := x_1) hx hb hr (fun t ht hW => ⟨⟨x_1, (), rfl, by rw [ex_1]; exact (byteAt_in c_1 c_9 c_18).symm, by rw [ht]; exact hP9, va_K.moved hW.alike hK, hD9⟩, hS.F ht⟩) hS.2.2 dX0_byteAt_31

set_option maxHeartbeats 4000000 in
set_option maxRecDepth 100000 in
/-- fail: the first fault counts -/
theorem c_X0_fail (l : Launch) (D : va_G) (cI : ClassId) (h0 : Nat) (b0 : Nat) (ln : Int32) (ca : Int32) (fa : Int32) (fp : Int32) (sz : Nat) (p1 : Int32) (p2 : Int32)  : Met l yX0_fail (.code yX0_fail cX0_fail 3 (some .boolean) :: tbW) ({ frames := 0, cells := 0, slots := 0, locals := 0 }) (va_Pc [.ref h0, .int p1, .int p2] (gP D cI [(h0, .inr (0, [.ref b0, .int ln, .int ca, .int fa, .int fp]))] sz)) (va_Qi (fun (r : Int32) (u : Int32 × Int32) => r = 0 ∧ (u.1, u.2) = if fa = 0 then (p1, p2) else (fa, fp)) (fun u => gB D cI (va_A [(h0, .inr (0, [.ref b0, .int ln, .int ca, .int fa, .int fp]))] sz) [(h0, .inr (0, [.ref b0, .int ln, .int ca, .int u.1, .int u.2]))]) (va_A [(h0, .inr (0, [.ref b0, .int ln, .int ca, .int fa, .int fp]))] sz)) 0 0 (va_A [(h0, .inr (0, [.ref b0, .int ln, .int ca, .int fa, .int fp]))] sz) := by
  refine Met.ofW (cc := cX0_fail) (maxL := 3) (ret := (some .boolean)) (by decide) rfl ?_
  intro p e s m args below meth c s₁ B hml hv
  obtain ⟨rfl, hsz, hP, hK, hD0, hN⟩ := hv
  have hx := B.exec
  have hb := B.bytes
  have hr := B.returns
  have hts := tb_hts (atoms_spec (ws := .code yX0_fail cX0_fail 3 (some .boolean) :: tbW) B.pre)
  have hown : s.vm.findClass RX0 = some m.cls := findClass_of_methodNamed B.named
  have hlocks := B.notSynchronized
  subst hsz
  have hD := hD0.self (sz := s.heap.size)
  generalize hAe : va_A [(h0, .inr (0, [.ref b0, .int ln, .int ca, .int fa, .int fp]))] s.heap.size = A at hD ⊢
  have hA : ∀ q : Nat, s.heap.size ≤ q → A q := fun q h => by rw [← hAe]; exact Or.inr h
  have hS : va_S A s.heap s.heap [] := va_S.rf
  have hP : va_P D classes [(h0, .inr (0, [.ref b0, .int ln, .int ca, .int fa, .int fp]))] s.heap := hP
  have hl := lv_entry ([.ref h0, .int p1, .int p2]) (n := 3) (Nat.le_of_ble_eq_true rfl)
  rw [lg_entry_eq]
  generalize (lg_sl ([.ref h0, .int p1, .int p2]) ++ List.replicate (3 - (lg_sl ([.ref h0, .int p1, .int p2])).length) Slot.unset).toArray = ls at hl ⊢
  have hl : lv_has ls 3 [(0, .ref h0), (1, .int p1), (2, .int p2)] := hl
  refine lv_aload_n hx hb dX0_fail_0 rfl (lv_at hl 0 rfl) ?_
  refine va_get (D := D) (ci := 0) (v := .int fa) (C := RX0) (T := TX0) (N := 5) hx hb hts inX0 hown hK hP 0 rfl rfl 3 (by decide) (hts (Cond.fieldLink "NestedTags$Cursor" 15 "NestedTags$Cursor" "fault" "I") kk_1_30) (fun _ h9 => h9) rfl dX0_fail_1 ?_
  refine lv_if_ne (tgt := 17) hx hb dX0_fail_4 (by decide) (fun c_4 => ?_) (fun c_4 => ?_)
  · skip
    refine lv_iconst (v := 0) hx hb dX0_fail_17 (by decide) ?_
    have hP9 := hP.sub (ws' := [(h0, .inr (0, [.ref b0, .int ln, .int ca, .int fa, .int fp]))]) [0] rfl
    have hD9 := hD.sub (ws' := [(h0, .inr (0, [.ref b0, .int ln, .int ca, .int fa, .int fp]))]) [0] (by decide) rfl
    exact W.zret (v := 0) (ty := .boolean) hx hb hr rfl (fun t ht hW => ⟨⟨0, (fa, fp), rfl, ⟨rfl, (if_neg c_4).symm⟩, by rw [ht]; exact hP9, va_K.moved hW.alike hK, hD9⟩, hS.F ht⟩) hS.2.2 dX0_fail_18
  · skip
    refine lv_aload_n hx hb dX0_fail_7 rfl (lv_at hl 0 rfl) ?_
    refine lv_iload_n hx hb dX0_fail_8 rfl (lv_at hl 1 rfl) ?_
    refine va_put (D := D) (ci := 0) (v := .int p1) (ty := .int) (C := RX0) (T := TX0) (N := 5) hx hb hts inX0 tyX0 tyX0_ok nmX0 hown hK hP hD hS 0 rfl rfl 3 (by decide) (hts (Cond.fieldLink "NestedTags$Cursor" 15 "NestedTags$Cursor" "fault" "I") kk_1_30) (fun _ h9 => h9) rfl (by decide +kernel) rfl rfl (Nat.le_of_ble_eq_true rfl) dX0_fail_9 (fun H locs hP hD hS => ?_)
    have hP : va_P D classes [(h0, .inr (0, [.ref b0, .int ln, .int ca, .int p1, .int fp]))] H := hP
    have hD : va_D A [(h0, .inr (0, [.ref b0, .int ln, .int ca, .int p1, .int fp]))] := hD
    refine lv_aload_n hx hb dX0_fail_12 rfl (lv_at hl 0 rfl) ?_
    refine lv_iload_n hx hb dX0_fail_13 rfl (lv_at hl 2 rfl) ?_
    refine va_put (D := D) (ci := 0) (v := .int p2) (ty := .int) (C := RX0) (T := TX0) (N := 5) hx hb hts inX0 tyX0 tyX0_ok nmX0 hown hK hP hD hS 0 rfl rfl 4 (by decide) (hts (Cond.fieldLink "NestedTags$Cursor" 19 "NestedTags$Cursor" "faultPlace" "I") kk_1_32) (fun _ h9 => h9) rfl (by decide +kernel) rfl rfl (Nat.le_of_ble_eq_true rfl) dX0_fail_14 (fun H locs hP hD hS => ?_)
    have hP : va_P D classes [(h0, .inr (0, [.ref b0, .int ln, .int ca, .int p1, .int p2]))] H := hP
    have hD : va_D A [(h0, .inr (0, [.ref b0, .int ln, .int ca, .int p1, .int p2]))] := hD
    refine lv_iconst (v := 0) hx hb dX0_fail_17 (by decide) ?_
    have hP9 := hP.sub (ws' := [(h0, .inr (0, [.ref b0, .int ln, .int ca, .int p1, .int p2]))]) [0] rfl
    have hD9 := hD.sub (ws' := [(h0, .inr (0, [.ref b0, .int ln, .int ca, .int p1, .int p2]))]) [0] (by decide) rfl
    exact W.zret (v := 0) (ty := .boolean) hx hb hr rfl (fun t ht hW => ⟨⟨0, (p1, p2), rfl, ⟨rfl, (if_pos c_4).symm⟩, by rw [ht]; exact hP9, va_K.moved hW.alike hK, hD9⟩, hS.F ht⟩) hS.2.2 dX0_fail_18

set_option maxHeartbeats 4000000 in
set_option maxRecDepth 100000 in
/-- X0_failHere -/
theorem c_X0_failHere (l : Launch) (D : va_G) (cI : ClassId) (h0 : Nat) (b0 : Nat) (ln : Int32) (ca : Int32) (fa : Int32) (fp : Int32) (sz : Nat)   : Met l yX0_failHere (.code yX0_failHere cX0_failHere 1 (some .boolean) :: tbW) ({ frames := 1, cells := 0, slots := 0, locals := 22 }) (va_Pc [.ref h0] (gP D cI [(h0, .inr (0, [.ref b0, .int ln, .int ca, .int fa, .int fp]))] sz)) (va_Qi (fun (r : Int32) (u : Int32 × Int32) => r = 0 ∧ (u.1, u.2) = if fa = 0 then (2, ca) else (fa, fp)) (fun u => gB D cI (va_A [(h0, .inr (0, [.ref b0, .int ln, .int ca, .int fa, .int fp]))] sz) [(h0, .inr (0, [.ref b0, .int ln, .int ca, .int u.1, .int u.2]))]) (va_A [(h0, .inr (0, [.ref b0, .int ln, .int ca, .int fa, .int fp]))] sz)) 0 0 (va_A [(h0, .inr (0, [.ref b0, .int ln, .int ca, .int fa, .int fp]))] sz) := by
  refine Met.ofW (cc := cX0_failHere) (maxL := 1) (ret := (some .boolean)) (by decide) rfl ?_
  intro p e s m args below meth c s₁ B hml hv
  obtain ⟨rfl, hsz, hP, hK, hD0, hN⟩ := hv
  have hx := B.exec
  have hb := B.bytes
  have hr := B.returns
  have hts := tb_hts (atoms_spec (ws := .code yX0_failHere cX0_failHere 1 (some .boolean) :: tbW) B.pre)
  have hown : s.vm.findClass RX0 = some m.cls := findClass_of_methodNamed B.named
  have hlocks := B.notSynchronized
  subst hsz
  have hD := hD0.self (sz := s.heap.size)
  generalize hAe : va_A [(h0, .inr (0, [.ref b0, .int ln, .int ca, .int fa, .int fp]))] s.heap.size = A at hD ⊢
  have hA : ∀ q : Nat, s.heap.size ≤ q → A q := fun q h => by rw [← hAe]; exact Or.inr h
  have hS : va_S A s.heap s.heap [] := va_S.rf
  have hP : va_P D classes [(h0, .inr (0, [.ref b0, .int ln, .int ca, .int fa, .int fp]))] s.heap := hP
  have hl := lv_entry ([.ref h0]) (n := 1) (Nat.le_of_ble_eq_true rfl)
  rw [lg_entry_eq]
  generalize (lg_sl ([.ref h0]) ++ List.replicate (1 - (lg_sl ([.ref h0])).length) Slot.unset).toArray = ls at hl ⊢
  have hl : lv_has ls 1 [(0, .ref h0)] := hl
  refine lv_aload_n hx hb dX0_failHere_0 rfl (lv_at hl 0 rfl) ?_
  refine lv_iconst (v := 2) hx hb dX0_failHere_1 (by decide) ?_
  refine lv_aload_n hx hb dX0_failHere_2 rfl (lv_at hl 0 rfl) ?_
  refine va_get (D := D) (ci := 0) (v := .int ca) (C := RX0) (T := TX0) (N := 5) hx hb hts inX0 hown hK hP 0 rfl rfl 2 (by decide) (hts (Cond.fieldLink "NestedTags$Cursor" 25 "NestedTags$Cursor" "at" "I") kk_1_28) (fun _ h9 => h9) rfl dX0_failHere_3 ?_
  refine gcall_i (va_runV (As := [.int 2, .int ca]) (rest := []) ⟨hx, hb, hml, hown, hts⟩ (c_X0_fail l D cI h0 b0 ln ca fa fp s.heap.size 2 ca) (cwV 2 hts (tb_goodV kk_2_13 kk_1_188 kk_1_189 kk_1_2 kk_1_190) rfl rfl rfl (by decide +kernel) ⟨Nat.le_of_ble_eq_true rfl, Nat.le_of_ble_eq_true rfl⟩) (gpreV hK hN (hP.sub [0] rfl) (hD.sub [0] (by decide) rfl) (va_recv hK hP (ci := 0) (q0 := 0) rfl rfl)) rfl rfl hl.1 rfl (lv_room (Nat.le_of_ble_eq_true rfl)) dX0_failHere_6 ⟨Nat.le_of_ble_eq_true rfl, Nat.le_of_ble_eq_true rfl⟩) hP hD hS hA [0] [] (wr := []) rfl rfl (by decide) (by decide) (fun r_1 u_2 H locs hw_6 hP hD hS => ?_)
  obtain ⟨fa_3, fp_4⟩ := u_2
  try dsimp only at hw_6
  have hP : va_P D classes [(h0, .inr (0, [.ref b0, .int ln, .int ca, .int fa_3, .int fp_4]))] H := hP
  have hD : va_D A [(h0, .inr (0, [.ref b0, .int ln, .int ca, .int fa_3, .int fp_4]))] := hD
  have hP9 := hP.sub (ws' := [(h0, .inr (0, [.ref b0, .int ln, .int ca, .int fa_3, .int fp_4]))]) [0] rfl
  have hD9 := hD.sub (ws' := [(h0, .inr (0, [.ref b0, .int ln, .int ca, .int fa_3, .int fp_4]))]) [0] (by decide) rfl
  exact W.zret (v := r_1) (ty := .boolean) hx hb hr (nb01 (Or.inl hw_6.1)) (fun t ht hW => ⟨⟨r_1, (fa_3, fp_4), rfl, hw_6, by rw [ht]; exact hP9, va_K.moved hW.alike hK, hD9⟩, hS.F ht⟩) hS.2.2 dX0_failHere_9

set_option maxHeartbeats 4000000 in
set_option maxRecDepth 100000 in
/-- X1_init -/
theorem c_X1_init_20 (l : Launch) (D : va_G) (cI : ClassId) (h0 : Nat) (sz : Nat)   : Met l yX1_init (.code yX1_init cX1_init 2 none :: tbW) ({ frames := 1, cells := 2, slots := 40, locals := 15 }) (va_Pc [.ref h0, .int 20] (gP D cI [(h0, .inr (1, [.null, .null, .int 0, .int 0]))] sz)) (va_Qv (fun (u : Nat × Nat) => True) (fun u => gB D cI (va_A [(h0, .inr (1, [.null, .null, .int 0, .int 0]))] sz) [(h0, .inr (1, [.ref u.1, .ref u.2, .int 20, .int 0])), (u.1, .inl (cI, 20, .inl (fun _ => 0))), (u.2, .inl (cI, 20, .inl (fun _ => 0)))]) (va_A [(h0, .inr (1, [.null, .null, .int 0, .int 0]))] sz)) 2 40 (va_A [(h0, .inr (1, [.null, .null, .int 0, .int 0]))] sz) := by
  refine Met.ofW (cc := cX1_init) (maxL := 2) (ret := none) (by decide) rfl ?_
  intro p e s m args below meth c s₁ B hml hv
  obtain ⟨rfl, hsz, hP, hK, hD0, hN⟩ := hv
  have hx := B.exec
  have hb := B.bytes
  have hr := B.returns
  have hts := tb_hts (atoms_spec (ws := .code yX1_init cX1_init 2 none :: tbW) B.pre)
  have hown : s.vm.findClass RX1 = some m.cls := findClass_of_methodNamed B.named
  have hlocks := B.notSynchronized
  have hin : meth.name = "<init>" := (name_of_methodNamed B.named B.method).1
  subst hsz
  have hD := hD0.self (sz := s.heap.size)
  generalize hAe : va_A [(h0, .inr (1, [.null, .null, .int 0, .int 0]))] s.heap.size = A at hD ⊢
  have hA : ∀ q : Nat, s.heap.size ≤ q → A q := fun q h => by rw [← hAe]; exact Or.inr h
  have hS : va_S A s.heap s.heap [] := va_S.rf
  have hP : va_P D classes [(h0, .inr (1, [.null, .null, .int 0, .int 0]))] s.heap := hP
  have hl := lv_entry ([.ref h0, .int 20]) (n := 2) (Nat.le_of_ble_eq_true rfl)
  rw [lg_entry_eq]
  generalize (lg_sl ([.ref h0, .int 20]) ++ List.replicate (2 - (lg_sl ([.ref h0, .int 20])).length) Slot.unset).toArray = ls at hl ⊢
  have hl : lv_has ls 2 [(0, .ref h0), (1, .int 20)] := hl
  refine lv_aload_n hx hb dX1_init_0 rfl (lv_at hl 0 rfl) ?_
  refine W.objInit hx hb hown (hts (Cond.methodLink "NestedTags$Names" 1 objectInit) kk_1_78) (hts (Cond.instanceMethod objectInit) kk_1_17) (hts _ kk_obj) rfl (by rw [hml]; exact hl.1) rfl dX1_init_1 (Nat.le_of_ble_eq_true rfl) (Nat.le_of_ble_eq_true rfl) ?_
  refine W.eq (g2 := F0 m 4 ls []) rfl ?_
  refine lv_aload_n hx hb dX1_init_4 rfl (lv_at hl 0 rfl) ?_
  refine lv_iload_n hx hb dX1_init_5 rfl (lv_at hl 1 rfl) ?_
  refine lv_iconst (v := 0) hx hb dX1_init_6 (by decide) ?_
  refine va_mmax hx hb (by rw [hml, hl.1]) hown (hts (Cond.methodLink "NestedTags$Names" 7 Lib.Math.max.name) kk_1_79) (hts (Cond.static Lib.Math.max.name) kk_1_80) (hts (Cond.initialized "java/lang/Math") kk_1_5) (hts _ kk_mmax) (Nat.le_of_ble_eq_true rfl) (Nat.le_of_ble_eq_true rfl) (Nat.le_of_ble_eq_true rfl) (Nat.le_of_ble_eq_true rfl) dX1_init_7 ?_
  refine lv_topi (fun x_1 ex_1 => ?_)
  obtain rfl : x_1 = 20 := by rw [ex_1]; decide
  refine va_putF (D := D) (ci := 1) (v := .int 20) (ty := .int) (C := RX1) (T := TX1) (N := 4) hx hb hts inX1 tyX1 tyX1_ok nmX1 hown hK hP hD hS 0 rfl rfl 2 (by decide) (hts (Cond.fieldLink "NestedTags$Names" 13 "NestedTags$Names" "limit" "I") kk_1_84) (fun _ h9 => h9) rfl hin rfl (by decide +kernel) rfl rfl (Nat.le_of_ble_eq_true rfl) dX1_init_10 (fun H locs hP hD hS => ?_)
  have hP : va_P D classes [(h0, .inr (1, [.null, .null, .int 20, .int 0]))] H := hP
  have hD : va_D A [(h0, .inr (1, [.null, .null, .int 20, .int 0]))] := hD
  refine lv_aload_n hx hb dX1_init_13 rfl (lv_at hl 0 rfl) ?_
  refine lv_aload_n hx hb dX1_init_14 rfl (lv_at hl 0 rfl) ?_
  refine va_get (D := D) (ci := 1) (v := .int 20) (C := RX1) (T := TX1) (N := 4) hx hb hts inX1 hown hK hP 0 rfl rfl 2 (by decide) (hts (Cond.fieldLink "NestedTags$Names" 13 "NestedTags$Names" "limit" "I") kk_1_84) (fun _ h9 => h9) rfl dX1_init_15 ?_
  refine va_newa (atype := .int) (ty := .int) (a0 := (20, .inl (fun _ => 0))) hx hb (hts (Cond.arrayClass .int) kk_1_45) rfl hK hP hD hS hA (fun _ => by first | rfl | exact vp_cell_i) (by decide) (by decide) (by decide) (Nat.le_of_ble_eq_true rfl) (Nat.le_of_ble_eq_true rfl) dX1_init_18 (fun q_2 cA H hK2 hP hD hS => ?_)
  obtain rfl : cI = cA := cA_eq hK hK2
  have hP : va_P D classes [(h0, .inr (1, [.null, .null, .int 20, .int 0])), (q_2, .inl (cI, 20, .inl (fun _ => 0)))] H := hP
  have hD : va_D A [(h0, .inr (1, [.null, .null, .int 20, .int 0])), (q_2, .inl (cI, 20, .inl (fun _ => 0)))] := hD
  refine W.widen (k := 1) (n := 20) (by decide) (by decide) ?_
  refine va_putF (D := D) (ci := 1) (v := .ref q_2) (ty := .array .int) (C := RX1) (T := TX1) (N := 4) hx hb hts inX1 tyX1 tyX1_ok nmX1 hown hK hP hD hS 0 rfl rfl 0 (by decide) (hts (Cond.fieldLink "NestedTags$Names" 19 "NestedTags$Names" "begins" "[I") kk_1_82) (fun _ h9 => h9) rfl hin rfl (by decide +kernel) rfl rfl (Nat.le_of_ble_eq_true rfl) dX1_init_20 (fun H locs hP hD hS => ?_)
  have hP : va_P D classes [(h0, .inr (1, [.ref q_2, .null, .int 20, .int 0])), (q_2, .inl (cI, 20, .inl (fun _ => 0)))] H := hP
  have hD : va_D A [(h0, .inr (1, [.ref q_2, .null, .int 20, .int 0])), (q_2, .inl (cI, 20, .inl (fun _ => 0)))] := hD
  refine lv_aload_n hx hb dX1_init_23 rfl (lv_at hl 0 rfl) ?_
  refine lv_aload_n hx hb dX1_init_24 rfl (lv_at hl 0 rfl) ?_
  refine va_get (D := D) (ci := 1) (v := .int 20) (C := RX1) (T := TX1) (N := 4) hx hb hts inX1 hown hK hP 0 rfl rfl 2 (by decide) (hts (Cond.fieldLink "NestedTags$Names" 13 "NestedTags$Names" "limit" "I") kk_1_84) (fun _ h9 => h9) rfl dX1_init_25 ?_
  refine va_newa (atype := .int) (ty := .int) (a0 := (20, .inl (fun _ => 0))) hx hb (hts (Cond.arrayClass .int) kk_1_45) rfl hK hP hD hS hA (fun _ => by first | rfl | exact vp_cell_i) (by decide) (by decide) (by decide) (Nat.le_of_ble_eq_true rfl) (Nat.le_of_ble_eq_true rfl) dX1_init_28 (fun q_3 cA H hK2 hP hD hS => ?_)
  obtain rfl : cI = cA := cA_eq hK hK2
  have hP : va_P D classes [(h0, .inr (1, [.ref q_2, .null, .int 20, .int 0])), (q_2, .inl (cI, 20, .inl (fun _ => 0))), (q_3, .inl (cI, 20, .inl (fun _ => 0)))] H := hP
  have hD : va_D A [(h0, .inr (1, [.ref q_2, .null, .int 20, .int 0])), (q_2, .inl (cI, 20, .inl (fun _ => 0))), (q_3, .inl (cI, 20, .inl (fun _ => 0)))] := hD
  refine W.widen (k := 2) (n := 40) (by decide) (by decide) ?_
  refine va_putF (D := D) (ci := 1) (v := .ref q_3) (ty := .array .int) (C := RX1) (T := TX1) (N := 4) hx hb hts inX1 tyX1 tyX1_ok nmX1 hown hK hP hD hS 0 rfl rfl 1 (by decide) (hts (Cond.fieldLink "NestedTags$Names" 23 "NestedTags$Names" "ends" "[I") kk_1_83) (fun _ h9 => h9) rfl hin rfl (by decide +kernel) rfl rfl (Nat.le_of_ble_eq_true rfl) dX1_init_30 (fun H locs hP hD hS => ?_)
  have hP : va_P D classes [(h0, .inr (1, [.ref q_2, .ref q_3, .int 20, .int 0])), (q_2, .inl (cI, 20, .inl (fun _ => 0))), (q_3, .inl (cI, 20, .inl (fun _ => 0)))] H := hP
  have hD : va_D A [(h0, .inr (1, [.ref q_2, .ref q_3, .int 20, .int 0])), (q_2, .inl (cI, 20, .inl (fun _ => 0))), (q_3, .inl (cI, 20, .inl (fun _ => 0)))] := hD
  have hP9 := hP.sub (ws' := [(h0, .inr (1, [.ref q_2, .ref q_3, .int 20, .int 0])), (q_2, .inl (cI, 20, .inl (fun _ => 0))), (q_3, .inl (cI, 20, .inl (fun _ => 0)))]) [0, 1, 2] rfl
  have hD9 := hD.sub (ws' := [(h0, .inr (1, [.ref q_2, .ref q_3, .int 20, .int 0])), (q_2, .inl (cI, 20, .inl (fun _ => 0))), (q_3, .inl (cI, 20, .inl (fun _ => 0)))]) [0, 1, 2] (by decide) rfl
  refine W.widen (k := 2) (n := 40) (by decide) (by decide) ?_
  exact W.vret hx hb hr (fun t ht hW => ⟨⟨(q_2, q_3), rfl, trivial, by rw [ht]; exact hP9, va_K.moved hW.alike hK, hD9⟩, hS.F ht⟩) hS.2.2 dX1_init_33

set_option maxHeartbeats 4000000 in
set_option maxRecDepth 100000 in
/-- X1_init -/
theorem c_X1_init_8 (l : Launch) (D : va_G) (cI : ClassId) (h0 : Nat) (sz : Nat)   : Met l yX1_init (.code yX1_init cX1_init 2 none :: tbW) ({ frames := 1, cells := 2, slots := 16, locals := 15 }) (va_Pc [.ref h0, .int 8] (gP D cI [(h0, .inr (1, [.null, .null, .int 0, .int 0]))] sz)) (va_Qv (fun (u : Nat × Nat) => True) (fun u => gB D cI (va_A [(h0, .inr (1, [.null, .null, .int 0, .int 0]))] sz) [(h0, .inr (1, [.ref u.1, .ref u.2, .int 8, .int 0])), (u.1, .inl (cI, 8, .inl (fun _ => 0))), (u.2, .inl (cI, 8, .inl (fun _ => 0)))]) (va_A [(h0, .inr (1, [.null, .null, .int 0, .int 0]))] sz)) 2 16 (va_A [(h0, .inr (1, [.null, .null, .int 0, .int 0]))] sz) := by
  refine Met.ofW (cc := cX1_init) (maxL := 2) (ret := none) (by decide) rfl ?_
  intro p e s m args below meth c s₁ B hml hv
  obtain ⟨rfl, hsz, hP, hK, hD0, hN⟩ := hv
  have hx := B.exec
  have hb := B.bytes
  have hr := B.returns
  have hts := tb_hts (atoms_spec (ws := .code yX1_init cX1_init 2 none :: tbW) B.pre)
  have hown : s.vm.findClass RX1 = some m.cls := findClass_of_methodNamed B.named
  have hlocks := B.notSynchronized
  have hin : meth.name = "<init>" := (name_of_methodNamed B.named B.method).1
  subst hsz
  have hD := hD0.self (sz := s.heap.size)
  generalize hAe : va_A [(h0, .inr (1, [.null, .null, .int 0, .int 0]))] s.heap.size = A at hD ⊢
  have hA : ∀ q : Nat, s.heap.size ≤ q → A q := fun q h => by rw [← hAe]; exact Or.inr h
  have hS : va_S A s.heap s.heap [] := va_S.rf
  have hP : va_P D classes [(h0, .inr (1, [.null, .null, .int 0, .int 0]))] s.heap := hP
  have hl := lv_entry ([.ref h0, .int 8]) (n := 2) (Nat.le_of_ble_eq_true rfl)
  rw [lg_entry_eq]
  generalize (lg_sl ([.ref h0, .int 8]) ++ List.replicate (2 - (lg_sl ([.ref h0, .int 8])).length) Slot.unset).toArray = ls at hl ⊢
  have hl : lv_has ls 2 [(0, .ref h0), (1, .int 8)] := hl
  refine lv_aload_n hx hb dX1_init_0 rfl (lv_at hl 0 rfl) ?_
  refine W.objInit hx hb hown (hts (Cond.methodLink "NestedTags$Names" 1 objectInit) kk_1_78) (hts (Cond.instanceMethod objectInit) kk_1_17) (hts _ kk_obj) rfl (by rw [hml]; exact hl.1) rfl dX1_init_1 (Nat.le_of_ble_eq_true rfl) (Nat.le_of_ble_eq_true rfl) ?_
  refine W.eq (g2 := F0 m 4 ls []) rfl ?_
  refine lv_aload_n hx hb dX1_init_4 rfl (lv_at hl 0 rfl) ?_
  refine lv_iload_n hx hb dX1_init_5 rfl (lv_at hl 1 rfl) ?_
  refine lv_iconst (v := 0) hx hb dX1_init_6 (by decide) ?_
  refine va_mmax hx hb (by rw [hml, hl.1]) hown (hts (Cond.methodLink "NestedTags$Names" 7 Lib.Math.max.name) kk_1_79) (hts (Cond.static Lib.Math.max.name) kk_1_80) (hts (Cond.initialized "java/lang/Math") kk_1_5) (hts _ kk_mmax) (Nat.le_of_ble_eq_true rfl) (Nat.le_of_ble_eq_true rfl) (Nat.le_of_ble_eq_true rfl) (Nat.le_of_ble_eq_true rfl) dX1_init_7 ?_
  refine lv_topi (fun x_1 ex_1 => ?_)
  obtain rfl : x_1 = 8 := by rw [ex_1]; decide
  refine va_putF (D := D) (ci := 1) (v := .int 8) (ty := .int) (C := RX1) (T := TX1) (N := 4) hx hb hts inX1 tyX1 tyX1_ok nmX1 hown hK hP hD hS 0 rfl rfl 2 (by decide) (hts (Cond.fieldLink "NestedTags$Names" 13 "NestedTags$Names" "limit" "I") kk_1_84) (fun _ h9 => h9) rfl hin rfl (by decide +kernel) rfl rfl (Nat.le_of_ble_eq_true rfl) dX1_init_10 (fun H locs hP hD hS => ?_)
  have hP : va_P D classes [(h0, .inr (1, [.null, .null, .int 8, .int 0]))] H := hP
  have hD : va_D A [(h0, .inr (1, [.null, .null, .int 8, .int 0]))] := hD
  refine lv_aload_n hx hb dX1_init_13 rfl (lv_at hl 0 rfl) ?_
  refine lv_aload_n hx hb dX1_init_14 rfl (lv_at hl 0 rfl) ?_
  refine va_get (D := D) (ci := 1) (v := .int 8) (C := RX1) (T := TX1) (N := 4) hx hb hts inX1 hown hK hP 0 rfl rfl 2 (by decide) (hts (Cond.fieldLink "NestedTags$Names" 13 "NestedTags$Names" "limit" "I") kk_1_84) (fun _ h9 => h9) rfl dX1_init_15 ?_
  refine va_newa (atype := .int) (ty := .int) (a0 := (8, .inl (fun _ => 0))) hx hb (hts (Cond.arrayClass .int) kk_1_45) rfl hK hP hD hS hA (fun _ => by first | rfl | exact vp_cell_i) (by decide) (by decide) (by decide) (Nat.le_of_ble_eq_true rfl) (Nat.le_of_ble_eq_true rfl) dX1_init_18 (fun q_2 cA H hK2 hP hD hS => ?_)
  obtain rfl : cI = cA := cA_eq hK hK2
  have hP : va_P D classes [(h0, .inr (1, [.null, .null, .int 8, .int 0])), (q_2, .inl (cI, 8, .inl (fun _ => 0)))] H := hP
  have hD : va_D A [(h0, .inr (1, [.null, .null, .int 8, .int 0])), (q_2, .inl (cI, 8, .inl (fun _ => 0)))] := hD
  refine W.widen (k := 1) (n := 8) (by decide) (by decide) ?_
  refine va_putF (D := D) (ci := 1) (v := .ref q_2) (ty := .array .int) (C := RX1) (T := TX1) (N := 4) hx hb hts inX1 tyX1 tyX1_ok nmX1 hown hK hP hD hS 0 rfl rfl 0 (by decide) (hts (Cond.fieldLink "NestedTags$Names" 19 "NestedTags$Names" "begins" "[I") kk_1_82) (fun _ h9 => h9) rfl hin rfl (by decide +kernel) rfl rfl (Nat.le_of_ble_eq_true rfl) dX1_init_20 (fun H locs hP hD hS => ?_)
  have hP : va_P D classes [(h0, .inr (1, [.ref q_2, .null, .int 8, .int 0])), (q_2, .inl (cI, 8, .inl (fun _ => 0)))] H := hP
  have hD : va_D A [(h0, .inr (1, [.ref q_2, .null, .int 8, .int 0])), (q_2, .inl (cI, 8, .inl (fun _ => 0)))] := hD
  refine lv_aload_n hx hb dX1_init_23 rfl (lv_at hl 0 rfl) ?_
  refine lv_aload_n hx hb dX1_init_24 rfl (lv_at hl 0 rfl) ?_
  refine va_get (D := D) (ci := 1) (v := .int 8) (C := RX1) (T := TX1) (N := 4) hx hb hts inX1 hown hK hP 0 rfl rfl 2 (by decide) (hts (Cond.fieldLink "NestedTags$Names" 13 "NestedTags$Names" "limit" "I") kk_1_84) (fun _ h9 => h9) rfl dX1_init_25 ?_
  refine va_newa (atype := .int) (ty := .int) (a0 := (8, .inl (fun _ => 0))) hx hb (hts (Cond.arrayClass .int) kk_1_45) rfl hK hP hD hS hA (fun _ => by first | rfl | exact vp_cell_i) (by decide) (by decide) (by decide) (Nat.le_of_ble_eq_true rfl) (Nat.le_of_ble_eq_true rfl) dX1_init_28 (fun q_3 cA H hK2 hP hD hS => ?_)
  obtain rfl : cI = cA := cA_eq hK hK2
  have hP : va_P D classes [(h0, .inr (1, [.ref q_2, .null, .int 8, .int 0])), (q_2, .inl (cI, 8, .inl (fun _ => 0))), (q_3, .inl (cI, 8, .inl (fun _ => 0)))] H := hP
  have hD : va_D A [(h0, .inr (1, [.ref q_2, .null, .int 8, .int 0])), (q_2, .inl (cI, 8, .inl (fun _ => 0))), (q_3, .inl (cI, 8, .inl (fun _ => 0)))] := hD
  refine W.widen (k := 2) (n := 16) (by decide) (by decide) ?_
  refine va_putF (D := D) (ci := 1) (v := .ref q_3) (ty := .array .int) (C := RX1) (T := TX1) (N := 4) hx hb hts inX1 tyX1 tyX1_ok nmX1 hown hK hP hD hS 0 rfl rfl 1 (by decide) (hts (Cond.fieldLink "NestedTags$Names" 23 "NestedTags$Names" "ends" "[I") kk_1_83) (fun _ h9 => h9) rfl hin rfl (by decide +kernel) rfl rfl (Nat.le_of_ble_eq_true rfl) dX1_init_30 (fun H locs hP hD hS => ?_)
  have hP : va_P D classes [(h0, .inr (1, [.ref q_2, .ref q_3, .int 8, .int 0])), (q_2, .inl (cI, 8, .inl (fun _ => 0))), (q_3, .inl (cI, 8, .inl (fun _ => 0)))] H := hP
  have hD : va_D A [(h0, .inr (1, [.ref q_2, .ref q_3, .int 8, .int 0])), (q_2, .inl (cI, 8, .inl (fun _ => 0))), (q_3, .inl (cI, 8, .inl (fun _ => 0)))] := hD
  have hP9 := hP.sub (ws' := [(h0, .inr (1, [.ref q_2, .ref q_3, .int 8, .int 0])), (q_2, .inl (cI, 8, .inl (fun _ => 0))), (q_3, .inl (cI, 8, .inl (fun _ => 0)))]) [0, 1, 2] rfl
  have hD9 := hD.sub (ws' := [(h0, .inr (1, [.ref q_2, .ref q_3, .int 8, .int 0])), (q_2, .inl (cI, 8, .inl (fun _ => 0))), (q_3, .inl (cI, 8, .inl (fun _ => 0)))]) [0, 1, 2] (by decide) rfl
  refine W.widen (k := 2) (n := 16) (by decide) (by decide) ?_
  exact W.vret hx hb hr (fun t ht hW => ⟨⟨(q_2, q_3), rfl, trivial, by rw [ht]; exact hP9, va_K.moved hW.alike hK, hD9⟩, hS.F ht⟩) hS.2.2 dX1_init_33

set_option maxHeartbeats 4000000 in
set_option maxRecDepth 100000 in
/-- X1_clear -/
theorem c_X1_clear (l : Launch) (D : va_G) (cI : ClassId) (h0 : Nat) (ob : Nat) (on : Nat) (li : Int32) (os : Int32) (sz : Nat)   : Met l yX1_clear (.code yX1_clear cX1_clear 1 none :: tbW) ({ frames := 0, cells := 0, slots := 0, locals := 0 }) (va_Pc [.ref h0] (gP D cI [(h0, .inr (1, [.ref ob, .ref on, .int li, .int os]))] sz)) (va_Qv (fun (u : Unit) => True) (fun u => gB D cI (va_A [(h0, .inr (1, [.ref ob, .ref on, .int li, .int os]))] sz) [(h0, .inr (1, [.ref ob, .ref on, .int li, .int 0]))]) (va_A [(h0, .inr (1, [.ref ob, .ref on, .int li, .int os]))] sz)) 0 0 (va_A [(h0, .inr (1, [.ref ob, .ref on, .int li, .int os]))] sz) := by
  refine Met.ofW (cc := cX1_clear) (maxL := 1) (ret := none) (by decide) rfl ?_
  intro p e s m args below meth c s₁ B hml hv
  obtain ⟨rfl, hsz, hP, hK, hD0, hN⟩ := hv
  have hx := B.exec
  have hb := B.bytes
  have hr := B.returns
  have hts := tb_hts (atoms_spec (ws := .code yX1_clear cX1_clear 1 none :: tbW) B.pre)
  have hown : s.vm.findClass RX1 = some m.cls := findClass_of_methodNamed B.named
  have hlocks := B.notSynchronized
  subst hsz
  have hD := hD0.self (sz := s.heap.size)
  generalize hAe : va_A [(h0, .inr (1, [.ref ob, .ref on, .int li, .int os]))] s.heap.size = A at hD ⊢
  have hA : ∀ q : Nat, s.heap.size ≤ q → A q := fun q h => by rw [← hAe]; exact Or.inr h
  have hS : va_S A s.heap s.heap [] := va_S.rf
  have hP : va_P D classes [(h0, .inr (1, [.ref ob, .ref on, .int li, .int os]))] s.heap := hP
  have hl := lv_entry ([.ref h0]) (n := 1) (Nat.le_of_ble_eq_true rfl)
  rw [lg_entry_eq]
  generalize (lg_sl ([.ref h0]) ++ List.replicate (1 - (lg_sl ([.ref h0])).length) Slot.unset).toArray = ls at hl ⊢
  have hl : lv_has ls 1 [(0, .ref h0)] := hl
  refine lv_aload_n hx hb dX1_clear_0 rfl (lv_at hl 0 rfl) ?_
  refine lv_iconst (v := 0) hx hb dX1_clear_1 (by decide) ?_
  refine va_put (D := D) (ci := 1) (v := .int 0) (ty := .int) (C := RX1) (T := TX1) (N := 4) hx hb hts inX1 tyX1 tyX1_ok nmX1 hown hK hP hD hS 0 rfl rfl 3 (by decide) (hts (Cond.fieldLink "NestedTags$Names" 26 "NestedTags$Names" "size" "I") kk_1_85) (fun _ h9 => h9) rfl (by decide +kernel) rfl rfl (Nat.le_of_ble_eq_true rfl) dX1_clear_2 (fun H locs hP hD hS => ?_)
  have hP : va_P D classes [(h0, .inr (1, [.ref ob, .ref on, .int li, .int 0]))] H := hP
  have hD : va_D A [(h0, .inr (1, [.ref ob, .ref on, .int li, .int 0]))] := hD
  have hP9 := hP.sub (ws' := [(h0, .inr (1, [.ref ob, .ref on, .int li, .int 0]))]) [0] rfl
  have hD9 := hD.sub (ws' := [(h0, .inr (1, [.ref ob, .ref on, .int li, .int 0]))]) [0] (by decide) rfl
  exact W.vret hx hb hr (fun t ht hW => ⟨⟨(), rfl, trivial, by rw [ht]; exact hP9, va_K.moved hW.alike hK, hD9⟩, hS.F ht⟩) hS.2.2 dX1_clear_5

set_option maxHeartbeats 4000000 in
set_option maxRecDepth 100000 in
/-- X2_init -/
theorem c_X2_init (l : Launch) (D : va_G) (cI : ClassId) (h0 : Nat) (sz : Nat)   : Met l yX2_init (.code yX2_init cX2_init 1 none :: tbW) ({ frames := 1, cells := 4, slots := 600, locals := 12 }) (va_Pc [.ref h0] (gP D cI [(h0, .inr (2, [.null, .null, .null, .null, .int 0, .int 0]))] sz)) (va_Qv (fun (u : Nat × Nat × Nat × Nat) => True) (fun u => gB D cI (va_A [(h0, .inr (2, [.null, .null, .null, .null, .int 0, .int 0]))] sz) [(h0, .inr (2, [.ref u.1, .ref u.2.1, .ref u.2.2.1, .ref u.2.2.2, .int 0, .int 0])), (u.1, .inl (cI, 150, .inl (fun _ => 0))), (u.2.1, .inl (cI, 150, .inl (fun _ => 0))), (u.2.2.1, .inl (cI, 150, .inl (fun _ => 0))), (u.2.2.2, .inl (cI, 150, .inl (fun _ => 0)))]) (va_A [(h0, .inr (2, [.null, .null, .null, .null, .int 0, .int 0]))] sz)) 4 600 (va_A [(h0, .inr (2, [.null, .null, .null, .null, .int 0, .int 0]))] sz) := by
  refine Met.ofW (cc := cX2_init) (maxL := 1) (ret := none) (by decide) rfl ?_
  intro p e s m args below meth c s₁ B hml hv
  obtain ⟨rfl, hsz, hP, hK, hD0, hN⟩ := hv
  have hx := B.exec
  have hb := B.bytes
  have hr := B.returns
  have hts := tb_hts (atoms_spec (ws := .code yX2_init cX2_init 1 none :: tbW) B.pre)
  have hown : s.vm.findClass RX2 = some m.cls := findClass_of_methodNamed B.named
  have hlocks := B.notSynchronized
  have hin : meth.name = "<init>" := (name_of_methodNamed B.named B.method).1
  subst hsz
  have hD := hD0.self (sz := s.heap.size)
  generalize hAe : va_A [(h0, .inr (2, [.null, .null, .null, .null, .int 0, .int 0]))] s.heap.size = A at hD ⊢
  have hA : ∀ q : Nat, s.heap.size ≤ q → A q := fun q h => by rw [← hAe]; exact Or.inr h
  have hS : va_S A s.heap s.heap [] := va_S.rf
  have hP : va_P D classes [(h0, .inr (2, [.null, .null, .null, .null, .int 0, .int 0]))] s.heap := hP
  have hl := lv_entry ([.ref h0]) (n := 1) (Nat.le_of_ble_eq_true rfl)
  rw [lg_entry_eq]
  generalize (lg_sl ([.ref h0]) ++ List.replicate (1 - (lg_sl ([.ref h0])).length) Slot.unset).toArray = ls at hl ⊢
  have hl : lv_has ls 1 [(0, .ref h0)] := hl
  refine lv_aload_n hx hb dX2_init_0 rfl (lv_at hl 0 rfl) ?_
  refine W.objInit hx hb hown (hts (Cond.methodLink "NestedTags$Pieces" 3 objectInit) kk_1_51) (hts (Cond.instanceMethod objectInit) kk_1_17) (hts _ kk_obj) rfl (by rw [hml]; exact hl.1) rfl dX2_init_1 (Nat.le_of_ble_eq_true rfl) (Nat.le_of_ble_eq_true rfl) ?_
  refine W.eq (g2 := F0 m 4 ls []) rfl ?_
  refine lv_aload_n hx hb dX2_init_4 rfl (lv_at hl 0 rfl) ?_
  refine lv_sipush (v := 150) hx hb dX2_init_5 (by decide) ?_
  refine va_newa (atype := .int) (ty := .int) (a0 := (150, .inl (fun _ => 0))) hx hb (hts (Cond.arrayClass .int) kk_1_45) rfl hK hP hD hS hA (fun _ => by first | rfl | exact vp_cell_i) (by decide) (by decide) (by decide) (Nat.le_of_ble_eq_true rfl) (Nat.le_of_ble_eq_true rfl) dX2_init_8 (fun q_1 cA H hK2 hP hD hS => ?_)
  obtain rfl : cI = cA := cA_eq hK hK2
  have hP : va_P D classes [(h0, .inr (2, [.null, .null, .null, .null, .int 0, .int 0])), (q_1, .inl (cI, 150, .inl (fun _ => 0)))] H := hP
  have hD : va_D A [(h0, .inr (2, [.null, .null, .null, .null, .int 0, .int 0])), (q_1, .inl (cI, 150, .inl (fun _ => 0)))] := hD
  refine W.widen (k := 1) (n := 150) (by decide) (by decide) ?_
  refine va_putF (D := D) (ci := 2) (v := .ref q_1) (ty := .array .int) (C := RX2) (T := TX2) (N := 6) hx hb hts inX2 tyX2 tyX2_ok nmX2 hown hK hP hD hS 0 rfl rfl 0 (by decide) (hts (Cond.fieldLink "NestedTags$Pieces" 9 "NestedTags$Pieces" "kinds" "[I") kk_1_52) (fun _ h9 => h9) rfl hin rfl (by decide +kernel) rfl rfl (Nat.le_of_ble_eq_true rfl) dX2_init_10 (fun H locs hP hD hS => ?_)
  have hP : va_P D classes [(h0, .inr (2, [.ref q_1, .null, .null, .null, .int 0, .int 0])), (q_1, .inl (cI, 150, .inl (fun _ => 0)))] H := hP
  have hD : va_D A [(h0, .inr (2, [.ref q_1, .null, .null, .null, .int 0, .int 0])), (q_1, .inl (cI, 150, .inl (fun _ => 0)))] := hD
  refine lv_aload_n hx hb dX2_init_13 rfl (lv_at hl 0 rfl) ?_
  refine lv_sipush (v := 150) hx hb dX2_init_14 (by decide) ?_
  refine va_newa (atype := .int) (ty := .int) (a0 := (150, .inl (fun _ => 0))) hx hb (hts (Cond.arrayClass .int) kk_1_45) rfl hK hP hD hS hA (fun _ => by first | rfl | exact vp_cell_i) (by decide) (by decide) (by decide) (Nat.le_of_ble_eq_true rfl) (Nat.le_of_ble_eq_true rfl) dX2_init_17 (fun q_2 cA H hK2 hP hD hS => ?_)
  obtain rfl : cI = cA := cA_eq hK hK2
  have hP : va_P D classes [(h0, .inr (2, [.ref q_1, .null, .null, .null, .int 0, .int 0])), (q_1, .inl (cI, 150, .inl (fun _ => 0))), (q_2, .inl (cI, 150, .inl (fun _ => 0)))] H := hP
  have hD : va_D A [(h0, .inr (2, [.ref q_1, .null, .null, .null, .int 0, .int 0])), (q_1, .inl (cI, 150, .inl (fun _ => 0))), (q_2, .inl (cI, 150, .inl (fun _ => 0)))] := hD
  refine W.widen (k := 2) (n := 300) (by decide) (by decide) ?_
  refine va_putF (D := D) (ci := 2) (v := .ref q_2) (ty := .array .int) (C := RX2) (T := TX2) (N := 6) hx hb hts inX2 tyX2 tyX2_ok nmX2 hown hK hP hD hS 0 rfl rfl 1 (by decide) (hts (Cond.fieldLink "NestedTags$Pieces" 15 "NestedTags$Pieces" "begins" "[I") kk_1_53) (fun _ h9 => h9) rfl hin rfl (by decide +kernel) rfl rfl (Nat.le_of_ble_eq_true rfl) dX2_init_19 (fun H locs hP hD hS => ?_)
  have hP : va_P D classes [(h0, .inr (2, [.ref q_1, .ref q_2, .null, .null, .int 0, .int 0])), (q_1, .inl (cI, 150, .inl (fun _ => 0))), (q_2, .inl (cI, 150, .inl (fun _ => 0)))] H := hP
  have hD : va_D A [(h0, .inr (2, [.ref q_1, .ref q_2, .null, .null, .int 0, .int 0])), (q_1, .inl (cI, 150, .inl (fun _ => 0))), (q_2, .inl (cI, 150, .inl (fun _ => 0)))] := hD
  refine lv_aload_n hx hb dX2_init_22 rfl (lv_at hl 0 rfl) ?_
  refine lv_sipush (v := 150) hx hb dX2_init_23 (by decide) ?_
  refine va_newa (atype := .int) (ty := .int) (a0 := (150, .inl (fun _ => 0))) hx hb (hts (Cond.arrayClass .int) kk_1_45) rfl hK hP hD hS hA (fun _ => by first | rfl | exact vp_cell_i) (by decide) (by decide) (by decide) (Nat.le_of_ble_eq_true rfl) (Nat.le_of_ble_eq_true rfl) dX2_init_26 (fun q_3 cA H hK2 hP hD hS => ?_)
  obtain rfl : cI = cA := cA_eq hK hK2
  have hP : va_P D classes [(h0, .inr (2, [.ref q_1, .ref q_2, .null, .null, .int 0, .int 0])), (q_1, .inl (cI, 150, .inl (fun _ => 0))), (q_2, .inl (cI, 150, .inl (fun _ => 0))), (q_3, .inl (cI, 150, .inl (fun _ => 0)))] H := hP
  have hD : va_D A [(h0, .inr (2, [.ref q_1, .ref q_2, .null, .null, .int 0, .int 0])), (q_1, .inl (cI, 150, .inl (fun _ => 0))), (q_2, .inl (cI, 150, .inl (fun _ => 0))), (q_3, .inl (cI, 150, .inl (fun _ => 0)))] := hD
  refine W.widen (k := 3) (n := 450) (by decide) (by decide) ?_
  refine va_putF (D := D) (ci := 2) (v := .ref q_3) (ty := .array .int) (C := RX2) (T := TX2) (N := 6) hx hb hts inX2 tyX2 tyX2_ok nmX2 hown hK hP hD hS 0 rfl rfl 2 (by decide) (hts (Cond.fieldLink "NestedTags$Pieces" 18 "NestedTags$Pieces" "ends" "[I") kk_1_54) (fun _ h9 => h9) rfl hin rfl (by decide +kernel) rfl rfl (Nat.le_of_ble_eq_true rfl) dX2_init_28 (fun H locs hP hD hS => ?_)
  have hP : va_P D classes [(h0, .inr (2, [.ref q_1, .ref q_2, .ref q_3, .null, .int 0, .int 0])), (q_1, .inl (cI, 150, .inl (fun _ => 0))), (q_2, .inl (cI, 150, .inl (fun _ => 0))), (q_3, .inl (cI, 150, .inl (fun _ => 0)))] H := hP
  have hD : va_D A [(h0, .inr (2, [.ref q_1, .ref q_2, .ref q_3, .null, .int 0, .int 0])), (q_1, .inl (cI, 150, .inl (fun _ => 0))), (q_2, .inl (cI, 150, .inl (fun _ => 0))), (q_3, .inl (cI, 150, .inl (fun _ => 0)))] := hD
  refine lv_aload_n hx hb dX2_init_31 rfl (lv_at hl 0 rfl) ?_
  refine lv_sipush (v := 150) hx hb dX2_init_32 (by decide) ?_
  refine va_newa (atype := .int) (ty := .int) (a0 := (150, .inl (fun _ => 0))) hx hb (hts (Cond.arrayClass .int) kk_1_45) rfl hK hP hD hS hA (fun _ => by first | rfl | exact vp_cell_i) (by decide) (by decide) (by decide) (Nat.le_of_ble_eq_true rfl) (Nat.le_of_ble_eq_true rfl) dX2_init_35 (fun q_4 cA H hK2 hP hD hS => ?_)
  obtain rfl : cI = cA := cA_eq hK hK2
  have hP : va_P D classes [(h0, .inr (2, [.ref q_1, .ref q_2, .ref q_3, .null, .int 0, .int 0])), (q_1, .inl (cI, 150, .inl (fun _ => 0))), (q_2, .inl (cI, 150, .inl (fun _ => 0))), (q_3, .inl (cI, 150, .inl (fun _ => 0))), (q_4, .inl (cI, 150, .inl (fun _ => 0)))] H := hP
  have hD : va_D A [(h0, .inr (2, [.ref q_1, .ref q_2, .ref q_3, .null, .int 0, .int 0])), (q_1, .inl (cI, 150, .inl (fun _ => 0))), (q_2, .inl (cI, 150, .inl (fun _ => 0))), (q_3, .inl (cI, 150, .inl (fun _ => 0))), (q_4, .inl (cI, 150, .inl (fun _ => 0)))] := hD
  refine W.widen (k := 4) (n := 600) (by decide) (by decide) ?_
  refine va_putF (D := D) (ci := 2) (v := .ref q_4) (ty := .array .int) (C := RX2) (T := TX2) (N := 6) hx hb hts inX2 tyX2 tyX2_ok nmX2 hown hK hP hD hS 0 rfl rfl 3 (by decide) (hts (Cond.fieldLink "NestedTags$Pieces" 21 "NestedTags$Pieces" "depths" "[I") kk_1_55) (fun _ h9 => h9) rfl hin rfl (by decide +kernel) rfl rfl (Nat.le_of_ble_eq_true rfl) dX2_init_37 (fun H locs hP hD hS => ?_)
  have hP : va_P D classes [(h0, .inr (2, [.ref q_1, .ref q_2, .ref q_3, .ref q_4, .int 0, .int 0])), (q_1, .inl (cI, 150, .inl (fun _ => 0))), (q_2, .inl (cI, 150, .inl (fun _ => 0))), (q_3, .inl (cI, 150, .inl (fun _ => 0))), (q_4, .inl (cI, 150, .inl (fun _ => 0)))] H := hP
  have hD : va_D A [(h0, .inr (2, [.ref q_1, .ref q_2, .ref q_3, .ref q_4, .int 0, .int 0])), (q_1, .inl (cI, 150, .inl (fun _ => 0))), (q_2, .inl (cI, 150, .inl (fun _ => 0))), (q_3, .inl (cI, 150, .inl (fun _ => 0))), (q_4, .inl (cI, 150, .inl (fun _ => 0)))] := hD
  have hP9 := hP.sub (ws' := [(h0, .inr (2, [.ref q_1, .ref q_2, .ref q_3, .ref q_4, .int 0, .int 0])), (q_1, .inl (cI, 150, .inl (fun _ => 0))), (q_2, .inl (cI, 150, .inl (fun _ => 0))), (q_3, .inl (cI, 150, .inl (fun _ => 0))), (q_4, .inl (cI, 150, .inl (fun _ => 0)))]) [0, 1, 2, 3, 4] rfl
  have hD9 := hD.sub (ws' := [(h0, .inr (2, [.ref q_1, .ref q_2, .ref q_3, .ref q_4, .int 0, .int 0])), (q_1, .inl (cI, 150, .inl (fun _ => 0))), (q_2, .inl (cI, 150, .inl (fun _ => 0))), (q_3, .inl (cI, 150, .inl (fun _ => 0))), (q_4, .inl (cI, 150, .inl (fun _ => 0)))]) [0, 1, 2, 3, 4] (by decide) rfl
  refine W.widen (k := 4) (n := 600) (by decide) (by decide) ?_
  exact W.vret hx hb hr (fun t ht hW => ⟨⟨(q_1, q_2, q_3, q_4), rfl, trivial, by rw [ht]; exact hP9, va_K.moved hW.alike hK, hD9⟩, hS.F ht⟩) hS.2.2 dX2_init_40

set_option maxHeartbeats 4000000 in
set_option maxRecDepth 100000 in
/-- X2_clear -/
theorem c_X2_clear (l : Launch) (D : va_G) (cI : ClassId) (h0 : Nat) (pk : Nat) (pb : Nat) (pe : Nat) (pd : Nat) (ps : Int32) (pa : Int32) (sz : Nat)   : Met l yX2_clear (.code yX2_clear cX2_clear 1 none :: tbW) ({ frames := 0, cells := 0, slots := 0, locals := 0 }) (va_Pc [.ref h0] (gP D cI [(h0, .inr (2, [.ref pk, .ref pb, .ref pe, .ref pd, .int ps, .int pa]))] sz)) (va_Qv (fun (u : Unit) => True) (fun u => gB D cI (va_A [(h0, .inr (2, [.ref pk, .ref pb, .ref pe, .ref pd, .int ps, .int pa]))] sz) [(h0, .inr (2, [.ref pk, .ref pb, .ref pe, .ref pd, .int 0, .int 0]))]) (va_A [(h0, .inr (2, [.ref pk, .ref pb, .ref pe, .ref pd, .int ps, .int pa]))] sz)) 0 0 (va_A [(h0, .inr (2, [.ref pk, .ref pb, .ref pe, .ref pd, .int ps, .int pa]))] sz) := by
  refine Met.ofW (cc := cX2_clear) (maxL := 1) (ret := none) (by decide) rfl ?_
  intro p e s m args below meth c s₁ B hml hv
  obtain ⟨rfl, hsz, hP, hK, hD0, hN⟩ := hv
  have hx := B.exec
  have hb := B.bytes
  have hr := B.returns
  have hts := tb_hts (atoms_spec (ws := .code yX2_clear cX2_clear 1 none :: tbW) B.pre)
  have hown : s.vm.findClass RX2 = some m.cls := findClass_of_methodNamed B.named
  have hlocks := B.notSynchronized
  subst hsz
  have hD := hD0.self (sz := s.heap.size)
  generalize hAe : va_A [(h0, .inr (2, [.ref pk, .ref pb, .ref pe, .ref pd, .int ps, .int pa]))] s.heap.size = A at hD ⊢
  have hA : ∀ q : Nat, s.heap.size ≤ q → A q := fun q h => by rw [← hAe]; exact Or.inr h
  have hS : va_S A s.heap s.heap [] := va_S.rf
  have hP : va_P D classes [(h0, .inr (2, [.ref pk, .ref pb, .ref pe, .ref pd, .int ps, .int pa]))] s.heap := hP
  have hl := lv_entry ([.ref h0]) (n := 1) (Nat.le_of_ble_eq_true rfl)
  rw [lg_entry_eq]
  generalize (lg_sl ([.ref h0]) ++ List.replicate (1 - (lg_sl ([.ref h0])).length) Slot.unset).toArray = ls at hl ⊢
  have hl : lv_has ls 1 [(0, .ref h0)] := hl
  refine lv_aload_n hx hb dX2_clear_0 rfl (lv_at hl 0 rfl) ?_
  refine lv_iconst (v := 0) hx hb dX2_clear_1 (by decide) ?_
  refine va_put (D := D) (ci := 2) (v := .int 0) (ty := .int) (C := RX2) (T := TX2) (N := 6) hx hb hts inX2 tyX2 tyX2_ok nmX2 hown hK hP hD hS 0 rfl rfl 4 (by decide) (hts (Cond.fieldLink "NestedTags$Pieces" 24 "NestedTags$Pieces" "size" "I") kk_1_56) (fun _ h9 => h9) rfl (by decide +kernel) rfl rfl (Nat.le_of_ble_eq_true rfl) dX2_clear_2 (fun H locs hP hD hS => ?_)
  have hP : va_P D classes [(h0, .inr (2, [.ref pk, .ref pb, .ref pe, .ref pd, .int 0, .int pa]))] H := hP
  have hD : va_D A [(h0, .inr (2, [.ref pk, .ref pb, .ref pe, .ref pd, .int 0, .int pa]))] := hD
  refine lv_aload_n hx hb dX2_clear_5 rfl (lv_at hl 0 rfl) ?_
  refine lv_iconst (v := 0) hx hb dX2_clear_6 (by decide) ?_
  refine va_put (D := D) (ci := 2) (v := .int 0) (ty := .int) (C := RX2) (T := TX2) (N := 6) hx hb hts inX2 tyX2 tyX2_ok nmX2 hown hK hP hD hS 0 rfl rfl 5 (by decide) (hts (Cond.fieldLink "NestedTags$Pieces" 28 "NestedTags$Pieces" "attributes" "I") kk_1_58) (fun _ h9 => h9) rfl (by decide +kernel) rfl rfl (Nat.le_of_ble_eq_true rfl) dX2_clear_7 (fun H locs hP hD hS => ?_)
  have hP : va_P D classes [(h0, .inr (2, [.ref pk, .ref pb, .ref pe, .ref pd, .int 0, .int 0]))] H := hP
  have hD : va_D A [(h0, .inr (2, [.ref pk, .ref pb, .ref pe, .ref pd, .int 0, .int 0]))] := hD
  have hP9 := hP.sub (ws' := [(h0, .inr (2, [.ref pk, .ref pb, .ref pe, .ref pd, .int 0, .int 0]))]) [0] rfl
  have hD9 := hD.sub (ws' := [(h0, .inr (2, [.ref pk, .ref pb, .ref pe, .ref pd, .int 0, .int 0]))]) [0] (by decide) rfl
  exact W.vret hx hb hr (fun t ht hW => ⟨⟨(), rfl, trivial, by rw [ht]; exact hP9, va_K.moved hW.alike hK, hD9⟩, hS.F ht⟩) hS.2.2 dX2_clear_10

set_option maxHeartbeats 4000000 in
set_option maxRecDepth 100000 in
/-- X2_tell -/
theorem c_X2_tell (l : Launch) (D : va_G) (cI : ClassId) (h0 : Nat) (pk : Nat) (pb : Nat) (pe : Nat) (pd : Nat) (ps : Int32) (pa : Int32) (k1 : Nat → Int32) (k2 : Nat → Int32) (k3 : Nat → Int32) (k4 : Nat → Int32) (sz : Nat) (p1 : Int32) (p2 : Int32)  : Met l yX2_tell (.code yX2_tell cX2_tell 3 (some .int) :: tbW) ({ frames := 0, cells := 0, slots := 0, locals := 0 }) (va_Pc [.ref h0, .int p1, .int p2] (gP D cI [(h0, .inr (2, [.ref pk, .ref pb, .ref pe, .ref pd, .int ps, .int pa])), (pk, .inl (cI, 150, .inl k1)), (pb, .inl (cI, 150, .inl k2)), (pe, .inl (cI, 150, .inl k3)), (pd, .inl (cI, 150, .inl k4))] sz)) (va_Qi (fun (r : Int32) (u : Unit) => ps = 0 → r = -1) (fun u => gB D cI (va_A [(h0, .inr (2, [.ref pk, .ref pb, .ref pe, .ref pd, .int ps, .int pa])), (pk, .inl (cI, 150, .inl k1)), (pb, .inl (cI, 150, .inl k2)), (pe, .inl (cI, 150, .inl k3)), (pd, .inl (cI, 150, .inl k4))] sz) [(h0, .inr (2, [.ref pk, .ref pb, .ref pe, .ref pd, .int ps, .int pa])), (pk, .inl (cI, 150, .inl k1)), (pb, .inl (cI, 150, .inl k2)), (pe, .inl (cI, 150, .inl k3)), (pd, .inl (cI, 150, .inl k4))]) (va_A [(h0, .inr (2, [.ref pk, .ref pb, .ref pe, .ref pd, .int ps, .int pa])), (pk, .inl (cI, 150, .inl k1)), (pb, .inl (cI, 150, .inl k2)), (pe, .inl (cI, 150, .inl k3)), (pd, .inl (cI, 150, .inl k4))] sz)) 0 0 (va_A [(h0, .inr (2, [.ref pk, .ref pb, .ref pe, .ref pd, .int ps, .int pa])), (pk, .inl (cI, 150, .inl k1)), (pb, .inl (cI, 150, .inl k2)), (pe, .inl (cI, 150, .inl k3)), (pd, .inl (cI, 150, .inl k4))] sz) := by
  refine Met.ofW (cc := cX2_tell) (maxL := 3) (ret := (some .int)) (by decide) rfl ?_
  intro p e s m args below meth c s₁ B hml hv
  obtain ⟨rfl, hsz, hP, hK, hD0, hN⟩ := hv
  have hx := B.exec
  have hb := B.bytes
  have hr := B.returns
  have hts := tb_hts (atoms_spec (ws := .code yX2_tell cX2_tell 3 (some .int) :: tbW) B.pre)
  have hown : s.vm.findClass RX2 = some m.cls := findClass_of_methodNamed B.named
  have hlocks := B.notSynchronized
  subst hsz
  have hD := hD0.self (sz := s.heap.size)
  generalize hAe : va_A [(h0, .inr (2, [.ref pk, .ref pb, .ref pe, .ref pd, .int ps, .int pa])), (pk, .inl (cI, 150, .inl k1)), (pb, .inl (cI, 150, .inl k2)), (pe, .inl (cI, 150, .inl k3)), (pd, .inl (cI, 150, .inl k4))] s.heap.size = A at hD ⊢
  have hA : ∀ q : Nat, s.heap.size ≤ q → A q := fun q h => by rw [← hAe]; exact Or.inr h
  have hS : va_S A s.heap s.heap [] := va_S.rf
  have hP : va_P D classes [(h0, .inr (2, [.ref pk, .ref pb, .ref pe, .ref pd, .int ps, .int pa])), (pk, .inl (cI, 150, .inl k1)), (pb, .inl (cI, 150, .inl k2)), (pe, .inl (cI, 150, .inl k3)), (pd, .inl (cI, 150, .inl k4))] s.heap := hP
  have hl := lv_entry ([.ref h0, .int p1, .int p2]) (n := 3) (Nat.le_of_ble_eq_true rfl)
  rw [lg_entry_eq]
  generalize (lg_sl ([.ref h0, .int p1, .int p2]) ++ List.replicate (3 - (lg_sl ([.ref h0, .int p1, .int p2])).length) Slot.unset).toArray = ls at hl ⊢
  have hl : lv_has ls 3 [(0, .ref h0), (1, .int p1), (2, .int p2)] := hl
  refine lv_iload_n hx hb dX2_tell_0 rfl (lv_at hl 1 rfl) ?_
  refine lv_if_lt (tgt := 19) hx hb dX2_tell_1 (by decide) (fun c_1 => ?_) (fun c_1 => ?_)
  · skip
    refine lv_iconst (v := (-1)) hx hb dX2_tell_19 (by decide) ?_
    have hP9 := hP.sub (ws' := [(h0, .inr (2, [.ref pk, .ref pb, .ref pe, .ref pd, .int ps, .int pa])), (pk, .inl (cI, 150, .inl k1)), (pb, .inl (cI, 150, .inl k2)), (pe, .inl (cI, 150, .inl k3)), (pd, .inl (cI, 150, .inl k4))]) [0, 1, 2, 3, 4] rfl
    have hD9 := hD.sub (ws' := [(h0, .inr (2, [.ref pk, .ref pb, .ref pe, .ref pd, .int ps, .int pa])), (pk, .inl (cI, 150, .inl k1)), (pb, .inl (cI, 150, .inl k2)), (pe, .inl (cI, 150, .inl k3)), (pd, .inl (cI, 150, .inl k4))]) [0, 1, 2, 3, 4] (by decide) rfl
    exact W.iret (v := (-1)) hx hb hr (fun t ht hW => ⟨⟨(-1), (), rfl, fun _ => rfl, by rw [ht]; exact hP9, va_K.moved hW.alike hK, hD9⟩, hS.F ht⟩) hS.2.2 dX2_tell_20
  · skip
    refine lv_iload_n hx hb dX2_tell_4 rfl (lv_at hl 1 rfl) ?_
    refine lv_aload_n hx hb dX2_tell_5 rfl (lv_at hl 0 rfl) ?_
    refine va_get (D := D) (ci := 2) (v := .int ps) (C := RX2) (T := TX2) (N := 6) hx hb hts inX2 hown hK hP 0 rfl rfl 4 (by decide) (hts (Cond.fieldLink "NestedTags$Pieces" 24 "NestedTags$Pieces" "size" "I") kk_1_56) (fun _ h9 => h9) rfl dX2_tell_6 ?_
    refine lv_icmp_ge (tgt := 19) hx hb dX2_tell_9 (by decide) (fun c_9 => ?_) (fun c_9 => ?_)
    · skip
      refine lv_iconst (v := (-1)) hx hb dX2_tell_19 (by decide) ?_
      have hP9 := hP.sub (ws' := [(h0, .inr (2, [.ref pk, .ref pb, .ref pe, .ref pd, .int ps, .int pa])), (pk, .inl (cI, 150, .inl k1)), (pb, .inl (cI, 150, .inl k2)), (pe, .inl (cI, 150, .inl k3)), (pd, .inl (cI, 150, .inl k4))]) [0, 1, 2, 3, 4] rfl
      have hD9 := hD.sub (ws' := [(h0, .inr (2, [.ref pk, .ref pb, .ref pe, .ref pd, .int ps, .int pa])), (pk, .inl (cI, 150, .inl k1)), (pb, .inl (cI, 150, .inl k2)), (pe, .inl (cI, 150, .inl k3)), (pd, .inl (cI, 150, .inl k4))]) [0, 1, 2, 3, 4] (by decide) rfl
      exact W.iret (v := (-1)) hx hb hr (fun t ht hW => ⟨⟨(-1), (), rfl, fun _ => rfl, by rw [ht]; exact hP9, va_K.moved hW.alike hK, hD9⟩, hS.F ht⟩) hS.2.2 dX2_tell_20
    · skip
      refine lv_iload_n hx hb dX2_tell_12 rfl (lv_at hl 1 rfl) ?_
      refine lv_sipush (v := 150) hx hb dX2_tell_13 (by decide) ?_
      refine lv_icmp_lt (tgt := 21) hx hb dX2_tell_16 (by decide) (fun c_16 => ?_) (fun c_16 => ?_)
      · skip
        refine lv_iload_n hx hb dX2_tell_21 rfl (lv_at hl 2 rfl) ?_
        by_cases s_22_0 : p2 = 0
        · refine lv_tableIn (off := 30) (tgt := 52) hx hb dX2_tell_22 (by rw [s_22_0]; decide) (by rw [s_22_0]; decide) (by rw [s_22_0]; decide) (by decide) ?_
          refine lv_aload_n hx hb dX2_tell_52 rfl (lv_at hl 0 rfl) ?_
          refine va_get (D := D) (ci := 2) (v := .ref pk) (C := RX2) (T := TX2) (N := 6) hx hb hts inX2 hown hK hP 0 rfl rfl 0 (by decide) (hts (Cond.fieldLink "NestedTags$Pieces" 9 "NestedTags$Pieces" "kinds" "[I") kk_1_52) (fun _ h9 => h9) rfl dX2_tell_53 ?_
          refine lv_iload_n hx hb dX2_tell_56 rfl (lv_at hl 1 rfl) ?_
          refine va_iald hx hb hK hP 1 0 rfl rfl (vin_of c_1 (nlt150 c_16) (by decide)) dX2_tell_57 ?_
          refine lv_topi (fun x_1 ex_1 => ?_)
          have hP9 := hP.sub (ws' := [(h0, .inr (2, [.ref pk, .ref pb, .ref pe, .ref pd, .int ps, .int pa])), (pk, .inl (cI, 150, .inl k1)), (pb, .inl (cI, 150, .inl k2)), (pe, .inl (cI, 150, .inl k3)), (pd, .inl (cI, 150, .inl k4))]) [0, 1, 2, 3, 4] rfl
          have hD9 := hD.sub (ws' := [(h0, .inr (2, [.ref pk, .ref pb, .ref pe, .ref pd, .int ps, .int pa])), (pk, .inl (cI, 150, .inl k1)), (pb, .inl (cI, 150, .inl k2)), (pe, .inl (cI, 150, .inl k3)), (pd, .inl (cI, 150, .inl k4))]) [0, 1, 2, 3, 4] (by decide) rfl
          exact W.iret (v := x_1) hx hb hr (fun t ht hW => ⟨⟨x_1, (), rfl, fun q => absurd c_9 (by rw [q]; exact fun z => z (Int32.not_lt.mp c_1)), by rw [ht]; exact hP9, va_K.moved hW.alike hK, hD9⟩, hS.F ht⟩) hS.2.2 dX2_tell_58
        by_cases s_22_1 : p2 = 1
        · refine lv_tableIn (off := 37) (tgt := 59) hx hb dX2_tell_22 (by rw [s_22_1]; decide) (by rw [s_22_1]; decide) (by rw [s_22_1]; decide) (by decide) ?_
          refine lv_aload_n hx hb dX2_tell_59 rfl (lv_at hl 0 rfl) ?_
          refine va_get (D := D) (ci := 2) (v := .ref pb) (C := RX2) (T := TX2) (N := 6) hx hb hts inX2 hown hK hP 0 rfl rfl 1 (by decide) (hts (Cond.fieldLink "NestedTags$Pieces" 15 "NestedTags$Pieces" "begins" "[I") kk_1_53) (fun _ h9 => h9) rfl dX2_tell_60 ?_
          refine lv_iload_n hx hb dX2_tell_63 rfl (lv_at hl 1 rfl) ?_
          refine va_iald hx hb hK hP 2 0 rfl rfl (vin_of c_1 (nlt150 c_16) (by decide)) dX2_tell_64 ?_
          refine lv_topi (fun x_2 ex_2 => ?_)
          have hP9 := hP.sub (ws' := [(h0, .inr (2, [.ref pk, .ref pb, .ref pe, .ref pd, .int ps, .int pa])), (pk, .inl (cI, 150, .inl k1)), (pb, .inl (cI, 150, .inl k2)), (pe, .inl (cI, 150, .inl k3)), (pd, .inl (cI, 150, .inl k4))]) [0, 1, 2, 3, 4] rfl
          have hD9 := hD.sub (ws' := [(h0, .inr (2, [.ref pk, .ref pb, .ref pe, .ref pd, .int ps, .int pa])), (pk, .inl (cI, 150, .inl k1)), (pb, .inl (cI, 150, .inl k2)), (pe, .inl (cI, 150, .inl k3)), (pd, .inl (cI, 150, .inl k4))]) [0, 1, 2, 3, 4] (by decide) rfl
          exact W.iret (v := x_2) hx hb hr (fun t ht hW => ⟨⟨x_2, (), rfl, fun q => absurd c_9 (by rw [q]; exact fun z => z (Int32.not_lt.mp c_1)), by rw [ht]; exact hP9, va_K.moved hW.alike hK, hD9⟩, hS.F ht⟩) hS.2.2 dX2_tell_65
        by_cases s_22_2 : p2 = 2
        · refine lv_tableIn (off := 44) (tgt := 66) hx hb dX2_tell_22 (by rw [s_22_2]; decide) (by rw [s_22_2]; decide) (by rw [s_22_2]; decide) (by decide) ?_
          refine lv_aload_n hx hb dX2_tell_66 rfl (lv_at hl 0 rfl) ?_
          refine va_get (D := D) (ci := 2) (v := .ref pe) (C := RX2) (T := TX2) (N := 6) hx hb hts inX2 hown hK hP 0 rfl rfl 2 (by decide) (hts (Cond.fieldLink "NestedTags$Pieces" 18 "NestedTags$Pieces" "ends" "[I") kk_1_54) (fun _ h9 => h9) rfl dX2_tell_67 ?_
          refine lv_iload_n hx hb dX2_tell_70 rfl (lv_at hl 1 rfl) ?_
          refine va_iald hx hb hK hP 3 0 rfl rfl (vin_of c_1 (nlt150 c_16) (by decide)) dX2_tell_71 ?_
          refine lv_topi (fun x_3 ex_3 => ?_)
          have hP9 := hP.sub (ws' := [(h0, .inr (2, [.ref pk, .ref pb, .ref pe, .ref pd, .int ps, .int pa])), (pk, .inl (cI, 150, .inl k1)), (pb, .inl (cI, 150, .inl k2)), (pe, .inl (cI, 150, .inl k3)), (pd, .inl (cI, 150, .inl k4))]) [0, 1, 2, 3, 4] rfl
          have hD9 := hD.sub (ws' := [(h0, .inr (2, [.ref pk, .ref pb, .ref pe, .ref pd, .int ps, .int pa])), (pk, .inl (cI, 150, .inl k1)), (pb, .inl (cI, 150, .inl k2)), (pe, .inl (cI, 150, .inl k3)), (pd, .inl (cI, 150, .inl k4))]) [0, 1, 2, 3, 4] (by decide) rfl
          exact W.iret (v := x_3) hx hb hr (fun t ht hW => ⟨⟨x_3, (), rfl, fun q => absurd c_9 (by rw [q]; exact fun z => z (Int32.not_lt.mp c_1)), by rw [ht]; exact hP9, va_K.moved hW.alike hK, hD9⟩, hS.F ht⟩) hS.2.2 dX2_tell_72
        by_cases s_22_3 : p2 = 3
        · refine lv_tableIn (off := 51) (tgt := 73) hx hb dX2_tell_22 (by rw [s_22_3]; decide) (by rw [s_22_3]; decide) (by rw [s_22_3]; decide) (by decide) ?_
          refine lv_aload_n hx hb dX2_tell_73 rfl (lv_at hl 0 rfl) ?_
          refine va_get (D := D) (ci := 2) (v := .ref pd) (C := RX2) (T := TX2) (N := 6) hx hb hts inX2 hown hK hP 0 rfl rfl 3 (by decide) (hts (Cond.fieldLink "NestedTags$Pieces" 21 "NestedTags$Pieces" "depths" "[I") kk_1_55) (fun _ h9 => h9) rfl dX2_tell_74 ?_
          refine lv_iload_n hx hb dX2_tell_77 rfl (lv_at hl 1 rfl) ?_
          refine va_iald hx hb hK hP 4 0 rfl rfl (vin_of c_1 (nlt150 c_16) (by decide)) dX2_tell_78 ?_
          refine lv_topi (fun x_4 ex_4 => ?_)
          have hP9 := hP.sub (ws' := [(h0, .inr (2, [.ref pk, .ref pb, .ref pe, .ref pd, .int ps, .int pa])), (pk, .inl (cI, 150, .inl k1)), (pb, .inl (cI, 150, .inl k2)), (pe, .inl (cI, 150, .inl k3)), (pd, .inl (cI, 150, .inl k4))]) [0, 1, 2, 3, 4] rfl
          have hD9 := hD.sub (ws' := [(h0, .inr (2, [.ref pk, .ref pb, .ref pe, .ref pd, .int ps, .int pa])), (pk, .inl (cI, 150, .inl k1)), (pb, .inl (cI, 150, .inl k2)), (pe, .inl (cI, 150, .inl k3)), (pd, .inl (cI, 150, .inl k4))]) [0, 1, 2, 3, 4] (by decide) rfl
          exact W.iret (v := x_4) hx hb hr (fun t ht hW => ⟨⟨x_4, (), rfl, fun q => absurd c_9 (by rw [q]; exact fun z => z (Int32.not_lt.mp c_1)), by rw [ht]; exact hP9, va_K.moved hW.alike hK, hD9⟩, hS.F ht⟩) hS.2.2 dX2_tell_79
        refine lv_tableOut (tgt := 80) hx hb dX2_tell_22 (by have := lv_neT s_22_0 (a := 0) rfl; have := lv_neT s_22_1 (a := 1) rfl; have := lv_neT s_22_2 (a := 2) rfl; have := lv_neT s_22_3 (a := 3) rfl; omega) (by decide) ?_
        refine lv_iconst (v := (-1)) hx hb dX2_tell_80 (by decide) ?_
        have hP9 := hP.sub (ws' := [(h0, .inr (2, [.ref pk, .ref pb, .ref pe, .ref pd, .int ps, .int pa])), (pk, .inl (cI, 150, .inl k1)), (pb, .inl (cI, 150, .inl k2)), (pe, .inl (cI, 150, .inl k3)), (pd, .inl (cI, 150, .inl k4))]) [0, 1, 2, 3, 4] rfl
        have hD9 := hD.sub (ws' := [(h0, .inr (2, [.ref pk, .ref pb, .ref pe, .ref pd, .int ps, .int pa])), (pk, .inl (cI, 150, .inl k1)), (pb, .inl (cI, 150, .inl k2)), (pe, .inl (cI, 150, .inl k3)), (pd, .inl (cI, 150, .inl k4))]) [0, 1, 2, 3, 4] (by decide) rfl
        exact W.iret (v := (-1)) hx hb hr (fun t ht hW => ⟨⟨(-1), (), rfl, fun _ => rfl, by rw [ht]; exact hP9, va_K.moved hW.alike hK, hD9⟩, hS.F ht⟩) hS.2.2 dX2_tell_81
      · skip
        refine lv_iconst (v := (-1)) hx hb dX2_tell_19 (by decide) ?_
        have hP9 := hP.sub (ws' := [(h0, .inr (2, [.ref pk, .ref pb, .ref pe, .ref pd, .int ps, .int pa])), (pk, .inl (cI, 150, .inl k1)), (pb, .inl (cI, 150, .inl k2)), (pe, .inl (cI, 150, .inl k3)), (pd, .inl (cI, 150, .inl k4))]) [0, 1, 2, 3, 4] rfl
        have hD9 := hD.sub (ws' := [(h0, .inr (2, [.ref pk, .ref pb, .ref pe, .ref pd, .int ps, .int pa])), (pk, .inl (cI, 150, .inl k1)), (pb, .inl (cI, 150, .inl k2)), (pe, .inl (cI, 150, .inl k3)), (pd, .inl (cI, 150, .inl k4))]) [0, 1, 2, 3, 4] (by decide) rfl
        exact W.iret (v := (-1)) hx hb hr (fun t ht hW => ⟨⟨(-1), (), rfl, fun _ => rfl, by rw [ht]; exact hP9, va_K.moved hW.alike hK, hD9⟩, hS.F ht⟩) hS.2.2 dX2_tell_20

set_option maxHeartbeats 4000000 in
set_option maxRecDepth 100000 in
/-- NestedTags(): all 15 cells -/
theorem c_X3_init (l : Launch) (D : va_G) (cI : ClassId) (h0 : Nat) (sz : Nat)   : Met l yX3_init (.code yX3_init cX3_init 1 none :: tbW) ({ frames := 2, cells := 14, slots := 1675, locals := 36 }) (va_Pc [.ref h0] (gP D cI [(h0, .inr (3, [.null, .int 0, .null, .null, .null, .null, .int 0, .int 0, .int 0, .int 0, .int 0, .int 0, .int 0, .int 0]))] sz)) (va_Qv (fun (u : Nat × Nat × Nat × Nat × Nat × Nat × Nat × Nat × Nat × Nat × Nat × Nat × Nat × Nat) => True) (fun u => gB D cI (va_A [(h0, .inr (3, [.null, .int 0, .null, .null, .null, .null, .int 0, .int 0, .int 0, .int 0, .int 0, .int 0, .int 0, .int 0]))] sz) [(h0, .inr (3, [.ref u.1, .int 0, .ref u.2.1, .ref u.2.2.2.1, .ref u.2.2.2.2.2.2.2.2.1, .ref u.2.2.2.2.2.2.2.2.2.2.2.1, .int 0, .int 0, .int 0, .int 0, .int 0, .int 0, .int 0, .int (-1)])), (u.1, .inl (cI, 500, .inl (fun _ => 0))), (u.2.1, .inr (0, [.ref u.2.2.1, .int 0, .int 0, .int 0, .int (-1)])), (u.2.2.1, .inl (cI, 500, .inl (fun _ => 0))), (u.2.2.2.1, .inr (2, [.ref u.2.2.2.2.1, .ref u.2.2.2.2.2.1, .ref u.2.2.2.2.2.2.1, .ref u.2.2.2.2.2.2.2.1, .int 0, .int 0])), (u.2.2.2.2.1, .inl (cI, 150, .inl (fun _ => 0))), (u.2.2.2.2.2.1, .inl (cI, 150, .inl (fun _ => 0))), (u.2.2.2.2.2.2.1, .inl (cI, 150, .inl (fun _ => 0))), (u.2.2.2.2.2.2.2.1, .inl (cI, 150, .inl (fun _ => 0))), (u.2.2.2.2.2.2.2.2.1, .inr (1, [.ref u.2.2.2.2.2.2.2.2.2.1, .ref u.2.2.2.2.2.2.2.2.2.2.1, .int 20, .int 0])), (u.2.2.2.2.2.2.2.2.2.1, .inl (cI, 20, .inl (fun _ => 0))), (u.2.2.2.2.2.2.2.2.2.2.1, .inl (cI, 20, .inl (fun _ => 0))), (u.2.2.2.2.2.2.2.2.2.2.2.1, .inr (1, [.ref u.2.2.2.2.2.2.2.2.2.2.2.2.1, .ref u.2.2.2.2.2.2.2.2.2.2.2.2.2, .int 8, .int 0])), (u.2.2.2.2.2.2.2.2.2.2.2.2.1, .inl (cI, 8, .inl (fun _ => 0))), (u.2.2.2.2.2.2.2.2.2.2.2.2.2, .inl (cI, 8, .inl (fun _ => 0)))]) (va_A [(h0, .inr (3, [.null, .int 0, .null, .null, .null, .null, .int 0, .int 0, .int 0, .int 0, .int 0, .int 0, .int 0, .int 0]))] sz)) 14 1675 (va_A [(h0, .inr (3, [.null, .int 0, .null, .null, .null, .null, .int 0, .int 0, .int 0, .int 0, .int 0, .int 0, .int 0, .int 0]))] sz) := by
  refine Met.ofW (cc := cX3_init) (maxL := 1) (ret := none) (by decide) rfl ?_
  intro p e s m args below meth c s₁ B hml hv
  obtain ⟨rfl, hsz, hP, hK, hD0, hN⟩ := hv
  have hx := B.exec
  have hb := B.bytes
  have hr := B.returns
  have hts := tb_hts (atoms_spec (ws := .code yX3_init cX3_init 1 none :: tbW) B.pre)
  have hown : s.vm.findClass RX3 = some m.cls := findClass_of_methodNamed B.named
  have hlocks := B.notSynchronized
  have hin : meth.name = "<init>" := (name_of_methodNamed B.named B.method).1
  subst hsz
  have hD := hD0.self (sz := s.heap.size)
  generalize hAe : va_A [(h0, .inr (3, [.null, .int 0, .null, .null, .null, .null, .int 0, .int 0, .int 0, .int 0, .int 0, .int 0, .int 0, .int 0]))] s.heap.size = A at hD ⊢
  have hA : ∀ q : Nat, s.heap.size ≤ q → A q := fun q h => by rw [← hAe]; exact Or.inr h
  have hS : va_S A s.heap s.heap [] := va_S.rf
  have hP : va_P D classes [(h0, .inr (3, [.null, .int 0, .null, .null, .null, .null, .int 0, .int 0, .int 0, .int 0, .int 0, .int 0, .int 0, .int 0]))] s.heap := hP
  have hl := lv_entry ([.ref h0]) (n := 1) (Nat.le_of_ble_eq_true rfl)
  rw [lg_entry_eq]
  generalize (lg_sl ([.ref h0]) ++ List.replicate (1 - (lg_sl ([.ref h0])).length) Slot.unset).toArray = ls at hl ⊢
  have hl : lv_has ls 1 [(0, .ref h0)] := hl
  refine lv_aload_n hx hb dX3_init_0 rfl (lv_at hl 0 rfl) ?_
  refine W.objInit hx hb hown (hts (Cond.methodLink "NestedTags" 1 objectInit) kk_1_16) (hts (Cond.instanceMethod objectInit) kk_1_17) (hts _ kk_obj) rfl (by rw [hml]; exact hl.1) rfl dX3_init_1 (Nat.le_of_ble_eq_true rfl) (Nat.le_of_ble_eq_true rfl) ?_
  refine W.eq (g2 := F0 m 4 ls []) rfl ?_
  refine lv_aload_n hx hb dX3_init_4 rfl (lv_at hl 0 rfl) ?_
  refine lv_sipush (v := 500) hx hb dX3_init_5 (by decide) ?_
  refine va_newa (atype := .int) (ty := .int) (a0 := (500, .inl (fun _ => 0))) hx hb (hts (Cond.arrayClass .int) kk_1_45) rfl hK hP hD hS hA (fun _ => by first | rfl | exact vp_cell_i) (by decide) (by decide) (by decide) (Nat.le_of_ble_eq_true rfl) (Nat.le_of_ble_eq_true rfl) dX3_init_8 (fun q_1 cA H hK2 hP hD hS => ?_)
  obtain rfl : cI = cA := cA_eq hK hK2
  have hP : va_P D classes [(h0, .inr (3, [.null, .int 0, .null, .null, .null, .null, .int 0, .int 0, .int 0, .int 0, .int 0, .int 0, .int 0, .int 0])), (q_1, .inl (cI, 500, .inl (fun _ => 0)))] H := hP
  have hD : va_D A [(h0, .inr (3, [.null, .int 0, .null, .null, .null, .null, .int 0, .int 0, .int 0, .int 0, .int 0, .int 0, .int 0, .int 0])), (q_1, .inl (cI, 500, .inl (fun _ => 0)))] := hD
  refine W.widen (k := 1) (n := 500) (by decide) (by decide) ?_
  refine va_put (D := D) (ci := 3) (v := .ref q_1) (ty := .array .int) (C := RX3) (T := TX3) (N := 14) hx hb hts inX3 tyX3 tyX3_ok nmX3 hown hK hP hD hS 0 rfl rfl 0 (by decide) (hts (Cond.fieldLink "NestedTags" 9 "NestedTags" "coming" "[I") kk_1_96) (fun _ h9 => h9) rfl (by decide +kernel) rfl rfl (Nat.le_of_ble_eq_true rfl) dX3_init_10 (fun H locs hP hD hS => ?_)
  have hP : va_P D classes [(h0, .inr (3, [.ref q_1, .int 0, .null, .null, .null, .null, .int 0, .int 0, .int 0, .int 0, .int 0, .int 0, .int 0, .int 0])), (q_1, .inl (cI, 500, .inl (fun _ => 0)))] H := hP
  have hD : va_D A [(h0, .inr (3, [.ref q_1, .int 0, .null, .null, .null, .null, .int 0, .int 0, .int 0, .int 0, .int 0, .int 0, .int 0, .int 0])), (q_1, .inl (cI, 500, .inl (fun _ => 0)))] := hD
  refine lv_aload_n hx hb dX3_init_13 rfl (lv_at hl 0 rfl) ?_
  refine va_new (D := D) (ci := 0) (fs := [.null, .int 0, .int 0, .int 0, .int 0]) (C := RX0) (T := TX0) (N := 5) hx hb hts inX0 tyX0 tyX0_ok hown (hts (Cond.classLink "NestedTags" 13 "NestedTags$Cursor") kk_1_19) (hts (Cond.instantiable "NestedTags$Cursor" 5) kk_1_20) (hts (Cond.initialized "NestedTags$Cursor") kk_1_2) hK hP hD hS hA rfl (fun j hj => by rcases (show j = 0 ∨ j = 1 ∨ j = 2 ∨ j = 3 ∨ j = 4 by omega) with rfl | rfl | rfl | rfl | rfl <;> rfl) (Nat.le_of_ble_eq_true rfl) (Nat.le_of_ble_eq_true rfl) dX3_init_14 (fun q_2 H hP hD hS => ?_)
  have hP : va_P D classes [(h0, .inr (3, [.ref q_1, .int 0, .null, .null, .null, .null, .int 0, .int 0, .int 0, .int 0, .int 0, .int 0, .int 0, .int 0])), (q_1, .inl (cI, 500, .inl (fun _ => 0))), (q_2, .inr (0, [.null, .int 0, .int 0, .int 0, .int 0]))] H := hP
  have hD : va_D A [(h0, .inr (3, [.ref q_1, .int 0, .null, .null, .null, .null, .int 0, .int 0, .int 0, .int 0, .int 0, .int 0, .int 0, .int 0])), (q_1, .inl (cI, 500, .inl (fun _ => 0))), (q_2, .inr (0, [.null, .int 0, .int 0, .int 0, .int 0]))] := hD
  refine W.widen (k := 2) (n := 505) (by decide) (by decide) ?_
  refine lv_dup hx hb dX3_init_17 rfl ?_
  refine gcall_v (va_runI (As := []) (rest := [.ref q_2, .ref h0]) ⟨hx, hb, hml, hown, hts⟩ (c_X0_init l D cI q_2 H.size ) (cwI 0 hts (tb_good kk_1_23) rfl rfl rfl (hts (Cond.initialized "NestedTags$Cursor") kk_1_2) (hts (Cond.methodLink "NestedTags" 15 yX0_init) kk_1_21) (hts (Cond.instanceMethod yX0_init) kk_1_22) rfl (by decide +kernel) ⟨Nat.le_of_ble_eq_true rfl, Nat.le_of_ble_eq_true rfl⟩) (gpreS hK hN (hP.sub [2] rfl) (hD.sub [2] (by decide) rfl)) rfl rfl hl.1 rfl (lv_room (Nat.le_of_ble_eq_true rfl)) dX3_init_18 ⟨Nat.le_of_ble_eq_true rfl, Nat.le_of_ble_eq_true rfl⟩) hP hD hS hA [2] [0, 1] (wr := [(h0, .inr (3, [.ref q_1, .int 0, .null, .null, .null, .null, .int 0, .int 0, .int 0, .int 0, .int 0, .int 0, .int 0, .int 0])), (q_1, .inl (cI, 500, .inl (fun _ => 0)))]) rfl rfl (by decide) (by decide) (fun u_4 H locs hw_18 hP hD hS => ?_)
  obtain ⟨b_5, rfl⟩ : ∃ z, z = u_4 := ⟨_, rfl⟩
  try dsimp only at hw_18
  have hP : va_P D classes [(h0, .inr (3, [.ref q_1, .int 0, .null, .null, .null, .null, .int 0, .int 0, .int 0, .int 0, .int 0, .int 0, .int 0, .int 0])), (q_1, .inl (cI, 500, .inl (fun _ => 0))), (q_2, .inr (0, [.ref b_5, .int 0, .int 0, .int 0, .int (-1)])), (b_5, .inl (cI, 500, .inl (fun _ => 0)))] H := hP
  have hD : va_D A [(h0, .inr (3, [.ref q_1, .int 0, .null, .null, .null, .null, .int 0, .int 0, .int 0, .int 0, .int 0, .int 0, .int 0, .int 0])), (q_1, .inl (cI, 500, .inl (fun _ => 0))), (q_2, .inr (0, [.ref b_5, .int 0, .int 0, .int 0, .int (-1)])), (b_5, .inl (cI, 500, .inl (fun _ => 0)))] := hD
  refine W.widen (k := 3) (n := 1005) (by decide) (by decide) ?_
  refine va_putF (D := D) (ci := 3) (v := .ref q_2) (ty := .object "NestedTags$Cursor") (C := RX3) (T := TX3) (N := 14) hx hb hts inX3 tyX3 tyX3_ok nmX3 hown hK hP hD hS 0 rfl rfl 2 (by decide) (hts (Cond.fieldLink "NestedTags" 16 "NestedTags" "cursor" "LNestedTags$Cursor;") kk_1_98) (fun _ h9 => h9) rfl hin rfl (by decide +kernel) rfl rfl (Nat.le_of_ble_eq_true rfl) dX3_init_21 (fun H locs hP hD hS => ?_)
  have hP : va_P D classes [(h0, .inr (3, [.ref q_1, .int 0, .ref q_2, .null, .null, .null, .int 0, .int 0, .int 0, .int 0, .int 0, .int 0, .int 0, .int 0])), (q_1, .inl (cI, 500, .inl (fun _ => 0))), (q_2, .inr (0, [.ref b_5, .int 0, .int 0, .int 0, .int (-1)])), (b_5, .inl (cI, 500, .inl (fun _ => 0)))] H := hP
  have hD : va_D A [(h0, .inr (3, [.ref q_1, .int 0, .ref q_2, .null, .null, .null, .int 0, .int 0, .int 0, .int 0, .int 0, .int 0, .int 0, .int 0])), (q_1, .inl (cI, 500, .inl (fun _ => 0))), (q_2, .inr (0, [.ref b_5, .int 0, .int 0, .int 0, .int (-1)])), (b_5, .inl (cI, 500, .inl (fun _ => 0)))] := hD
  refine lv_aload_n hx hb dX3_init_24 rfl (lv_at hl 0 rfl) ?_
  refine va_new (D := D) (ci := 2) (fs := [.null, .null, .null, .null, .int 0, .int 0]) (C := RX2) (T := TX2) (N := 6) hx hb hts inX2 tyX2 tyX2_ok hown (hts (Cond.classLink "NestedTags" 20 "NestedTags$Pieces") kk_1_46) (hts (Cond.instantiable "NestedTags$Pieces" 6) kk_1_47) (hts (Cond.initialized "NestedTags$Pieces") kk_1_3) hK hP hD hS hA rfl (fun j hj => by rcases (show j = 0 ∨ j = 1 ∨ j = 2 ∨ j = 3 ∨ j = 4 ∨ j = 5 by omega) with rfl | rfl | rfl | rfl | rfl | rfl <;> rfl) (Nat.le_of_ble_eq_true rfl) (Nat.le_of_ble_eq_true rfl) dX3_init_25 (fun q_6 H hP hD hS => ?_)
  have hP : va_P D classes [(h0, .inr (3, [.ref q_1, .int 0, .ref q_2, .null, .null, .null, .int 0, .int 0, .int 0, .int 0, .int 0, .int 0, .int 0, .int 0])), (q_1, .inl (cI, 500, .inl (fun _ => 0))), (q_2, .inr (0, [.ref b_5, .int 0, .int 0, .int 0, .int (-1)])), (b_5, .inl (cI, 500, .inl (fun _ => 0))), (q_6, .inr (2, [.null, .null, .null, .null, .int 0, .int 0]))] H := hP
  have hD : va_D A [(h0, .inr (3, [.ref q_1, .int 0, .ref q_2, .null, .null, .null, .int 0, .int 0, .int 0, .int 0, .int 0, .int 0, .int 0, .int 0])), (q_1, .inl (cI, 500, .inl (fun _ => 0))), (q_2, .inr (0, [.ref b_5, .int 0, .int 0, .int 0, .int (-1)])), (b_5, .inl (cI, 500, .inl (fun _ => 0))), (q_6, .inr (2, [.null, .null, .null, .null, .int 0, .int 0]))] := hD
  refine W.widen (k := 4) (n := 1011) (by decide) (by decide) ?_
  refine lv_dup hx hb dX3_init_28 rfl ?_
  refine gcall_v (va_runI (As := []) (rest := [.ref q_6, .ref h0]) ⟨hx, hb, hml, hown, hts⟩ (c_X2_init l D cI q_6 H.size ) (cwI 0 hts (tb_good kk_1_50) rfl rfl rfl (hts (Cond.initialized "NestedTags$Pieces") kk_1_3) (hts (Cond.methodLink "NestedTags" 22 yX2_init) kk_1_48) (hts (Cond.instanceMethod yX2_init) kk_1_49) rfl (by decide +kernel) ⟨Nat.le_of_ble_eq_true rfl, Nat.le_of_ble_eq_true rfl⟩) (gpreS hK hN (hP.sub [4] rfl) (hD.sub [4] (by decide) rfl)) rfl rfl hl.1 rfl (lv_room (Nat.le_of_ble_eq_true rfl)) dX3_init_29 ⟨Nat.le_of_ble_eq_true rfl, Nat.le_of_ble_eq_true rfl⟩) hP hD hS hA [4] [0, 1, 2, 3] (wr := [(h0, .inr (3, [.ref q_1, .int 0, .ref q_2, .null, .null, .null, .int 0, .int 0, .int 0, .int 0, .int 0, .int 0, .int 0, .int 0])), (q_1, .inl (cI, 500, .inl (fun _ => 0))), (q_2, .inr (0, [.ref b_5, .int 0, .int 0, .int 0, .int (-1)])), (b_5, .inl (cI, 500, .inl (fun _ => 0)))]) rfl rfl (by decide) (by decide) (fun u_8 H locs hw_29 hP hD hS => ?_)
  obtain ⟨pk_9, pb_10, pe_11, pd_12⟩ := u_8
  try dsimp only at hw_29
  have hP : va_P D classes [(h0, .inr (3, [.ref q_1, .int 0, .ref q_2, .null, .null, .null, .int 0, .int 0, .int 0, .int 0, .int 0, .int 0, .int 0, .int 0])), (q_1, .inl (cI, 500, .inl (fun _ => 0))), (q_2, .inr (0, [.ref b_5, .int 0, .int 0, .int 0, .int (-1)])), (b_5, .inl (cI, 500, .inl (fun _ => 0))), (q_6, .inr (2, [.ref pk_9, .ref pb_10, .ref pe_11, .ref pd_12, .int 0, .int 0])), (pk_9, .inl (cI, 150, .inl (fun _ => 0))), (pb_10, .inl (cI, 150, .inl (fun _ => 0))), (pe_11, .inl (cI, 150, .inl (fun _ => 0))), (pd_12, .inl (cI, 150, .inl (fun _ => 0)))] H := hP
  have hD : va_D A [(h0, .inr (3, [.ref q_1, .int 0, .ref q_2, .null, .null, .null, .int 0, .int 0, .int 0, .int 0, .int 0, .int 0, .int 0, .int 0])), (q_1, .inl (cI, 500, .inl (fun _ => 0))), (q_2, .inr (0, [.ref b_5, .int 0, .int 0, .int 0, .int (-1)])), (b_5, .inl (cI, 500, .inl (fun _ => 0))), (q_6, .inr (2, [.ref pk_9, .ref pb_10, .ref pe_11, .ref pd_12, .int 0, .int 0])), (pk_9, .inl (cI, 150, .inl (fun _ => 0))), (pb_10, .inl (cI, 150, .inl (fun _ => 0))), (pe_11, .inl (cI, 150, .inl (fun _ => 0))), (pd_12, .inl (cI, 150, .inl (fun _ => 0)))] := hD
  refine W.widen (k := 8) (n := 1611) (by decide) (by decide) ?_
  refine va_putF (D := D) (ci := 3) (v := .ref q_6) (ty := .object "NestedTags$Pieces") (C := RX3) (T := TX3) (N := 14) hx hb hts inX3 tyX3 tyX3_ok nmX3 hown hK hP hD hS 0 rfl rfl 3 (by decide) (hts (Cond.fieldLink "NestedTags" 23 "NestedTags" "pieces" "LNestedTags$Pieces;") kk_1_99) (fun _ h9 => h9) rfl hin rfl (by decide +kernel) rfl rfl (Nat.le_of_ble_eq_true rfl) dX3_init_32 (fun H locs hP hD hS => ?_)
  have hP : va_P D classes [(h0, .inr (3, [.ref q_1, .int 0, .ref q_2, .ref q_6, .null, .null, .int 0, .int 0, .int 0, .int 0, .int 0, .int 0, .int 0, .int 0])), (q_1, .inl (cI, 500, .inl (fun _ => 0))), (q_2, .inr (0, [.ref b_5, .int 0, .int 0, .int 0, .int (-1)])), (b_5, .inl (cI, 500, .inl (fun _ => 0))), (q_6, .inr (2, [.ref pk_9, .ref pb_10, .ref pe_11, .ref pd_12, .int 0, .int 0])), (pk_9, .inl (cI, 150, .inl (fun _ => 0))), (pb_10, .inl (cI, 150, .inl (fun _ => 0))), (pe_11, .inl (cI, 150, .inl (fun _ => 0))), (pd_12, .inl (cI, 150, .inl (fun _ => 0)))] H := hP
  have hD : va_D A [(h0, .inr (3, [.ref q_1, .int 0, .ref q_2, .ref q_6, .null, .null, .int 0, .int 0, .int 0, .int 0, .int 0, .int 0, .int 0, .int 0])), (q_1, .inl (cI, 500, .inl (fun _ => 0))), (q_2, .inr (0, [.ref b_5, .int 0, .int 0, .int 0, .int (-1)])), (b_5, .inl (cI, 500, .inl (fun _ => 0))), (q_6, .inr (2, [.ref pk_9, .ref pb_10, .ref pe_11, .ref pd_12, .int 0, .int 0])), (pk_9, .inl (cI, 150, .inl (fun _ => 0))), (pb_10, .inl (cI, 150, .inl (fun _ => 0))), (pe_11, .inl (cI, 150, .inl (fun _ => 0))), (pd_12, .inl (cI, 150, .inl (fun _ => 0)))] := hD
  refine lv_aload_n hx hb dX3_init_35 rfl (lv_at hl 0 rfl) ?_
  refine va_new (D := D) (ci := 1) (fs := [.null, .null, .int 0, .int 0]) (C := RX1) (T := TX1) (N := 4) hx hb hts inX1 tyX1 tyX1_ok hown (hts (Cond.classLink "NestedTags" 27 "NestedTags$Names") kk_1_73) (hts (Cond.instantiable "NestedTags$Names" 4) kk_1_74) (hts (Cond.initialized "NestedTags$Names") kk_1_4) hK hP hD hS hA rfl (fun j hj => by rcases (show j = 0 ∨ j = 1 ∨ j = 2 ∨ j = 3 by omega) with rfl | rfl | rfl | rfl <;> rfl) (Nat.le_of_ble_eq_true rfl) (Nat.le_of_ble_eq_true rfl) dX3_init_36 (fun q_13 H hP hD hS => ?_)
  have hP : va_P D classes [(h0, .inr (3, [.ref q_1, .int 0, .ref q_2, .ref q_6, .null, .null, .int 0, .int 0, .int 0, .int 0, .int 0, .int 0, .int 0, .int 0])), (q_1, .inl (cI, 500, .inl (fun _ => 0))), (q_2, .inr (0, [.ref b_5, .int 0, .int 0, .int 0, .int (-1)])), (b_5, .inl (cI, 500, .inl (fun _ => 0))), (q_6, .inr (2, [.ref pk_9, .ref pb_10, .ref pe_11, .ref pd_12, .int 0, .int 0])), (pk_9, .inl (cI, 150, .inl (fun _ => 0))), (pb_10, .inl (cI, 150, .inl (fun _ => 0))), (pe_11, .inl (cI, 150, .inl (fun _ => 0))), (pd_12, .inl (cI, 150, .inl (fun _ => 0))), (q_13, .inr (1, [.null, .null, .int 0, .int 0]))] H := hP
  have hD : va_D A [(h0, .inr (3, [.ref q_1, .int 0, .ref q_2, .ref q_6, .null, .null, .int 0, .int 0, .int 0, .int 0, .int 0, .int 0, .int 0, .int 0])), (q_1, .inl (cI, 500, .inl (fun _ => 0))), (q_2, .inr (0, [.ref b_5, .int 0, .int 0, .int 0, .int (-1)])), (b_5, .inl (cI, 500, .inl (fun _ => 0))), (q_6, .inr (2, [.ref pk_9, .ref pb_10, .ref pe_11, .ref pd_12, .int 0, .int 0])), (pk_9, .inl (cI, 150, .inl (fun _ => 0))), (pb_10, .inl (cI, 150, .inl (fun _ => 0))), (pe_11, .inl (cI, 150, .inl (fun _ => 0))), (pd_12, .inl (cI, 150, .inl (fun _ => 0))), (q_13, .inr (1, [.null, .null, .int 0, .int 0]))] := hD
  refine W.widen (k := 9) (n := 1615) (by decide) (by decide) ?_
  refine lv_dup hx hb dX3_init_39 rfl ?_
  refine lv_bipush (v := 20) hx hb dX3_init_40 (by decide) ?_
  refine gcall_v (va_runI (As := [.int 20]) (rest := [.ref q_13, .ref h0]) ⟨hx, hb, hml, hown, hts⟩ (c_X1_init_20 l D cI q_13 H.size ) (cwI 1 hts (tb_good kk_1_77) rfl rfl rfl (hts (Cond.initialized "NestedTags$Names") kk_1_4) (hts (Cond.methodLink "NestedTags" 29 yX1_init) kk_1_75) (hts (Cond.instanceMethod yX1_init) kk_1_76) rfl (by decide +kernel) ⟨Nat.le_of_ble_eq_true rfl, Nat.le_of_ble_eq_true rfl⟩) (gpreS hK hN (hP.sub [9] rfl) (hD.sub [9] (by decide) rfl)) rfl rfl hl.1 rfl (lv_room (Nat.le_of_ble_eq_true rfl)) dX3_init_42 ⟨Nat.le_of_ble_eq_true rfl, Nat.le_of_ble_eq_true rfl⟩) hP hD hS hA [9] [0, 1, 2, 3, 4, 5, 6, 7, 8] (wr := [(h0, .inr (3, [.ref q_1, .int 0, .ref q_2, .ref q_6, .null, .null, .int 0, .int 0, .int 0, .int 0, .int 0, .int 0, .int 0, .int 0])), (q_1, .inl (cI, 500, .inl (fun _ => 0))), (q_2, .inr (0, [.ref b_5, .int 0, .int 0, .int 0, .int (-1)])), (b_5, .inl (cI, 500, .inl (fun _ => 0))), (q_6, .inr (2, [.ref pk_9, .ref pb_10, .ref pe_11, .ref pd_12, .int 0, .int 0])), (pk_9, .inl (cI, 150, .inl (fun _ => 0))), (pb_10, .inl (cI, 150, .inl (fun _ => 0))), (pe_11, .inl (cI, 150, .inl (fun _ => 0))), (pd_12, .inl (cI, 150, .inl (fun _ => 0)))]) rfl rfl (by decide) (by decide) (fun u_15 H locs hw_42 hP hD hS => ?_)
  obtain ⟨ob_16, on_17⟩ := u_15
  try dsimp only at hw_42
  have hP : va_P D classes [(h0, .inr (3, [.ref q_1, .int 0, .ref q_2, .ref q_6, .null, .null, .int 0, .int 0, .int 0, .int 0, .int 0, .int 0, .int 0, .int 0])), (q_1, .inl (cI, 500, .inl (fun _ => 0))), (q_2, .inr (0, [.ref b_5, .int 0, .int 0, .int 0, .int (-1)])), (b_5, .inl (cI, 500, .inl (fun _ => 0))), (q_6, .inr (2, [.ref pk_9, .ref pb_10, .ref pe_11, .ref pd_12, .int 0, .int 0])), (pk_9, .inl (cI, 150, .inl (fun _ => 0))), (pb_10, .inl (cI, 150, .inl (fun _ => 0))), (pe_11, .inl (cI, 150, .inl (fun _ => 0))), (pd_12, .inl (cI, 150, .inl (fun _ => 0))), (q_13, .inr (1, [.ref ob_16, .ref on_17, .int 20, .int 0])), (ob_16, .inl (cI, 20, .inl (fun _ => 0))), (on_17, .inl (cI, 20, .inl (fun _ => 0)))] H := hP
  have hD : va_D A [(h0, .inr (3, [.ref q_1, .int 0, .ref q_2, .ref q_6, .null, .null, .int 0, .int 0, .int 0, .int 0, .int 0, .int 0, .int 0, .int 0])), (q_1, .inl (cI, 500, .inl (fun _ => 0))), (q_2, .inr (0, [.ref b_5, .int 0, .int 0, .int 0, .int (-1)])), (b_5, .inl (cI, 500, .inl (fun _ => 0))), (q_6, .inr (2, [.ref pk_9, .ref pb_10, .ref pe_11, .ref pd_12, .int 0, .int 0])), (pk_9, .inl (cI, 150, .inl (fun _ => 0))), (pb_10, .inl (cI, 150, .inl (fun _ => 0))), (pe_11, .inl (cI, 150, .inl (fun _ => 0))), (pd_12, .inl (cI, 150, .inl (fun _ => 0))), (q_13, .inr (1, [.ref ob_16, .ref on_17, .int 20, .int 0])), (ob_16, .inl (cI, 20, .inl (fun _ => 0))), (on_17, .inl (cI, 20, .inl (fun _ => 0)))] := hD
  refine W.widen (k := 11) (n := 1655) (by decide) (by decide) ?_
  refine va_putF (D := D) (ci := 3) (v := .ref q_13) (ty := .object "NestedTags$Names") (C := RX3) (T := TX3) (N := 14) hx hb hts inX3 tyX3 tyX3_ok nmX3 hown hK hP hD hS 0 rfl rfl 4 (by decide) (hts (Cond.fieldLink "NestedTags" 32 "NestedTags" "openElements" "LNestedTags$Names;") kk_1_100) (fun _ h9 => h9) rfl hin rfl (by decide +kernel) rfl rfl (Nat.le_of_ble_eq_true rfl) dX3_init_45 (fun H locs hP hD hS => ?_)
  have hP : va_P D classes [(h0, .inr (3, [.ref q_1, .int 0, .ref q_2, .ref q_6, .ref q_13, .null, .int 0, .int 0, .int 0, .int 0, .int 0, .int 0, .int 0, .int 0])), (q_1, .inl (cI, 500, .inl (fun _ => 0))), (q_2, .inr (0, [.ref b_5, .int 0, .int 0, .int 0, .int (-1)])), (b_5, .inl (cI, 500, .inl (fun _ => 0))), (q_6, .inr (2, [.ref pk_9, .ref pb_10, .ref pe_11, .ref pd_12, .int 0, .int 0])), (pk_9, .inl (cI, 150, .inl (fun _ => 0))), (pb_10, .inl (cI, 150, .inl (fun _ => 0))), (pe_11, .inl (cI, 150, .inl (fun _ => 0))), (pd_12, .inl (cI, 150, .inl (fun _ => 0))), (q_13, .inr (1, [.ref ob_16, .ref on_17, .int 20, .int 0])), (ob_16, .inl (cI, 20, .inl (fun _ => 0))), (on_17, .inl (cI, 20, .inl (fun _ => 0)))] H := hP
  have hD : va_D A [(h0, .inr (3, [.ref q_1, .int 0, .ref q_2, .ref q_6, .ref q_13, .null, .int 0, .int 0, .int 0, .int 0, .int 0, .int 0, .int 0, .int 0])), (q_1, .inl (cI, 500, .inl (fun _ => 0))), (q_2, .inr (0, [.ref b_5, .int 0, .int 0, .int 0, .int (-1)])), (b_5, .inl (cI, 500, .inl (fun _ => 0))), (q_6, .inr (2, [.ref pk_9, .ref pb_10, .ref pe_11, .ref pd_12, .int 0, .int 0])), (pk_9, .inl (cI, 150, .inl (fun _ => 0))), (pb_10, .inl (cI, 150, .inl (fun _ => 0))), (pe_11, .inl (cI, 150, .inl (fun _ => 0))), (pd_12, .inl (cI, 150, .inl (fun _ => 0))), (q_13, .inr (1, [.ref ob_16, .ref on_17, .int 20, .int 0])), (ob_16, .inl (cI, 20, .inl (fun _ => 0))), (on_17, .inl (cI, 20, .inl (fun _ => 0)))] := hD
  refine lv_aload_n hx hb dX3_init_48 rfl (lv_at hl 0 rfl) ?_
  refine va_new (D := D) (ci := 1) (fs := [.null, .null, .int 0, .int 0]) (C := RX1) (T := TX1) (N := 4) hx hb hts inX1 tyX1 tyX1_ok hown (hts (Cond.classLink "NestedTags" 27 "NestedTags$Names") kk_1_73) (hts (Cond.instantiable "NestedTags$Names" 4) kk_1_74) (hts (Cond.initialized "NestedTags$Names") kk_1_4) hK hP hD hS hA rfl (fun j hj => by rcases (show j = 0 ∨ j = 1 ∨ j = 2 ∨ j = 3 by omega) with rfl | rfl | rfl | rfl <;> rfl) (Nat.le_of_ble_eq_true rfl) (Nat.le_of_ble_eq_true rfl) dX3_init_49 (fun q_18 H hP hD hS => ?_)
  have hP : va_P D classes [(h0, .inr (3, [.ref q_1, .int 0, .ref q_2, .ref q_6, .ref q_13, .null, .int 0, .int 0, .int 0, .int 0, .int 0, .int 0, .int 0, .int 0])), (q_1, .inl (cI, 500, .inl (fun _ => 0))), (q_2, .inr (0, [.ref b_5, .int 0, .int 0, .int 0, .int (-1)])), (b_5, .inl (cI, 500, .inl (fun _ => 0))), (q_6, .inr (2, [.ref pk_9, .ref pb_10, .ref pe_11, .ref pd_12, .int 0, .int 0])), (pk_9, .inl (cI, 150, .inl (fun _ => 0))), (pb_10, .inl (cI, 150, .inl (fun _ => 0))), (pe_11, .inl (cI, 150, .inl (fun _ => 0))), (pd_12, .inl (cI, 150, .inl (fun _ => 0))), (q_13, .inr (1, [.ref ob_16, .ref on_17, .int 20, .int 0])), (ob_16, .inl (cI, 20, .inl (fun _ => 0))), (on_17, .inl (cI, 20, .inl (fun _ => 0))), (q_18, .inr (1, [.null, .null, .int 0, .int 0]))] H := hP
  have hD : va_D A [(h0, .inr (3, [.ref q_1, .int 0, .ref q_2, .ref q_6, .ref q_13, .null, .int 0, .int 0, .int 0, .int 0, .int 0, .int 0, .int 0, .int 0])), (q_1, .inl (cI, 500, .inl (fun _ => 0))), (q_2, .inr (0, [.ref b_5, .int 0, .int 0, .int 0, .int (-1)])), (b_5, .inl (cI, 500, .inl (fun _ => 0))), (q_6, .inr (2, [.ref pk_9, .ref pb_10, .ref pe_11, .ref pd_12, .int 0, .int 0])), (pk_9, .inl (cI, 150, .inl (fun _ => 0))), (pb_10, .inl (cI, 150, .inl (fun _ => 0))), (pe_11, .inl (cI, 150, .inl (fun _ => 0))), (pd_12, .inl (cI, 150, .inl (fun _ => 0))), (q_13, .inr (1, [.ref ob_16, .ref on_17, .int 20, .int 0])), (ob_16, .inl (cI, 20, .inl (fun _ => 0))), (on_17, .inl (cI, 20, .inl (fun _ => 0))), (q_18, .inr (1, [.null, .null, .int 0, .int 0]))] := hD
  refine W.widen (k := 12) (n := 1659) (by decide) (by decide) ?_
  refine lv_dup hx hb dX3_init_52 rfl ?_
  refine lv_bipush (v := 8) hx hb dX3_init_53 (by decide) ?_
  refine gcall_v (va_runI (As := [.int 8]) (rest := [.ref q_18, .ref h0]) ⟨hx, hb, hml, hown, hts⟩ (c_X1_init_8 l D cI q_18 H.size ) (cwI 1 hts (tb_good kk_1_77) rfl rfl rfl (hts (Cond.initialized "NestedTags$Names") kk_1_4) (hts (Cond.methodLink "NestedTags" 29 yX1_init) kk_1_75) (hts (Cond.instanceMethod yX1_init) kk_1_76) rfl (by decide +kernel) ⟨Nat.le_of_ble_eq_true rfl, Nat.le_of_ble_eq_true rfl⟩) (gpreS hK hN (hP.sub [12] rfl) (hD.sub [12] (by decide) rfl)) rfl rfl hl.1 rfl (lv_room (Nat.le_of_ble_eq_true rfl)) dX3_init_55 ⟨Nat.le_of_ble_eq_true rfl, Nat.le_of_ble_eq_true rfl⟩) hP hD hS hA [12] [0, 1, 2, 3, 4, 5, 6, 7, 8, 9, 10, 11] (wr := [(h0, .inr (3, [.ref q_1, .int 0, .ref q_2, .ref q_6, .ref q_13, .null, .int 0, .int 0, .int 0, .int 0, .int 0, .int 0, .int 0, .int 0])), (q_1, .inl (cI, 500, .inl (fun _ => 0))), (q_2, .inr (0, [.ref b_5, .int 0, .int 0, .int 0, .int (-1)])), (b_5, .inl (cI, 500, .inl (fun _ => 0))), (q_6, .inr (2, [.ref pk_9, .ref pb_10, .ref pe_11, .ref pd_12, .int 0, .int 0])), (pk_9, .inl (cI, 150, .inl (fun _ => 0))), (pb_10, .inl (cI, 150, .inl (fun _ => 0))), (pe_11, .inl (cI, 150, .inl (fun _ => 0))), (pd_12, .inl (cI, 150, .inl (fun _ => 0))), (q_13, .inr (1, [.ref ob_16, .ref on_17, .int 20, .int 0])), (ob_16, .inl (cI, 20, .inl (fun _ => 0))), (on_17, .inl (cI, 20, .inl (fun _ => 0)))]) rfl rfl (by decide) (by decide) (fun u_20 H locs hw_55 hP hD hS => ?_)
  obtain ⟨ob_21, on_22⟩ := u_20
  try dsimp only at hw_55
  have hP : va_P D classes [(h0, .inr (3, [.ref q_1, .int 0, .ref q_2, .ref q_6, .ref q_13, .null, .int 0, .int 0, .int 0, .int 0, .int 0, .int 0, .int 0, .int 0])), (q_1, .inl (cI, 500, .inl (fun _ => 0))), (q_2, .inr (0, [.ref b_5, .int 0, .int 0, .int 0, .int (-1)])), (b_5, .inl (cI, 500, .inl (fun _ => 0))), (q_6, .inr (2, [.ref pk_9, .ref pb_10, .ref pe_11, .ref pd_12, .int 0, .int 0])), (pk_9, .inl (cI, 150, .inl (fun _ => 0))), (pb_10, .inl (cI, 150, .inl (fun _ => 0))), (pe_11, .inl (cI, 150, .inl (fun _ => 0))), (pd_12, .inl (cI, 150, .inl (fun _ => 0))), (q_13, .inr (1, [.ref ob_16, .ref on_17, .int 20, .int 0])), (ob_16, .inl (cI, 20, .inl (fun _ => 0))), (on_17, .inl (cI, 20, .inl (fun _ => 0))), (q_18, .inr (1, [.ref ob_21, .ref on_22, .int 8, .int 0])), (ob_21, .inl (cI, 8, .inl (fun _ => 0))), (on_22, .inl (cI, 8, .inl (fun _ => 0)))] H := hP
  have hD : va_D A [(h0, .inr (3, [.ref q_1, .int 0, .ref q_2, .ref q_6, .ref q_13, .null, .int 0, .int 0, .int 0, .int 0, .int 0, .int 0, .int 0, .int 0])), (q_1, .inl (cI, 500, .inl (fun _ => 0))), (q_2, .inr (0, [.ref b_5, .int 0, .int 0, .int 0, .int (-1)])), (b_5, .inl (cI, 500, .inl (fun _ => 0))), (q_6, .inr (2, [.ref pk_9, .ref pb_10, .ref pe_11, .ref pd_12, .int 0, .int 0])), (pk_9, .inl (cI, 150, .inl (fun _ => 0))), (pb_10, .inl (cI, 150, .inl (fun _ => 0))), (pe_11, .inl (cI, 150, .inl (fun _ => 0))), (pd_12, .inl (cI, 150, .inl (fun _ => 0))), (q_13, .inr (1, [.ref ob_16, .ref on_17, .int 20, .int 0])), (ob_16, .inl (cI, 20, .inl (fun _ => 0))), (on_17, .inl (cI, 20, .inl (fun _ => 0))), (q_18, .inr (1, [.ref ob_21, .ref on_22, .int 8, .int 0])), (ob_21, .inl (cI, 8, .inl (fun _ => 0))), (on_22, .inl (cI, 8, .inl (fun _ => 0)))] := hD
  refine W.widen (k := 14) (n := 1675) (by decide) (by decide) ?_
  refine va_putF (D := D) (ci := 3) (v := .ref q_18) (ty := .object "NestedTags$Names") (C := RX3) (T := TX3) (N := 14) hx hb hts inX3 tyX3 tyX3_ok nmX3 hown hK hP hD hS 0 rfl rfl 5 (by decide) (hts (Cond.fieldLink "NestedTags" 36 "NestedTags" "tagAttributes" "LNestedTags$Names;") kk_1_101) (fun _ h9 => h9) rfl hin rfl (by decide +kernel) rfl rfl (Nat.le_of_ble_eq_true rfl) dX3_init_58 (fun H locs hP hD hS => ?_)
  have hP : va_P D classes [(h0, .inr (3, [.ref q_1, .int 0, .ref q_2, .ref q_6, .ref q_13, .ref q_18, .int 0, .int 0, .int 0, .int 0, .int 0, .int 0, .int 0, .int 0])), (q_1, .inl (cI, 500, .inl (fun _ => 0))), (q_2, .inr (0, [.ref b_5, .int 0, .int 0, .int 0, .int (-1)])), (b_5, .inl (cI, 500, .inl (fun _ => 0))), (q_6, .inr (2, [.ref pk_9, .ref pb_10, .ref pe_11, .ref pd_12, .int 0, .int 0])), (pk_9, .inl (cI, 150, .inl (fun _ => 0))), (pb_10, .inl (cI, 150, .inl (fun _ => 0))), (pe_11, .inl (cI, 150, .inl (fun _ => 0))), (pd_12, .inl (cI, 150, .inl (fun _ => 0))), (q_13, .inr (1, [.ref ob_16, .ref on_17, .int 20, .int 0])), (ob_16, .inl (cI, 20, .inl (fun _ => 0))), (on_17, .inl (cI, 20, .inl (fun _ => 0))), (q_18, .inr (1, [.ref ob_21, .ref on_22, .int 8, .int 0])), (ob_21, .inl (cI, 8, .inl (fun _ => 0))), (on_22, .inl (cI, 8, .inl (fun _ => 0)))] H := hP
  have hD : va_D A [(h0, .inr (3, [.ref q_1, .int 0, .ref q_2, .ref q_6, .ref q_13, .ref q_18, .int 0, .int 0, .int 0, .int 0, .int 0, .int 0, .int 0, .int 0])), (q_1, .inl (cI, 500, .inl (fun _ => 0))), (q_2, .inr (0, [.ref b_5, .int 0, .int 0, .int 0, .int (-1)])), (b_5, .inl (cI, 500, .inl (fun _ => 0))), (q_6, .inr (2, [.ref pk_9, .ref pb_10, .ref pe_11, .ref pd_12, .int 0, .int 0])), (pk_9, .inl (cI, 150, .inl (fun _ => 0))), (pb_10, .inl (cI, 150, .inl (fun _ => 0))), (pe_11, .inl (cI, 150, .inl (fun _ => 0))), (pd_12, .inl (cI, 150, .inl (fun _ => 0))), (q_13, .inr (1, [.ref ob_16, .ref on_17, .int 20, .int 0])), (ob_16, .inl (cI, 20, .inl (fun _ => 0))), (on_17, .inl (cI, 20, .inl (fun _ => 0))), (q_18, .inr (1, [.ref ob_21, .ref on_22, .int 8, .int 0])), (ob_21, .inl (cI, 8, .inl (fun _ => 0))), (on_22, .inl (cI, 8, .inl (fun _ => 0)))] := hD
  refine lv_aload_n hx hb dX3_init_61 rfl (lv_at hl 0 rfl) ?_
  refine lv_iconst (v := (-1)) hx hb dX3_init_62 (by decide) ?_
  refine va_put (D := D) (ci := 3) (v := .int (-1)) (ty := .int) (C := RX3) (T := TX3) (N := 14) hx hb hts inX3 tyX3 tyX3_ok nmX3 hown hK hP hD hS 0 rfl rfl 13 (by decide) (hts (Cond.fieldLink "NestedTags" 39 "NestedTags" "quote" "I") kk_1_109) (fun _ h9 => h9) rfl (by decide +kernel) rfl rfl (Nat.le_of_ble_eq_true rfl) dX3_init_63 (fun H locs hP hD hS => ?_)
  have hP : va_P D classes [(h0, .inr (3, [.ref q_1, .int 0, .ref q_2, .ref q_6, .ref q_13, .ref q_18, .int 0, .int 0, .int 0, .int 0, .int 0, .int 0, .int 0, .int (-1)])), (q_1, .inl (cI, 500, .inl (fun _ => 0))), (q_2, .inr (0, [.ref b_5, .int 0, .int 0, .int 0, .int (-1)])), (b_5, .inl (cI, 500, .inl (fun _ => 0))), (q_6, .inr (2, [.ref pk_9, .ref pb_10, .ref pe_11, .ref pd_12, .int 0, .int 0])), (pk_9, .inl (cI, 150, .inl (fun _ => 0))), (pb_10, .inl (cI, 150, .inl (fun _ => 0))), (pe_11, .inl (cI, 150, .inl (fun _ => 0))), (pd_12, .inl (cI, 150, .inl (fun _ => 0))), (q_13, .inr (1, [.ref ob_16, .ref on_17, .int 20, .int 0])), (ob_16, .inl (cI, 20, .inl (fun _ => 0))), (on_17, .inl (cI, 20, .inl (fun _ => 0))), (q_18, .inr (1, [.ref ob_21, .ref on_22, .int 8, .int 0])), (ob_21, .inl (cI, 8, .inl (fun _ => 0))), (on_22, .inl (cI, 8, .inl (fun _ => 0)))] H := hP
  have hD : va_D A [(h0, .inr (3, [.ref q_1, .int 0, .ref q_2, .ref q_6, .ref q_13, .ref q_18, .int 0, .int 0, .int 0, .int 0, .int 0, .int 0, .int 0, .int (-1)])), (q_1, .inl (cI, 500, .inl (fun _ => 0))), (q_2, .inr (0, [.ref b_5, .int 0, .int 0, .int 0, .int (-1)])), (b_5, .inl (cI, 500, .inl (fun _ => 0))), (q_6, .inr (2, [.ref pk_9, .ref pb_10, .ref pe_11, .ref pd_12, .int 0, .int 0])), (pk_9, .inl (cI, 150, .inl (fun _ => 0))), (pb_10, .inl (cI, 150, .inl (fun _ => 0))), (pe_11, .inl (cI, 150, .inl (fun _ => 0))), (pd_12, .inl (cI, 150, .inl (fun _ => 0))), (q_13, .inr (1, [.ref ob_16, .ref on_17, .int 20, .int 0])), (ob_16, .inl (cI, 20, .inl (fun _ => 0))), (on_17, .inl (cI, 20, .inl (fun _ => 0))), (q_18, .inr (1, [.ref ob_21, .ref on_22, .int 8, .int 0])), (ob_21, .inl (cI, 8, .inl (fun _ => 0))), (on_22, .inl (cI, 8, .inl (fun _ => 0)))] := hD
  have hP9 := hP.sub (ws' := [(h0, .inr (3, [.ref q_1, .int 0, .ref q_2, .ref q_6, .ref q_13, .ref q_18, .int 0, .int 0, .int 0, .int 0, .int 0, .int 0, .int 0, .int (-1)])), (q_1, .inl (cI, 500, .inl (fun _ => 0))), (q_2, .inr (0, [.ref b_5, .int 0, .int 0, .int 0, .int (-1)])), (b_5, .inl (cI, 500, .inl (fun _ => 0))), (q_6, .inr (2, [.ref pk_9, .ref pb_10, .ref pe_11, .ref pd_12, .int 0, .int 0])), (pk_9, .inl (cI, 150, .inl (fun _ => 0))), (pb_10, .inl (cI, 150, .inl (fun _ => 0))), (pe_11, .inl (cI, 150, .inl (fun _ => 0))), (pd_12, .inl (cI, 150, .inl (fun _ => 0))), (q_13, .inr (1, [.ref ob_16, .ref on_17, .int 20, .int 0])), (ob_16, .inl (cI, 20, .inl (fun _ => 0))), (on_17, .inl (cI, 20, .inl (fun _ => 0))), (q_18, .inr (1, [.ref ob_21, .ref on_22, .int 8, .int 0])), (ob_21, .inl (cI, 8, .inl (fun _ => 0))), (on_22, .inl (cI, 8, .inl (fun _ => 0)))]) [0, 1, 2, 3, 4, 5, 6, 7, 8, 9, 10, 11, 12, 13, 14] rfl
  have hD9 := hD.sub (ws' := [(h0, .inr (3, [.ref q_1, .int 0, .ref q_2, .ref q_6, .ref q_13, .ref q_18, .int 0, .int 0, .int 0, .int 0, .int 0, .int 0, .int 0, .int (-1)])), (q_1, .inl (cI, 500, .inl (fun _ => 0))), (q_2, .inr (0, [.ref b_5, .int 0, .int 0, .int 0, .int (-1)])), (b_5, .inl (cI, 500, .inl (fun _ => 0))), (q_6, .inr (2, [.ref pk_9, .ref pb_10, .ref pe_11, .ref pd_12, .int 0, .int 0])), (pk_9, .inl (cI, 150, .inl (fun _ => 0))), (pb_10, .inl (cI, 150, .inl (fun _ => 0))), (pe_11, .inl (cI, 150, .inl (fun _ => 0))), (pd_12, .inl (cI, 150, .inl (fun _ => 0))), (q_13, .inr (1, [.ref ob_16, .ref on_17, .int 20, .int 0])), (ob_16, .inl (cI, 20, .inl (fun _ => 0))), (on_17, .inl (cI, 20, .inl (fun _ => 0))), (q_18, .inr (1, [.ref ob_21, .ref on_22, .int 8, .int 0])), (ob_21, .inl (cI, 8, .inl (fun _ => 0))), (on_22, .inl (cI, 8, .inl (fun _ => 0)))]) [0, 1, 2, 3, 4, 5, 6, 7, 8, 9, 10, 11, 12, 13, 14] (by decide) rfl
  refine W.widen (k := 14) (n := 1675) (by decide) (by decide) ?_
  exact W.vret hx hb hr (fun t ht hW => ⟨⟨(q_1, q_2, b_5, q_6, pk_9, pb_10, pe_11, pd_12, q_13, ob_16, on_17, q_18, ob_21, on_22), rfl, trivial, by rw [ht]; exact hP9, va_K.moved hW.alike hK, hD9⟩, hS.F ht⟩) hS.2.2 dX3_init_66

set_option maxHeartbeats 4000000 in
set_option maxRecDepth 100000 in
/-- X3_place -/
theorem c_X3_place (l : Launch) (D : va_G) (cI : ClassId) (h0 : Nat) (cm : Nat) (cl : Int32) (cu : Nat) (pc : Nat) (oe : Nat) (ta : Nat) (el : Int32) (mo : Int32) (it : Int32) (tb : Int32) (tn : Int32) (te : Int32) (ab : Int32) (qu : Int32) (b0 : Nat) (ln : Int32) (ca : Int32) (fa : Int32) (fp : Int32) (sz : Nat)   : Met l yX3_place (.code yX3_place cX3_place 1 (some .int) :: tbW) ({ frames := 0, cells := 0, slots := 0, locals := 0 }) (va_Pc [.ref h0] (gP D cI [(h0, .inr (3, [.ref cm, .int cl, .ref cu, .ref pc, .ref oe, .ref ta, .int el, .int mo, .int it, .int tb, .int tn, .int te, .int ab, .int qu])), (cu, .inr (0, [.ref b0, .int ln, .int ca, .int fa, .int fp]))] sz)) (va_Qi (fun (r : Int32) (u : Unit) => r = fp) (fun u => gB D cI (va_A [(h0, .inr (3, [.ref cm, .int cl, .ref cu, .ref pc, .ref oe, .ref ta, .int el, .int mo, .int it, .int tb, .int tn, .int te, .int ab, .int qu])), (cu, .inr (0, [.ref b0, .int ln, .int ca, .int fa, .int fp]))] sz) [(h0, .inr (3, [.ref cm, .int cl, .ref cu, .ref pc, .ref oe, .ref ta, .int el, .int mo, .int it, .int tb, .int tn, .int te, .int ab, .int qu])), (cu, .inr (0, [.ref b0, .int ln, .int ca, .int fa, .int fp]))]) (va_A [(h0, .inr (3, [.ref cm, .int cl, .ref cu, .ref pc, .ref oe, .ref ta, .int el, .int mo, .int it, .int tb, .int tn, .int te, .int ab, .int qu])), (cu, .inr (0, [.ref b0, .int ln, .int ca, .int fa, .int fp]))] sz)) 0 0 (va_A [(h0, .inr (3, [.ref cm, .int cl, .ref cu, .ref pc, .ref oe, .ref ta, .int el, .int mo, .int it, .int tb, .int tn, .int te, .int ab, .int qu])), (cu, .inr (0, [.ref b0, .int ln, .int ca, .int fa, .int fp]))] sz) := by
  refine Met.ofW (cc := cX3_place) (maxL := 1) (ret := (some .int)) (by decide) rfl ?_
  intro p e s m args below meth c s₁ B hml hv
  obtain ⟨rfl, hsz, hP, hK, hD0, hN⟩ := hv
  have hx := B.exec
  have hb := B.bytes
  have hr := B.returns
  have hts := tb_hts (atoms_spec (ws := .code yX3_place cX3_place 1 (some .int) :: tbW) B.pre)
  have hown : s.vm.findClass RX3 = some m.cls := findClass_of_methodNamed B.named
  have hlocks := B.notSynchronized
  subst hsz
  have hD := hD0.self (sz := s.heap.size)
  generalize hAe : va_A [(h0, .inr (3, [.ref cm, .int cl, .ref cu, .ref pc, .ref oe, .ref ta, .int el, .int mo, .int it, .int tb, .int tn, .int te, .int ab, .int qu])), (cu, .inr (0, [.ref b0, .int ln, .int ca, .int fa, .int fp]))] s.heap.size = A at hD ⊢
  have hA : ∀ q : Nat, s.heap.size ≤ q → A q := fun q h => by rw [← hAe]; exact Or.inr h
  have hS : va_S A s.heap s.heap [] := va_S.rf
  have hP : va_P D classes [(h0, .inr (3, [.ref cm, .int cl, .ref cu, .ref pc, .ref oe, .ref ta, .int el, .int mo, .int it, .int tb, .int tn, .int te, .int ab, .int qu])), (cu, .inr (0, [.ref b0, .int ln, .int ca, .int fa, .int fp]))] s.heap := hP
  have hl := lv_entry ([.ref h0]) (n := 1) (Nat.le_of_ble_eq_true rfl)
  rw [lg_entry_eq]
  generalize (lg_sl ([.ref h0]) ++ List.replicate (1 - (lg_sl ([.ref h0])).length) Slot.unset).toArray = ls at hl ⊢
  have hl : lv_has ls 1 [(0, .ref h0)] := hl
  refine lv_aload_n hx hb dX3_place_0 rfl (lv_at hl 0 rfl) ?_
  refine va_get (D := D) (ci := 3) (v := .ref cu) (C := RX3) (T := TX3) (N := 14) hx hb hts inX3 hown hK hP 0 rfl rfl 2 (by decide) (hts (Cond.fieldLink "NestedTags" 16 "NestedTags" "cursor" "LNestedTags$Cursor;") kk_1_98) (fun _ h9 => h9) rfl dX3_place_1 ?_
  refine va_getN (D := D) (ci := 0) (v := .int fp) (C := RX0) (T := TX0) (N := 5) hx hb hts inX0 hown hK hP 1 rfl rfl 4 (by decide) (va_Nw.use rfl (nv_f hN 3 rfl)) (fun _ h9 => h9) rfl dX3_place_4 ?_
  have hP9 := hP.sub (ws' := [(h0, .inr (3, [.ref cm, .int cl, .ref cu, .ref pc, .ref oe, .ref ta, .int el, .int mo, .int it, .int tb, .int tn, .int te, .int ab, .int qu])), (cu, .inr (0, [.ref b0, .int ln, .int ca, .int fa, .int fp]))]) [0, 1] rfl
  have hD9 := hD.sub (ws' := [(h0, .inr (3, [.ref cm, .int cl, .ref cu, .ref pc, .ref oe, .ref ta, .int el, .int mo, .int it, .int tb, .int tn, .int te, .int ab, .int qu])), (cu, .inr (0, [.ref b0, .int ln, .int ca, .int fa, .int fp]))]) [0, 1] (by decide) rfl
  exact W.iret (v := fp) hx hb hr (fun t ht hW => ⟨⟨fp, (), rfl, rfl, by rw [ht]; exact hP9, va_K.moved hW.alike hK, hD9⟩, hS.F ht⟩) hS.2.2 dX3_place_7

set_option maxHeartbeats 4000000 in
set_option maxRecDepth 100000 in
/-- X3_piece -/
theorem c_X3_piece (l : Launch) (D : va_G) (cI : ClassId) (h0 : Nat) (cm : Nat) (cl : Int32) (cu : Nat) (pc : Nat) (oe : Nat) (ta : Nat) (el : Int32) (mo : Int32) (it : Int32) (tb : Int32) (tn : Int32) (te : Int32) (ab : Int32) (qu : Int32) (pk : Nat) (pb : Nat) (pe : Nat) (pd : Nat) (ps : Int32) (pa : Int32) (k1 : Nat → Int32) (k2 : Nat → Int32) (k3 : Nat → Int32) (k4 : Nat → Int32) (sz : Nat) (p1 : Int32) (p2 : Int32)  : Met l yX3_piece (.code yX3_piece cX3_piece 3 (some .int) :: tbW) ({ frames := 1, cells := 0, slots := 0, locals := 22 }) (va_Pc [.ref h0, .int p1, .int p2] (gP D cI [(h0, .inr (3, [.ref cm, .int cl, .ref cu, .ref pc, .ref oe, .ref ta, .int el, .int mo, .int it, .int tb, .int tn, .int te, .int ab, .int qu])), (pc, .inr (2, [.ref pk, .ref pb, .ref pe, .ref pd, .int ps, .int pa])), (pk, .inl (cI, 150, .inl k1)), (pb, .inl (cI, 150, .inl k2)), (pe, .inl (cI, 150, .inl k3)), (pd, .inl (cI, 150, .inl k4))] sz)) (va_Qi (fun (r : Int32) (u : Unit) => ps = 0 → r = -1) (fun u => gB D cI (va_A [(h0, .inr (3, [.ref cm, .int cl, .ref cu, .ref pc, .ref oe, .ref ta, .int el, .int mo, .int it, .int tb, .int tn, .int te, .int ab, .int qu])), (pc, .inr (2, [.ref pk, .ref pb, .ref pe, .ref pd, .int ps, .int pa])), (pk, .inl (cI, 150, .inl k1)), (pb, .inl (cI, 150, .inl k2)), (pe, .inl (cI, 150, .inl k3)), (pd, .inl (cI, 150, .inl k4))] sz) [(h0, .inr (3, [.ref cm, .int cl, .ref cu, .ref pc, .ref oe, .ref ta, .int el, .int mo, .int it, .int tb, .int tn, .int te, .int ab, .int qu])), (pc, .inr (2, [.ref pk, .ref pb, .ref pe, .ref pd, .int ps, .int pa])), (pk, .inl (cI, 150, .inl k1)), (pb, .inl (cI, 150, .inl k2)), (pe, .inl (cI, 150, .inl k3)), (pd, .inl (cI, 150, .inl k4))]) (va_A [(h0, .inr (3, [.ref cm, .int cl, .ref cu, .ref pc, .ref oe, .ref ta, .int el, .int mo, .int it, .int tb, .int tn, .int te, .int ab, .int qu])), (pc, .inr (2, [.ref pk, .ref pb, .ref pe, .ref pd, .int ps, .int pa])), (pk, .inl (cI, 150, .inl k1)), (pb, .inl (cI, 150, .inl k2)), (pe, .inl (cI, 150, .inl k3)), (pd, .inl (cI, 150, .inl k4))] sz)) 0 0 (va_A [(h0, .inr (3, [.ref cm, .int cl, .ref cu, .ref pc, .ref oe, .ref ta, .int el, .int mo, .int it, .int tb, .int tn, .int te, .int ab, .int qu])), (pc, .inr (2, [.ref pk, .ref pb, .ref pe, .ref pd, .int ps, .int pa])), (pk, .inl (cI, 150, .inl k1)), (pb, .inl (cI, 150, .inl k2)), (pe, .inl (cI, 150, .inl k3)), (pd, .inl (cI, 150, .inl k4))] sz) := by
  refine Met.ofW (cc := cX3_piece) (maxL := 3) (ret := (some .int)) (by decide) rfl ?_
  intro p e s m args below meth c s₁ B hml hv
  obtain ⟨rfl, hsz, hP, hK, hD0, hN⟩ := hv
  have hx := B.exec
  have hb := B.bytes
  have hr := B.returns
  have hts := tb_hts (atoms_spec (ws := .code yX3_piece cX3_piece 3 (some .int) :: tbW) B.pre)
  have hown : s.vm.findClass RX3 = some m.cls := findClass_of_methodNamed B.named
  have hlocks := B.notSynchronized
  subst hsz
  have hD := hD0.self (sz := s.heap.size)
  generalize hAe : va_A [(h0, .inr (3, [.ref cm, .int cl, .ref cu, .ref pc, .ref oe, .ref ta, .int el, .int mo, .int it, .int tb, .int tn, .int te, .int ab, .int qu])), (pc, .inr (2, [.ref pk, .ref pb, .ref pe, .ref pd, .int ps, .int pa])), (pk, .inl (cI, 150, .inl k1)), (pb, .inl (cI, 150, .inl k2)), (pe, .inl (cI, 150, .inl k3)), (pd, .inl (cI, 150, .inl k4))] s.heap.size = A at hD ⊢
  have hA : ∀ q : Nat, s.heap.size ≤ q → A q := fun q h => by rw [← hAe]; exact Or.inr h
  have hS : va_S A s.heap s.heap [] := va_S.rf
  have hP : va_P D classes [(h0, .inr (3, [.ref cm, .int cl, .ref cu, .ref pc, .ref oe, .ref ta, .int el, .int mo, .int it, .int tb, .int tn, .int te, .int ab, .int qu])), (pc, .inr (2, [.ref pk, .ref pb, .ref pe, .ref pd, .int ps, .int pa])), (pk, .inl (cI, 150, .inl k1)), (pb, .inl (cI, 150, .inl k2)), (pe, .inl (cI, 150, .inl k3)), (pd, .inl (cI, 150, .inl k4))] s.heap := hP
  have hl := lv_entry ([.ref h0, .int p1, .int p2]) (n := 3) (Nat.le_of_ble_eq_true rfl)
  rw [lg_entry_eq]
  generalize (lg_sl ([.ref h0, .int p1, .int p2]) ++ List.replicate (3 - (lg_sl ([.ref h0, .int p1, .int p2])).length) Slot.unset).toArray = ls at hl ⊢
  have hl : lv_has ls 3 [(0, .ref h0), (1, .int p1), (2, .int p2)] := hl
  refine lv_aload_n hx hb dX3_piece_0 rfl (lv_at hl 0 rfl) ?_
  refine va_get (D := D) (ci := 3) (v := .ref pc) (C := RX3) (T := TX3) (N := 14) hx hb hts inX3 hown hK hP 0 rfl rfl 3 (by decide) (hts (Cond.fieldLink "NestedTags" 23 "NestedTags" "pieces" "LNestedTags$Pieces;") kk_1_99) (fun _ h9 => h9) rfl dX3_piece_1 ?_
  refine lv_iload_n hx hb dX3_piece_4 rfl (lv_at hl 1 rfl) ?_
  refine lv_iload_n hx hb dX3_piece_5 rfl (lv_at hl 2 rfl) ?_
  refine gcall_i (va_runV (As := [.int p1, .int p2]) (rest := []) ⟨hx, hb, hml, hown, hts⟩ (c_X2_tell l D cI pc pk pb pe pd ps pa k1 k2 k3 k4 s.heap.size p1 p2) (cwV 2 hts (tb_goodV kk_2_194 kk_2_195 kk_2_196 kk_1_3 kk_2_197) rfl rfl rfl (by decide +kernel) ⟨Nat.le_of_ble_eq_true rfl, Nat.le_of_ble_eq_true rfl⟩) (gpreV hK hN (hP.sub [1, 2, 3, 4, 5] rfl) (hD.sub [1, 2, 3, 4, 5] (by decide) rfl) (va_recv hK hP (ci := 2) (q0 := 1) rfl rfl)) rfl rfl hl.1 rfl (lv_room (Nat.le_of_ble_eq_true rfl)) dX3_piece_6 ⟨Nat.le_of_ble_eq_true rfl, Nat.le_of_ble_eq_true rfl⟩) hP hD hS hA [1, 2, 3, 4, 5] [0] (wr := [(h0, .inr (3, [.ref cm, .int cl, .ref cu, .ref pc, .ref oe, .ref ta, .int el, .int mo, .int it, .int tb, .int tn, .int te, .int ab, .int qu]))]) rfl rfl (by decide) (by decide) (fun r_1 u_2 H locs hw_6 hP hD hS => ?_)
  try dsimp only at hw_6
  have hP : va_P D classes [(h0, .inr (3, [.ref cm, .int cl, .ref cu, .ref pc, .ref oe, .ref ta, .int el, .int mo, .int it, .int tb, .int tn, .int te, .int ab, .int qu])), (pc, .inr (2, [.ref pk, .ref pb, .ref pe, .ref pd, .int ps, .int pa])), (pk, .inl (cI, 150, .inl k1)), (pb, .inl (cI, 150, .inl k2)), (pe, .inl (cI, 150, .inl k3)), (pd, .inl (cI, 150, .inl k4))] H := hP
  have hD : va_D A [(h0, .inr (3, [.ref cm, .int cl, .ref cu, .ref pc, .ref oe, .ref ta, .int el, .int mo, .int it, .int tb, .int tn, .int te, .int ab, .int qu])), (pc, .inr (2, [.ref pk, .ref pb, .ref pe, .ref pd, .int ps, .int pa])), (pk, .inl (cI, 150, .inl k1)), (pb, .inl (cI, 150, .inl k2)), (pe, .inl (cI, 150, .inl k3)), (pd, .inl (cI, 150, .inl k4))] := hD
  have hP9 := hP.sub (ws' := [(h0, .inr (3, [.ref cm, .int cl, .ref cu, .ref pc, .ref oe, .ref ta, .int el, .int mo, .int it, .int tb, .int tn, .int te, .int ab, .int qu])), (pc, .inr (2, [.ref pk, .ref pb, .ref pe, .ref pd, .int ps, .int pa])), (pk, .inl (cI, 150, .inl k1)), (pb, .inl (cI, 150, .inl k2)), (pe, .inl (cI, 150, .inl k3)), (pd, .inl (cI, 150, .inl k4))]) [0, 1, 2, 3, 4, 5] rfl
  have hD9 := hD.sub (ws' := [(h0, .inr (3, [.ref cm, .int cl, .ref cu, .ref pc, .ref oe, .ref ta, .int el, .int mo, .int it, .int tb, .int tn, .int te, .int ab, .int qu])), (pc, .inr (2, [.ref pk, .ref pb, .ref pe, .ref pd, .int ps, .int pa])), (pk, .inl (cI, 150, .inl k1)), (pb, .inl (cI, 150, .inl k2)), (pe, .inl (cI, 150, .inl k3)), (pd, .inl (cI, 150, .inl k4))]) [0, 1, 2, 3, 4, 5] (by decide) rfl
  exact W.iret (v := r_1) hx hb hr (fun t ht hW => ⟨⟨r_1, (), rfl, hw_6, by rw [ht]; exact hP9, va_K.moved hW.alike hK, hD9⟩, hS.F ht⟩) hS.2.2 dX3_piece_9

set_option maxHeartbeats 4000000 in
set_option maxRecDepth 100000 in
/-- X3_byteOf -/
theorem c_X3_byteOf (l : Launch) (D : va_G) (cI : ClassId) (h0 : Nat) (cm : Nat) (cl : Int32) (cu : Nat) (pc : Nat) (oe : Nat) (ta : Nat) (el : Int32) (mo : Int32) (it : Int32) (tb : Int32) (tn : Int32) (te : Int32) (ab : Int32) (qu : Int32) (b0 : Nat) (ln : Int32) (ca : Int32) (fa : Int32) (fp : Int32) (g : Nat → Int32) (sz : Nat) (p1 : Int32)  : Met l yX3_byteOf (.code yX3_byteOf cX3_byteOf 2 (some .int) :: tbW) ({ frames := 1, cells := 0, slots := 0, locals := 21 }) (va_Pc [.ref h0, .int p1] (gP D cI [(h0, .inr (3, [.ref cm, .int cl, .ref cu, .ref pc, .ref oe, .ref ta, .int el, .int mo, .int it, .int tb, .int tn, .int te, .int ab, .int qu])), (cu, .inr (0, [.ref b0, .int ln, .int ca, .int fa, .int fp])), (b0, .inl (cI, 500, .inl g))] sz)) (va_Qi (fun (r : Int32) (u : Unit) => r = byteAt g ln p1) (fun u => gB D cI (va_A [(h0, .inr (3, [.ref cm, .int cl, .ref cu, .ref pc, .ref oe, .ref ta, .int el, .int mo, .int it, .int tb, .int tn, .int te, .int ab, .int qu])), (cu, .inr (0, [.ref b0, .int ln, .int ca, .int fa, .int fp])), (b0, .inl (cI, 500, .inl g))] sz) [(h0, .inr (3, [.ref cm, .int cl, .ref cu, .ref pc, .ref oe, .ref ta, .int el, .int mo, .int it, .int tb, .int tn, .int te, .int ab, .int qu])), (cu, .inr (0, [.ref b0, .int ln, .int ca, .int fa, .int fp])), (b0, .inl (cI, 500, .inl g))]) (va_A [(h0, .inr (3, [.ref cm, .int cl, .ref cu, .ref pc, .ref oe, .ref ta, .int el, .int mo, .int it, .int tb, .int tn, .int te, .int ab, .int qu])), (cu, .inr (0, [.ref b0, .int ln, .int ca, .int fa, .int fp])), (b0, .inl (cI, 500, .inl g))] sz)) 0 0 (va_A [(h0, .inr (3, [.ref cm, .int cl, .ref cu, .ref pc, .ref oe, .ref ta, .int el, .int mo, .int it, .int tb, .int tn, .int te, .int ab, .int qu])), (cu, .inr (0, [.ref b0, .int ln, .int ca, .int fa, .int fp])), (b0, .inl (cI, 500, .inl g))] sz) := by
  refine Met.ofW (cc := cX3_byteOf) (maxL := 2) (ret := (some .int)) (by decide) rfl ?_
  intro p e s m args below meth c s₁ B hml hv
  obtain ⟨rfl, hsz, hP, hK, hD0, hN⟩ := hv
  have hx := B.exec
  have hb := B.bytes
  have hr := B.returns
  have hts := tb_hts (atoms_spec (ws := .code yX3_byteOf cX3_byteOf 2 (some .int) :: tbW) B.pre)
  have hown : s.vm.findClass RX3 = some m.cls := findClass_of_methodNamed B.named
  have hlocks := B.notSynchronized
  subst hsz
  have hD := hD0.self (sz := s.heap.size)
  generalize hAe : va_A [(h0, .inr (3, [.ref cm, .int cl, .ref cu, .ref pc, .ref oe, .ref ta, .int el, .int mo, .int it, .int tb, .int tn, .int te, .int ab, .int qu])), (cu, .inr (0, [.ref b0, .int ln, .int ca, .int fa, .int fp])), (b0, .inl (cI, 500, .inl g))] s.heap.size = A at hD ⊢
  have hA : ∀ q : Nat, s.heap.size ≤ q → A q := fun q h => by rw [← hAe]; exact Or.inr h
  have hS : va_S A s.heap s.heap [] := va_S.rf
  have hP : va_P D classes [(h0, .inr (3, [.ref cm, .int cl, .ref cu, .ref pc, .ref oe, .ref ta, .int el, .int mo, .int it, .int tb, .int tn, .int te, .int ab, .int qu])), (cu, .inr (0, [.ref b0, .int ln, .int ca, .int fa, .int fp])), (b0, .inl (cI, 500, .inl g))] s.heap := hP
  have hl := lv_entry ([.ref h0, .int p1]) (n := 2) (Nat.le_of_ble_eq_true rfl)
  rw [lg_entry_eq]
  generalize (lg_sl ([.ref h0, .int p1]) ++ List.replicate (2 - (lg_sl ([.ref h0, .int p1])).length) Slot.unset).toArray = ls at hl ⊢
  have hl : lv_has ls 2 [(0, .ref h0), (1, .int p1)] := hl
  refine lv_aload_n hx hb dX3_byteOf_0 rfl (lv_at hl 0 rfl) ?_
  refine va_get (D := D) (ci := 3) (v := .ref cu) (C := RX3) (T := TX3) (N := 14) hx hb hts inX3 hown hK hP 0 rfl rfl 2 (by decide) (hts (Cond.fieldLink "NestedTags" 16 "NestedTags" "cursor" "LNestedTags$Cursor;") kk_1_98) (fun _ h9 => h9) rfl dX3_byteOf_1 ?_
  refine lv_iload_n hx hb dX3_byteOf_4 rfl (lv_at hl 1 rfl) ?_
  refine gcall_i (va_runV (As := [.int p1]) (rest := []) ⟨hx, hb, hml, hown, hts⟩ (c_X0_byteAt l D cI cu b0 ln ca fa fp g s.heap.size p1) (cwV 1 hts (tb_goodV kk_2_124 kk_1_176 kk_1_177 kk_1_2 kk_1_178) rfl rfl rfl (by decide +kernel) ⟨Nat.le_of_ble_eq_true rfl, Nat.le_of_ble_eq_true rfl⟩) (gpreV hK hN (hP.sub [1, 2] rfl) (hD.sub [1, 2] (by decide) rfl) (va_recv hK hP (ci := 0) (q0 := 1) rfl rfl)) rfl rfl hl.1 rfl (lv_room (Nat.le_of_ble_eq_true rfl)) dX3_byteOf_5 ⟨Nat.le_of_ble_eq_true rfl, Nat.le_of_ble_eq_true rfl⟩) hP hD hS hA [1, 2] [0] (wr := [(h0, .inr (3, [.ref cm, .int cl, .ref cu, .ref pc, .ref oe, .ref ta, .int el, .int mo, .int it, .int tb, .int tn, .int te, .int ab, .int qu]))]) rfl rfl (by decide) (by decide) (fun r_1 u_2 H locs hw_5 hP hD hS => ?_)
  try dsimp only at hw_5
  have hP : va_P D classes [(h0, .inr (3, [.ref cm, .int cl, .ref cu, .ref pc, .ref oe, .ref ta, .int el, .int mo, .int it, .int tb, .int tn, .int te, .int ab, .int qu])), (cu, .inr (0, [.ref b0, .int ln, .int ca, .int fa, .int fp])), (b0, .inl (cI, 500, .inl g))] H := hP
  have hD : va_D A [(h0, .inr (3, [.ref cm, .int cl, .ref cu, .ref pc, .ref oe, .ref ta, .int el, .int mo, .int it, .int tb, .int tn, .int te, .int ab, .int qu])), (cu, .inr (0, [.ref b0, .int ln, .int ca, .int fa, .int fp])), (b0, .inl (cI, 500, .inl g))] := hD
  have hP9 := hP.sub (ws' := [(h0, .inr (3, [.ref cm, .int cl, .ref cu, .ref pc, .ref oe, .ref ta, .int el, .int mo, .int it, .int tb, .int tn, .int te, .int ab, .int qu])), (cu, .inr (0, [.ref b0, .int ln, .int ca, .int fa, .int fp])), (b0, .inl (cI, 500, .inl g))]) [0, 1, 2] rfl
  have hD9 := hD.sub (ws' := [(h0, .inr (3, [.ref cm, .int cl, .ref cu, .ref pc, .ref oe, .ref ta, .int el, .int mo, .int it, .int tb, .int tn, .int te, .int ab, .int qu])), (cu, .inr (0, [.ref b0, .int ln, .int ca, .int fa, .int fp])), (b0, .inl (cI, 500, .inl g))]) [0, 1, 2] (by decide) rfl
  exact W.iret (v := r_1) hx hb hr (fun t ht hW => ⟨⟨r_1, (), rfl, hw_5, by rw [ht]; exact hP9, va_K.moved hW.alike hK, hD9⟩, hS.F ht⟩) hS.2.2 dX3_byteOf_8

set_option maxHeartbeats 4000000 in
set_option maxRecDepth 100000 in
/-- X3_count -/
theorem c_X3_count (l : Launch) (D : va_G) (cI : ClassId) (h0 : Nat) (cm : Nat) (cl : Int32) (cu : Nat) (pc : Nat) (oe : Nat) (ta : Nat) (el : Int32) (mo : Int32) (it : Int32) (tb : Int32) (tn : Int32) (te : Int32) (ab : Int32) (qu : Int32) (pk : Nat) (pb : Nat) (pe : Nat) (pd : Nat) (ps : Int32) (pa : Int32) (sz : Nat) (p1 : Int32)  : Met l yX3_count (.code yX3_count cX3_count 2 (some .int) :: tbW) ({ frames := 0, cells := 0, slots := 0, locals := 0 }) (va_Pc [.ref h0, .int p1] (gP D cI [(h0, .inr (3, [.ref cm, .int cl, .ref cu, .ref pc, .ref oe, .ref ta, .int el, .int mo, .int it, .int tb, .int tn, .int te, .int ab, .int qu])), (pc, .inr (2, [.ref pk, .ref pb, .ref pe, .ref pd, .int ps, .int pa]))] sz)) (va_Qi (fun (r : Int32) (u : Unit) => r = if p1 = 0 then ps else if p1 = 1 then el else if p1 = 2 then mo else if p1 = 3 then cl else if p1 = 4 then pa else -1) (fun u => gB D cI (va_A [(h0, .inr (3, [.ref cm, .int cl, .ref cu, .ref pc, .ref oe, .ref ta, .int el, .int mo, .int it, .int tb, .int tn, .int te, .int ab, .int qu])), (pc, .inr (2, [.ref pk, .ref pb, .ref pe, .ref pd, .int ps, .int pa]))] sz) [(h0, .inr (3, [.ref cm, .int cl, .ref cu, .ref pc, .ref oe, .ref ta, .int el, .int mo, .int it, .int tb, .int tn, .int te, .int ab, .int qu])), (pc, .inr (2, [.ref pk, .ref pb, .ref pe, .ref pd, .int ps, .int pa]))]) (va_A [(h0, .inr (3, [.ref cm, .int cl, .ref cu, .ref pc, .ref oe, .ref ta, .int el, .int mo, .int it, .int tb, .int tn, .int te, .int ab, .int qu])), (pc, .inr (2, [.ref pk, .ref pb, .ref pe, .ref pd, .int ps, .int pa]))] sz)) 0 0 (va_A [(h0, .inr (3, [.ref cm, .int cl, .ref cu, .ref pc, .ref oe, .ref ta, .int el, .int mo, .int it, .int tb, .int tn, .int te, .int ab, .int qu])), (pc, .inr (2, [.ref pk, .ref pb, .ref pe, .ref pd, .int ps, .int pa]))] sz) := by
  refine Met.ofW (cc := cX3_count) (maxL := 2) (ret := (some .int)) (by decide) rfl ?_
  intro p e s m args below meth c s₁ B hml hv
  obtain ⟨rfl, hsz, hP, hK, hD0, hN⟩ := hv
  have hx := B.exec
  have hb := B.bytes
  have hr := B.returns
  have hts := tb_hts (atoms_spec (ws := .code yX3_count cX3_count 2 (some .int) :: tbW) B.pre)
  have hown : s.vm.findClass RX3 = some m.cls := findClass_of_methodNamed B.named
  have hlocks := B.notSynchronized
  subst hsz
  have hD := hD0.self (sz := s.heap.size)
  generalize hAe : va_A [(h0, .inr (3, [.ref cm, .int cl, .ref cu, .ref pc, .ref oe, .ref ta, .int el, .int mo, .int it, .int tb, .int tn, .int te, .int ab, .int qu])), (pc, .inr (2, [.ref pk, .ref pb, .ref pe, .ref pd, .int ps, .int pa]))] s.heap.size = A at hD ⊢
  have hA : ∀ q : Nat, s.heap.size ≤ q → A q := fun q h => by rw [← hAe]; exact Or.inr h
  have hS : va_S A s.heap s.heap [] := va_S.rf
  have hP : va_P D classes [(h0, .inr (3, [.ref cm, .int cl, .ref cu, .ref pc, .ref oe, .ref ta, .int el, .int mo, .int it, .int tb, .int tn, .int te, .int ab, .int qu])), (pc, .inr (2, [.ref pk, .ref pb, .ref pe, .ref pd, .int ps, .int pa]))] s.heap := hP
  have hl := lv_entry ([.ref h0, .int p1]) (n := 2) (Nat.le_of_ble_eq_true rfl)
  rw [lg_entry_eq]
  generalize (lg_sl ([.ref h0, .int p1]) ++ List.replicate (2 - (lg_sl ([.ref h0, .int p1])).length) Slot.unset).toArray = ls at hl ⊢
  have hl : lv_has ls 2 [(0, .ref h0), (1, .int p1)] := hl
  refine lv_iload_n hx hb dX3_count_0 rfl (lv_at hl 1 rfl) ?_
  by_cases s_1_0 : p1 = 0
  · refine lv_tableIn (off := 35) (tgt := 36) hx hb dX3_count_1 (by rw [s_1_0]; decide) (by rw [s_1_0]; decide) (by rw [s_1_0]; decide) (by decide) ?_
    refine lv_aload_n hx hb dX3_count_36 rfl (lv_at hl 0 rfl) ?_
    refine va_get (D := D) (ci := 3) (v := .ref pc) (C := RX3) (T := TX3) (N := 14) hx hb hts inX3 hown hK hP 0 rfl rfl 3 (by decide) (hts (Cond.fieldLink "NestedTags" 23 "NestedTags" "pieces" "LNestedTags$Pieces;") kk_1_99) (fun _ h9 => h9) rfl dX3_count_37 ?_
    refine va_getN (D := D) (ci := 2) (v := .int ps) (C := RX2) (T := TX2) (N := 6) hx hb hts inX2 hown hK hP 1 rfl rfl 4 (by decide) (va_Nw.use rfl (nv_f hN 4 rfl)) (fun _ h9 => h9) rfl dX3_count_40 ?_
    have hP9 := hP.sub (ws' := [(h0, .inr (3, [.ref cm, .int cl, .ref cu, .ref pc, .ref oe, .ref ta, .int el, .int mo, .int it, .int tb, .int tn, .int te, .int ab, .int qu])), (pc, .inr (2, [.ref pk, .ref pb, .ref pe, .ref pd, .int ps, .int pa]))]) [0, 1] rfl
    have hD9 := hD.sub (ws' := [(h0, .inr (3, [.ref cm, .int cl, .ref cu, .ref pc, .ref oe, .ref ta, .int el, .int mo, .int it, .int tb, .int tn, .int te, .int ab, .int qu])), (pc, .inr (2, [.ref pk, .ref pb, .ref pe, .ref pd, .int ps, .int pa]))]) [0, 1] (by decide) rfl
    exact W.iret (v := ps) hx hb hr (fun t ht hW => ⟨⟨ps, (), rfl, by rw [if_pos s_1_0], by rw [ht]; exact hP9, va_K.moved hW.alike hK, hD9⟩, hS.F ht⟩) hS.2.2 dX3_count_43
  by_cases s_1_1 : p1 = 1
  · refine lv_tableIn (off := 43) (tgt := 44) hx hb dX3_count_1 (by rw [s_1_1]; decide) (by rw [s_1_1]; decide) (by rw [s_1_1]; decide) (by decide) ?_
    refine lv_aload_n hx hb dX3_count_44 rfl (lv_at hl 0 rfl) ?_
    refine va_get (D := D) (ci := 3) (v := .int el) (C := RX3) (T := TX3) (N := 14) hx hb hts inX3 hown hK hP 0 rfl rfl 6 (by decide) (hts (Cond.fieldLink "NestedTags" 86 "NestedTags" "elements" "I") kk_1_102) (fun _ h9 => h9) rfl dX3_count_45 ?_
    have hP9 := hP.sub (ws' := [(h0, .inr (3, [.ref cm, .int cl, .ref cu, .ref pc, .ref oe, .ref ta, .int el, .int mo, .int it, .int tb, .int tn, .int te, .int ab, .int qu])), (pc, .inr (2, [.ref pk, .ref pb, .ref pe, .ref pd, .int ps, .int pa]))]) [0, 1] rfl
    have hD9 := hD.sub (ws' := [(h0, .inr (3, [.ref cm, .int cl, .ref cu, .ref pc, .ref oe, .ref ta, .int el, .int mo, .int it, .int tb, .int tn, .int te, .int ab, .int qu])), (pc, .inr (2, [.ref pk, .ref pb, .ref pe, .ref pd, .int ps, .int pa]))]) [0, 1] (by decide) rfl
    exact W.iret (v := el) hx hb hr (fun t ht hW => ⟨⟨el, (), rfl, by rw [if_neg s_1_0, if_pos s_1_1], by rw [ht]; exact hP9, va_K.moved hW.alike hK, hD9⟩, hS.F ht⟩) hS.2.2 dX3_count_48
  by_cases s_1_2 : p1 = 2
  · refine lv_tableIn (off := 48) (tgt := 49) hx hb dX3_count_1 (by rw [s_1_2]; decide) (by rw [s_1_2]; decide) (by rw [s_1_2]; decide) (by decide) ?_
    refine lv_aload_n hx hb dX3_count_49 rfl (lv_at hl 0 rfl) ?_
    refine va_get (D := D) (ci := 3) (v := .int mo) (C := RX3) (T := TX3) (N := 14) hx hb hts inX3 hown hK hP 0 rfl rfl 7 (by decide) (hts (Cond.fieldLink "NestedTags" 89 "NestedTags" "mostOpen" "I") kk_1_103) (fun _ h9 => h9) rfl dX3_count_50 ?_
    have hP9 := hP.sub (ws' := [(h0, .inr (3, [.ref cm, .int cl, .ref cu, .ref pc, .ref oe, .ref ta, .int el, .int mo, .int it, .int tb, .int tn, .int te, .int ab, .int qu])), (pc, .inr (2, [.ref pk, .ref pb, .ref pe, .ref pd, .int ps, .int pa]))]) [0, 1] rfl
    have hD9 := hD.sub (ws' := [(h0, .inr (3, [.ref cm, .int cl, .ref cu, .ref pc, .ref oe, .ref ta, .int el, .int mo, .int it, .int tb, .int tn, .int te, .int ab, .int qu])), (pc, .inr (2, [.ref pk, .ref pb, .ref pe, .ref pd, .int ps, .int pa]))]) [0, 1] (by decide) rfl
    exact W.iret (v := mo) hx hb hr (fun t ht hW => ⟨⟨mo, (), rfl, by rw [if_neg s_1_0, if_neg s_1_1, if_pos s_1_2], by rw [ht]; exact hP9, va_K.moved hW.alike hK, hD9⟩, hS.F ht⟩) hS.2.2 dX3_count_53
  by_cases s_1_3 : p1 = 3
  · refine lv_tableIn (off := 53) (tgt := 54) hx hb dX3_count_1 (by rw [s_1_3]; decide) (by rw [s_1_3]; decide) (by rw [s_1_3]; decide) (by decide) ?_
    refine lv_aload_n hx hb dX3_count_54 rfl (lv_at hl 0 rfl) ?_
    refine va_get (D := D) (ci := 3) (v := .int cl) (C := RX3) (T := TX3) (N := 14) hx hb hts inX3 hown hK hP 0 rfl rfl 1 (by decide) (hts (Cond.fieldLink "NestedTags" 43 "NestedTags" "comingLength" "I") kk_1_97) (fun _ h9 => h9) rfl dX3_count_55 ?_
    have hP9 := hP.sub (ws' := [(h0, .inr (3, [.ref cm, .int cl, .ref cu, .ref pc, .ref oe, .ref ta, .int el, .int mo, .int it, .int tb, .int tn, .int te, .int ab, .int qu])), (pc, .inr (2, [.ref pk, .ref pb, .ref pe, .ref pd, .int ps, .int pa]))]) [0, 1] rfl
    have hD9 := hD.sub (ws' := [(h0, .inr (3, [.ref cm, .int cl, .ref cu, .ref pc, .ref oe, .ref ta, .int el, .int mo, .int it, .int tb, .int tn, .int te, .int ab, .int qu])), (pc, .inr (2, [.ref pk, .ref pb, .ref pe, .ref pd, .int ps, .int pa]))]) [0, 1] (by decide) rfl
    exact W.iret (v := cl) hx hb hr (fun t ht hW => ⟨⟨cl, (), rfl, by rw [if_neg s_1_0, if_neg s_1_1, if_neg s_1_2, if_pos s_1_3], by rw [ht]; exact hP9, va_K.moved hW.alike hK, hD9⟩, hS.F ht⟩) hS.2.2 dX3_count_58
  by_cases s_1_4 : p1 = 4
  · refine lv_tableIn (off := 58) (tgt := 59) hx hb dX3_count_1 (by rw [s_1_4]; decide) (by rw [s_1_4]; decide) (by rw [s_1_4]; decide) (by decide) ?_
    refine lv_aload_n hx hb dX3_count_59 rfl (lv_at hl 0 rfl) ?_
    refine va_get (D := D) (ci := 3) (v := .ref pc) (C := RX3) (T := TX3) (N := 14) hx hb hts inX3 hown hK hP 0 rfl rfl 3 (by decide) (hts (Cond.fieldLink "NestedTags" 23 "NestedTags" "pieces" "LNestedTags$Pieces;") kk_1_99) (fun _ h9 => h9) rfl dX3_count_60 ?_
    refine va_getN (D := D) (ci := 2) (v := .int pa) (C := RX2) (T := TX2) (N := 6) hx hb hts inX2 hown hK hP 1 rfl rfl 5 (by decide) (va_Nw.use rfl (nv_f hN 5 rfl)) (fun _ h9 => h9) rfl dX3_count_63 ?_
    have hP9 := hP.sub (ws' := [(h0, .inr (3, [.ref cm, .int cl, .ref cu, .ref pc, .ref oe, .ref ta, .int el, .int mo, .int it, .int tb, .int tn, .int te, .int ab, .int qu])), (pc, .inr (2, [.ref pk, .ref pb, .ref pe, .ref pd, .int ps, .int pa]))]) [0, 1] rfl
    have hD9 := hD.sub (ws' := [(h0, .inr (3, [.ref cm, .int cl, .ref cu, .ref pc, .ref oe, .ref ta, .int el, .int mo, .int it, .int tb, .int tn, .int te, .int ab, .int qu])), (pc, .inr (2, [.ref pk, .ref pb, .ref pe, .ref pd, .int ps, .int pa]))]) [0, 1] (by decide) rfl
    exact W.iret (v := pa) hx hb hr (fun t ht hW => ⟨⟨pa, (), rfl, by rw [if_neg s_1_0, if_neg s_1_1, if_neg s_1_2, if_neg s_1_3, if_pos s_1_4], by rw [ht]; exact hP9, va_K.moved hW.alike hK, hD9⟩, hS.F ht⟩) hS.2.2 dX3_count_66
  refine lv_tableOut (tgt := 67) hx hb dX3_count_1 (by have := lv_neT s_1_0 (a := 0) rfl; have := lv_neT s_1_1 (a := 1) rfl; have := lv_neT s_1_2 (a := 2) rfl; have := lv_neT s_1_3 (a := 3) rfl; have := lv_neT s_1_4 (a := 4) rfl; omega) (by decide) ?_
  refine lv_iconst (v := (-1)) hx hb dX3_count_67 (by decide) ?_
  have hP9 := hP.sub (ws' := [(h0, .inr (3, [.ref cm, .int cl, .ref cu, .ref pc, .ref oe, .ref ta, .int el, .int mo, .int it, .int tb, .int tn, .int te, .int ab, .int qu])), (pc, .inr (2, [.ref pk, .ref pb, .ref pe, .ref pd, .int ps, .int pa]))]) [0, 1] rfl
  have hD9 := hD.sub (ws' := [(h0, .inr (3, [.ref cm, .int cl, .ref cu, .ref pc, .ref oe, .ref ta, .int el, .int mo, .int it, .int tb, .int tn, .int te, .int ab, .int qu])), (pc, .inr (2, [.ref pk, .ref pb, .ref pe, .ref pd, .int ps, .int pa]))]) [0, 1] (by decide) rfl
  exact W.iret (v := (-1)) hx hb hr (fun t ht hW => ⟨⟨(-1), (), rfl, by rw [if_neg s_1_0, if_neg s_1_1, if_neg s_1_2, if_neg s_1_3, if_neg s_1_4], by rw [ht]; exact hP9, va_K.moved hW.alike hK, hD9⟩, hS.F ht⟩) hS.2.2 dX3_count_68

set_option maxHeartbeats 4000000 in
set_option maxRecDepth 100000 in
/-- put, accepted -/
theorem c_X3_put_yes (l : Launch) (D : va_G) (cI : ClassId) (h0 : Nat) (cm : Nat) (cu : Nat) (pc : Nat) (oe : Nat) (ta : Nat) (el : Int32) (mo : Int32) (it : Int32) (tb : Int32) (tn : Int32) (te : Int32) (ab : Int32) (qu : Int32) (k0 : Nat) (f0 : Nat → Int32) (j0 : Nat) (sz : Nat) (p1 : Int64) (p2 : Int32) (ep2 : p2 = nI (j0 + 1)) (hj : j0 < 8) (hk0 : k0 + j0 + 1 ≤ 500) : Met l yX3_put (.code yX3_put cX3_put 5 (some .boolean) :: tbW) ({ frames := 0, cells := 0, slots := 0, locals := 0 }) (va_Pc [.ref h0, .long p1, .int p2] (gP D cI [(h0, .inr (3, [.ref cm, .int (nI k0), .ref cu, .ref pc, .ref oe, .ref ta, .int el, .int mo, .int it, .int tb, .int tn, .int te, .int ab, .int qu])), (cm, .inl (cI, 500, .inl f0))] sz)) (va_Qi (fun (r : Int32) (u : Int32 × (Nat → Int32)) => r = 1 ∧ u.1 = nI (k0 + j0 + 1) ∧ u.2 = putF p1 (j0 + 1) k0 f0) (fun u => gB D cI (va_A [(h0, .inr (3, [.ref cm, .int (nI k0), .ref cu, .ref pc, .ref oe, .ref ta, .int el, .int mo, .int it, .int tb, .int tn, .int te, .int ab, .int qu])), (cm, .inl (cI, 500, .inl f0))] sz) [(h0, .inr (3, [.ref cm, .int u.1, .ref cu, .ref pc, .ref oe, .ref ta, .int el, .int mo, .int it, .int tb, .int tn, .int te, .int ab, .int qu])), (cm, .inl (cI, 500, .inl u.2))]) (va_A [(h0, .inr (3, [.ref cm, .int (nI k0), .ref cu, .ref pc, .ref oe, .ref ta, .int el, .int mo, .int it, .int tb, .int tn, .int te, .int ab, .int qu])), (cm, .inl (cI, 500, .inl f0))] sz)) 0 0 (va_A [(h0, .inr (3, [.ref cm, .int (nI k0), .ref cu, .ref pc, .ref oe, .ref ta, .int el, .int mo, .int it, .int tb, .int tn, .int te, .int ab, .int qu])), (cm, .inl (cI, 500, .inl f0))] sz) := by
  refine Met.ofW (cc := cX3_put) (maxL := 5) (ret := (some .boolean)) (by decide) rfl ?_
  intro p e s m args below meth c s₁ B hml hv
  obtain ⟨rfl, hsz, hP, hK, hD0, hN⟩ := hv
  have hx := B.exec
  have hb := B.bytes
  have hr := B.returns
  have hts := tb_hts (atoms_spec (ws := .code yX3_put cX3_put 5 (some .boolean) :: tbW) B.pre)
  have hown : s.vm.findClass RX3 = some m.cls := findClass_of_methodNamed B.named
  have hlocks := B.notSynchronized
  subst hsz
  have hD := hD0.self (sz := s.heap.size)
  generalize hAe : va_A [(h0, .inr (3, [.ref cm, .int (nI k0), .ref cu, .ref pc, .ref oe, .ref ta, .int el, .int mo, .int it, .int tb, .int tn, .int te, .int ab, .int qu])), (cm, .inl (cI, 500, .inl f0))] s.heap.size = A at hD ⊢
  have hA : ∀ q : Nat, s.heap.size ≤ q → A q := fun q h => by rw [← hAe]; exact Or.inr h
  have hS : va_S A s.heap s.heap [] := va_S.rf
  have hP : va_P D classes [(h0, .inr (3, [.ref cm, .int (nI k0), .ref cu, .ref pc, .ref oe, .ref ta, .int el, .int mo, .int it, .int tb, .int tn, .int te, .int ab, .int qu])), (cm, .inl (cI, 500, .inl f0))] s.heap := hP
  have hl := lv_entry ([.ref h0, .long p1, .int p2]) (n := 5) (Nat.le_of_ble_eq_true rfl)
  rw [lg_entry_eq]
  generalize (lg_sl ([.ref h0, .long p1, .int p2]) ++ List.replicate (5 - (lg_sl ([.ref h0, .long p1, .int p2])).length) Slot.unset).toArray = ls at hl ⊢
  have hl : lv_has ls 5 [(0, .ref h0), (1, .long p1), (3, .int p2)] := hl
  generalize hQ : MQ below (va_Qi (fun (r : Int32) (u : Int32 × (Nat → Int32)) => r = 1 ∧ u.1 = nI (k0 + j0 + 1) ∧ u.2 = putF p1 (j0 + 1) k0 f0) (fun u => gB D cI A [(h0, .inr (3, [.ref cm, .int u.1, .ref cu, .ref pc, .ref oe, .ref ta, .int el, .int mo, .int it, .int tb, .int tn, .int te, .int ab, .int qu])), (cm, .inl (cI, 500, .inl u.2))]) A) (([.ref h0, .long p1, .int p2] : List Value).toArray) s 0 0 A = Q
  refine lv_iload_n hx hb dX3_put_0 rfl (lv_at hl 2 rfl) ?_
  refine lv_iconst (v := 1) hx hb dX3_put_1 (by decide) ?_
  refine lv_icmp_lt (tgt := 23) hx hb dX3_put_2 (by decide) (fun c_2 => ?_) (fun c_2 => ?_)
  · skip
    exact absurd c_2 (by rw [ep2]; exact nI_nlt (a := j0 + 1) (b := 1) (by omega) (by omega))
  · skip
    refine lv_iload_n hx hb dX3_put_5 rfl (lv_at hl 2 rfl) ?_
    refine lv_bipush (v := 8) hx hb dX3_put_6 (by decide) ?_
    refine lv_icmp_gt (tgt := 23) hx hb dX3_put_8 (by decide) (fun c_8 => ?_) (fun c_8 => ?_)
    · skip
      exact absurd c_8 (by rw [ep2]; exact nI_nlt (a := 8) (b := j0 + 1) (by omega) (by omega))
    · skip
      refine lv_aload_n hx hb dX3_put_11 rfl (lv_at hl 0 rfl) ?_
      refine va_get (D := D) (ci := 3) (v := .int (nI k0)) (C := RX3) (T := TX3) (N := 14) hx hb hts inX3 hown hK hP 0 rfl rfl 1 (by decide) (hts (Cond.fieldLink "NestedTags" 43 "NestedTags" "comingLength" "I") kk_1_97) (fun _ h9 => h9) rfl dX3_put_12 ?_
      refine lv_sipush (v := 500) hx hb dX3_put_15 (by decide) ?_
      refine lv_iload_n hx hb dX3_put_18 rfl (lv_at hl 2 rfl) ?_
      refine lv_isub hx hb dX3_put_19 ?_
      refine lv_topi (fun x_1 ex_1 => ?_)
      refine lv_icmp_le (tgt := 25) hx hb dX3_put_20 (by decide) (fun c_20 => ?_) (fun c_20 => ?_)
      · skip
        refine lv_iload_n hx hb dX3_put_25 rfl (lv_at hl 2 rfl) ?_
        refine lv_iconst (v := 1) hx hb dX3_put_26 (by decide) ?_
        refine lv_isub hx hb dX3_put_27 ?_
        refine lv_topi (fun x_2 ex_2 => ?_)
        refine lv_istore (lv' := [(4, .int x_2), (0, .ref h0), (1, .long p1), (3, .int p2)]) hx hb dX3_put_28 hl (by decide) rfl (fun ls hl => ?_)
        have loop : ∀ (i k : Nat) (x4 : Int32) (f : Nat → Int32) (H : Heap) (locs : List Loc), x4 = nI i - 1 → k + i = k0 + j0 + 1 → putF p1 i k f = putF p1 (j0 + 1) k0 f0 → va_P D classes [(h0, .inr (3, [.ref cm, .int (nI k), .ref cu, .ref pc, .ref oe, .ref ta, .int el, .int mo, .int it, .int tb, .int tn, .int te, .int ab, .int qu])), (cm, .inl (cI, 500, .inl f))] H → va_D A [(h0, .inr (3, [.ref cm, .int (nI k), .ref cu, .ref pc, .ref oe, .ref ta, .int el, .int mo, .int it, .int tb, .int tn, .int te, .int ab, .int qu])), (cm, .inl (cI, 500, .inl f))] → va_S A s.heap H locs → ∀ (ls : Array Slot), lv_has ls 5 [(4, .int x4), (0, .ref h0), (1, .long p1), (3, .int p2)] → W p l e (headSpec (.code yX3_put cX3_put 5 (some .boolean) :: tbW) { frames := 0, cells := 0, slots := 0, locals := 0 }).room s m (([.ref h0, .long p1, .int p2] : List Value).toArray) below meth c H locs 0 0 Q (F0 m 30 ls []) := by
          intro i
          induction i with
          | zero =>
            intro k x4 f H locs ex4 hk hF hP hD hS ls hl
            refine lv_iload hx hb dX3_put_30 (lv_at hl 0 rfl) ?_
            refine lv_if_lt (tgt := 91) hx hb dX3_put_32 (by decide) (fun c_32 => ?_) (fun c_32 => ?_)
            · skip
              refine lv_iconst (v := 1) hx hb dX3_put_91 (by decide) ?_
              have hP9 := hP.sub (ws' := [(h0, .inr (3, [.ref cm, .int (nI k), .ref cu, .ref pc, .ref oe, .ref ta, .int el, .int mo, .int it, .int tb, .int tn, .int te, .int ab, .int qu])), (cm, .inl (cI, 500, .inl f))]) [0, 1] rfl
              have hD9 := hD.sub (ws' := [(h0, .inr (3, [.ref cm, .int (nI k), .ref cu, .ref pc, .ref oe, .ref ta, .int el, .int mo, .int it, .int tb, .int tn, .int te, .int ab, .int qu])), (cm, .inl (cI, 500, .inl f))]) [0, 1] (by decide) rfl
              rw [← hQ]
              exact W.zret (v := 1) (ty := .boolean) hx hb hr rfl (fun t ht hW => ⟨⟨1, ((nI k), f), rfl, ⟨rfl, by rw [show k = k0 + j0 + 1 by omega], hF⟩, by rw [ht]; exact hP9, va_K.moved hW.alike hK, hD9⟩, hS.F ht⟩) hS.2.2 dX3_put_92
            · skip
              exact absurd (show x4 < 0 by rw [ex4]; decide) c_32
          | succ i ih =>
            intro k x4 f H locs ex4 hk hF hP hD hS ls hl
            rw [nI_pred] at ex4
            refine lv_iload hx hb dX3_put_30 (lv_at hl 0 rfl) ?_
            refine lv_if_lt (tgt := 91) hx hb dX3_put_32 (by decide) (fun c_32 => ?_) (fun c_32 => ?_)
            · skip
              exact absurd c_32 (by rw [ex4]; exact nI_pos (by omega))
            · skip
              refine lv_aload_n hx hb dX3_put_35 rfl (lv_at hl 1 rfl) ?_
              refine va_get (D := D) (ci := 3) (v := .int (nI k)) (C := RX3) (T := TX3) (N := 14) hx hb hts inX3 hown hK hP 0 rfl rfl 1 (by decide) (hts (Cond.fieldLink "NestedTags" 43 "NestedTags" "comingLength" "I") kk_1_97) (fun _ h9 => h9) rfl dX3_put_36 ?_
              refine lv_if_lt (tgt := 85) hx hb dX3_put_39 (by decide) (fun c_39 => ?_) (fun c_39 => ?_)
              · skip
                exact absurd c_39 (nI_pos (by omega))
              · skip
                refine lv_aload_n hx hb dX3_put_42 rfl (lv_at hl 1 rfl) ?_
                refine va_get (D := D) (ci := 3) (v := .int (nI k)) (C := RX3) (T := TX3) (N := 14) hx hb hts inX3 hown hK hP 0 rfl rfl 1 (by decide) (hts (Cond.fieldLink "NestedTags" 43 "NestedTags" "comingLength" "I") kk_1_97) (fun _ h9 => h9) rfl dX3_put_43 ?_
                refine lv_aload_n hx hb dX3_put_46 rfl (lv_at hl 1 rfl) ?_
                refine va_get (D := D) (ci := 3) (v := .ref cm) (C := RX3) (T := TX3) (N := 14) hx hb hts inX3 hown hK hP 0 rfl rfl 0 (by decide) (hts (Cond.fieldLink "NestedTags" 9 "NestedTags" "coming" "[I") kk_1_96) (fun _ h9 => h9) rfl dX3_put_47 ?_
                refine va_alen hx hb hK hP 1 0 rfl rfl (v := nI 500) rfl dX3_put_50 ?_
                refine lv_icmp_ge (tgt := 85) hx hb dX3_put_51 (by decide) (fun c_51 => ?_) (fun c_51 => ?_)
                · skip
                  exact absurd c_51 (nI_ge (by omega) (by decide))
                · skip
                  refine lv_aload_n hx hb dX3_put_54 rfl (lv_at hl 1 rfl) ?_
                  refine va_get (D := D) (ci := 3) (v := .ref cm) (C := RX3) (T := TX3) (N := 14) hx hb hts inX3 hown hK hP 0 rfl rfl 0 (by decide) (hts (Cond.fieldLink "NestedTags" 9 "NestedTags" "coming" "[I") kk_1_96) (fun _ h9 => h9) rfl dX3_put_55 ?_
                  refine lv_aload_n hx hb dX3_put_58 rfl (lv_at hl 1 rfl) ?_
                  refine va_get (D := D) (ci := 3) (v := .int (nI k)) (C := RX3) (T := TX3) (N := 14) hx hb hts inX3 hown hK hP 0 rfl rfl 1 (by decide) (hts (Cond.fieldLink "NestedTags" 43 "NestedTags" "comingLength" "I") kk_1_97) (fun _ h9 => h9) rfl dX3_put_59 ?_
                  refine lv_lload_n hx hb dX3_put_62 rfl (lv_at hl 2 rfl) ?_
                  refine lv_bipush (v := 8) hx hb dX3_put_63 (by decide) ?_
                  refine lv_iload hx hb dX3_put_65 (lv_at hl 0 rfl) ?_
                  refine lv_imul hx hb dX3_put_67 ?_
                  refine lv_topi (fun x_3 ex_3 => ?_)
                  refine lv_lushr hx hb dX3_put_68 rfl ?_
                  refine lv_topl (fun y_4 ey_4 => ?_)
                  refine lv_l2i hx hb dX3_put_69 rfl ?_
                  refine lv_topi (fun x_5 ex_5 => ?_)
                  refine lv_sipush (v := 255) hx hb dX3_put_70 (by decide) ?_
                  refine lv_iand hx hb dX3_put_73 ?_
                  refine lv_topi (fun x_6 ex_6 => ?_)
                  refine va_iast hx hb hK hP hD hS 1 0 rfl rfl (vp_in_nI (by omega) (by decide)) dX3_put_74 (fun H locs hP hD hS => ?_)
                  have hP : va_P D classes [(h0, .inr (3, [.ref cm, .int (nI k), .ref cu, .ref pc, .ref oe, .ref ta, .int el, .int mo, .int it, .int tb, .int tn, .int te, .int ab, .int qu])), (cm, .inl (cI, 500, .inl (upd f (nI k).toNatClampNeg x_6)))] H := hP
                  have hD : va_D A [(h0, .inr (3, [.ref cm, .int (nI k), .ref cu, .ref pc, .ref oe, .ref ta, .int el, .int mo, .int it, .int tb, .int tn, .int te, .int ab, .int qu])), (cm, .inl (cI, 500, .inl (upd f (nI k).toNatClampNeg x_6)))] := hD
                  obtain ⟨f_7, ef_7⟩ : ∃ z, z = (upd f (nI k).toNatClampNeg x_6) := ⟨_, rfl⟩
                  rw [← ef_7] at hP hD
                  refine lv_aload_n hx hb dX3_put_75 rfl (lv_at hl 1 rfl) ?_
                  refine lv_dup hx hb dX3_put_76 rfl ?_
                  refine va_get (D := D) (ci := 3) (v := .int (nI k)) (C := RX3) (T := TX3) (N := 14) hx hb hts inX3 hown hK hP 0 rfl rfl 1 (by decide) (hts (Cond.fieldLink "NestedTags" 43 "NestedTags" "comingLength" "I") kk_1_97) (fun _ h9 => h9) rfl dX3_put_77 ?_
                  refine lv_iconst (v := 1) hx hb dX3_put_80 (by decide) ?_
                  refine lv_iadd hx hb dX3_put_81 ?_
                  refine lv_topi (fun x_8 ex_8 => ?_)
                  refine va_put (D := D) (ci := 3) (v := .int x_8) (ty := .int) (C := RX3) (T := TX3) (N := 14) hx hb hts inX3 tyX3 tyX3_ok nmX3 hown hK hP hD hS 0 rfl rfl 1 (by decide) (hts (Cond.fieldLink "NestedTags" 43 "NestedTags" "comingLength" "I") kk_1_97) (fun _ h9 => h9) rfl (by decide +kernel) rfl rfl (Nat.le_of_ble_eq_true rfl) dX3_put_82 (fun H locs hP hD hS => ?_)
                  have hP : va_P D classes [(h0, .inr (3, [.ref cm, .int x_8, .ref cu, .ref pc, .ref oe, .ref ta, .int el, .int mo, .int it, .int tb, .int tn, .int te, .int ab, .int qu])), (cm, .inl (cI, 500, .inl f_7))] H := hP
                  have hD : va_D A [(h0, .inr (3, [.ref cm, .int x_8, .ref cu, .ref pc, .ref oe, .ref ta, .int el, .int mo, .int it, .int tb, .int tn, .int te, .int ab, .int qu])), (cm, .inl (cI, 500, .inl f_7))] := hD
                  obtain ⟨x_9, ex_9⟩ : ∃ y : Int32, y = x4 + (-1) := ⟨_, rfl⟩
                  refine lv_iinc (v := x_9) (lv' := [(4, .int x_9), (0, .ref h0), (1, .long p1), (3, .int p2)]) hx hb dX3_put_85 hl (k := 0) rfl (by rw [ex_9]; rfl) (by decide) rfl (fun ls hl => ?_)
                  refine lv_goto (tgt := 30) hx hb dX3_put_88 (by decide) ?_
                  have e1 : x_8 = nI (k + 1) := by rw [ex_8]; exact nI_1 k
                  rw [e1] at hP hD
                  refine ih (k + 1) x_9 f_7 _ _ (by rw [ex_9, ex4, Int32.sub_eq_add_neg]) (by omega) ?_ hP hD hS ls hl
                  rw [← hF, putF]
                  congr 1
                  rw [ef_7, nI_clamp (by omega)]
                  congr 1
                  rw [ex_6, ex_5, ey_4, ex_3, ex4]
                  exact byt_eq p1 i
        exact loop (j0 + 1) k0 x_2 f0 _ _ (by rw [ex_2, ep2]) (by omega) rfl hP hD hS ls hl
      · skip
        exact absurd (put_c20 ep2 hj hk0 ex_1) c_20

set_option maxHeartbeats 4000000 in
set_option maxRecDepth 100000 in
/-- put, refused: nothing changes -/
theorem c_X3_put_no (l : Launch) (D : va_G) (cI : ClassId) (h0 : Nat) (cm : Nat) (cu : Nat) (pc : Nat) (oe : Nat) (ta : Nat) (el : Int32) (mo : Int32) (it : Int32) (tb : Int32) (tn : Int32) (te : Int32) (ab : Int32) (qu : Int32) (k0 : Nat) (f0 : Nat → Int32) (sz : Nat) (p1 : Int64) (p2 : Int32) (hk0 : k0 ≤ 500) (hno : ∀ j : Nat, j < 8 → p2 = nI (j + 1) → 500 < k0 + j + 1) : Met l yX3_put (.code yX3_put cX3_put 5 (some .boolean) :: tbW) ({ frames := 0, cells := 0, slots := 0, locals := 0 }) (va_Pc [.ref h0, .long p1, .int p2] (gP D cI [(h0, .inr (3, [.ref cm, .int (nI k0), .ref cu, .ref pc, .ref oe, .ref ta, .int el, .int mo, .int it, .int tb, .int tn, .int te, .int ab, .int qu])), (cm, .inl (cI, 500, .inl f0))] sz)) (va_Qi (fun (r : Int32) (u : Unit) => r = 0) (fun u => gB D cI (va_A [(h0, .inr (3, [.ref cm, .int (nI k0), .ref cu, .ref pc, .ref oe, .ref ta, .int el, .int mo, .int it, .int tb, .int tn, .int te, .int ab, .int qu])), (cm, .inl (cI, 500, .inl f0))] sz) [(h0, .inr (3, [.ref cm, .int (nI k0), .ref cu, .ref pc, .ref oe, .ref ta, .int el, .int mo, .int it, .int tb, .int tn, .int te, .int ab, .int qu])), (cm, .inl (cI, 500, .inl f0))]) (va_A [(h0, .inr (3, [.ref cm, .int (nI k0), .ref cu, .ref pc, .ref oe, .ref ta, .int el, .int mo, .int it, .int tb, .int tn, .int te, .int ab, .int qu])), (cm, .inl (cI, 500, .inl f0))] sz)) 0 0 (va_A [(h0, .inr (3, [.ref cm, .int (nI k0), .ref cu, .ref pc, .ref oe, .ref ta, .int el, .int mo, .int it, .int tb, .int tn, .int te, .int ab, .int qu])), (cm, .inl (cI, 500, .inl f0))] sz) := by
  refine Met.ofW (cc := cX3_put) (maxL := 5) (ret := (some .boolean)) (by decide) rfl ?_
  intro p e s m args below meth c s₁ B hml hv
  obtain ⟨rfl, hsz, hP, hK, hD0, hN⟩ := hv
  have hx := B.exec
  have hb := B.bytes
  have hr := B.returns
  have hts := tb_hts (atoms_spec (ws := .code yX3_put cX3_put 5 (some .boolean) :: tbW) B.pre)
  have hown : s.vm.findClass RX3 = some m.cls := findClass_of_methodNamed B.named
  have hlocks := B.notSynchronized
  subst hsz
  have hD := hD0.self (sz := s.heap.size)
  generalize hAe : va_A [(h0, .inr (3, [.ref cm, .int (nI k0), .ref cu, .ref pc, .ref oe, .ref ta, .int el, .int mo, .int it, .int tb, .int tn, .int te, .int ab, .int qu])), (cm, .inl (cI, 500, .inl f0))] s.heap.size = A at hD ⊢
  have hA : ∀ q : Nat, s.heap.size ≤ q → A q := fun q h => by rw [← hAe]; exact Or.inr h
  have hS : va_S A s.heap s.heap [] := va_S.rf
  have hP : va_P D classes [(h0, .inr (3, [.ref cm, .int (nI k0), .ref cu, .ref pc, .ref oe, .ref ta, .int el, .int mo, .int it, .int tb, .int tn, .int te, .int ab, .int qu])), (cm, .inl (cI, 500, .inl f0))] s.heap := hP
  have hl := lv_entry ([.ref h0, .long p1, .int p2]) (n := 5) (Nat.le_of_ble_eq_true rfl)
  rw [lg_entry_eq]
  generalize (lg_sl ([.ref h0, .long p1, .int p2]) ++ List.replicate (5 - (lg_sl ([.ref h0, .long p1, .int p2])).length) Slot.unset).toArray = ls at hl ⊢
  have hl : lv_has ls 5 [(0, .ref h0), (1, .long p1), (3, .int p2)] := hl
  refine lv_iload_n hx hb dX3_put_0 rfl (lv_at hl 2 rfl) ?_
  refine lv_iconst (v := 1) hx hb dX3_put_1 (by decide) ?_
  refine lv_icmp_lt (tgt := 23) hx hb dX3_put_2 (by decide) (fun c_2 => ?_) (fun c_2 => ?_)
  · skip
    refine lv_iconst (v := 0) hx hb dX3_put_23 (by decide) ?_
    have hP9 := hP.sub (ws' := [(h0, .inr (3, [.ref cm, .int (nI k0), .ref cu, .ref pc, .ref oe, .ref ta, .int el, .int mo, .int it, .int tb, .int tn, .int te, .int ab, .int qu])), (cm, .inl (cI, 500, .inl f0))]) [0, 1] rfl
    have hD9 := hD.sub (ws' := [(h0, .inr (3, [.ref cm, .int (nI k0), .ref cu, .ref pc, .ref oe, .ref ta, .int el, .int mo, .int it, .int tb, .int tn, .int te, .int ab, .int qu])), (cm, .inl (cI, 500, .inl f0))]) [0, 1] (by decide) rfl
    exact W.zret (v := 0) (ty := .boolean) hx hb hr rfl (fun t ht hW => ⟨⟨0, (), rfl, rfl, by rw [ht]; exact hP9, va_K.moved hW.alike hK, hD9⟩, hS.F ht⟩) hS.2.2 dX3_put_24
  · skip
    refine lv_iload_n hx hb dX3_put_5 rfl (lv_at hl 2 rfl) ?_
    refine lv_bipush (v := 8) hx hb dX3_put_6 (by decide) ?_
    refine lv_icmp_gt (tgt := 23) hx hb dX3_put_8 (by decide) (fun c_8 => ?_) (fun c_8 => ?_)
    · skip
      refine lv_iconst (v := 0) hx hb dX3_put_23 (by decide) ?_
      have hP9 := hP.sub (ws' := [(h0, .inr (3, [.ref cm, .int (nI k0), .ref cu, .ref pc, .ref oe, .ref ta, .int el, .int mo, .int it, .int tb, .int tn, .int te, .int ab, .int qu])), (cm, .inl (cI, 500, .inl f0))]) [0, 1] rfl
      have hD9 := hD.sub (ws' := [(h0, .inr (3, [.ref cm, .int (nI k0), .ref cu, .ref pc, .ref oe, .ref ta, .int el, .int mo, .int it, .int tb, .int tn, .int te, .int ab, .int qu])), (cm, .inl (cI, 500, .inl f0))]) [0, 1] (by decide) rfl
      exact W.zret (v := 0) (ty := .boolean) hx hb hr rfl (fun t ht hW => ⟨⟨0, (), rfl, rfl, by rw [ht]; exact hP9, va_K.moved hW.alike hK, hD9⟩, hS.F ht⟩) hS.2.2 dX3_put_24
    · skip
      refine lv_aload_n hx hb dX3_put_11 rfl (lv_at hl 0 rfl) ?_
      refine va_get (D := D) (ci := 3) (v := .int (nI k0)) (C := RX3) (T := TX3) (N := 14) hx hb hts inX3 hown hK hP 0 rfl rfl 1 (by decide) (hts (Cond.fieldLink "NestedTags" 43 "NestedTags" "comingLength" "I") kk_1_97) (fun _ h9 => h9) rfl dX3_put_12 ?_
      refine lv_sipush (v := 500) hx hb dX3_put_15 (by decide) ?_
      refine lv_iload_n hx hb dX3_put_18 rfl (lv_at hl 2 rfl) ?_
      refine lv_isub hx hb dX3_put_19 ?_
      refine lv_topi (fun x_1 ex_1 => ?_)
      refine lv_icmp_le (tgt := 25) hx hb dX3_put_20 (by decide) (fun c_20 => ?_) (fun c_20 => ?_)
      · skip
        exact (put_no c_2 c_8 ex_1 c_20 hno hk0).elim
      · skip
        refine lv_iconst (v := 0) hx hb dX3_put_23 (by decide) ?_
        have hP9 := hP.sub (ws' := [(h0, .inr (3, [.ref cm, .int (nI k0), .ref cu, .ref pc, .ref oe, .ref ta, .int el, .int mo, .int it, .int tb, .int tn, .int te, .int ab, .int qu])), (cm, .inl (cI, 500, .inl f0))]) [0, 1] rfl
        have hD9 := hD.sub (ws' := [(h0, .inr (3, [.ref cm, .int (nI k0), .ref cu, .ref pc, .ref oe, .ref ta, .int el, .int mo, .int it, .int tb, .int tn, .int te, .int ab, .int qu])), (cm, .inl (cI, 500, .inl f0))]) [0, 1] (by decide) rfl
        exact W.zret (v := 0) (ty := .boolean) hx hb hr rfl (fun t ht hW => ⟨⟨0, (), rfl, rfl, by rw [ht]; exact hP9, va_K.moved hW.alike hK, hD9⟩, hS.F ht⟩) hS.2.2 dX3_put_24
end
section
set_option maxHeartbeats 4000000 in
set_option maxRecDepth 100000 in
/-- beginText: the rows change places, all else begins anew -/
theorem c_X3_beginText (l : Launch) (D : va_G) (cI : ClassId) (h0 : Nat) (cm : Nat) (cl : Int32) (cu : Nat) (pc : Nat) (oe : Nat) (ta : Nat) (el : Int32) (mo : Int32) (it : Int32) (tb : Int32) (tn : Int32) (te : Int32) (ab : Int32) (qu : Int32) (b0 : Nat) (ln : Int32) (ca : Int32) (fa : Int32) (fp : Int32) (pk : Nat) (pb : Nat) (pe : Nat) (pd : Nat) (ps : Int32) (pa : Int32) (ob : Nat) (on : Nat) (os : Int32) (tj : Nat) (tl : Nat) (ts : Int32) (sz : Nat)   : Met l yX3_beginText (.code yX3_beginText cX3_beginText 1 none :: tbW) ({ frames := 1, cells := 0, slots := 0, locals := 23 }) (va_Pc [.ref h0] (gP D cI [(h0, .inr (3, [.ref cm, .int cl, .ref cu, .ref pc, .ref oe, .ref ta, .int el, .int mo, .int it, .int tb, .int tn, .int te, .int ab, .int qu])), (cu, .inr (0, [.ref b0, .int ln, .int ca, .int fa, .int fp])), (pc, .inr (2, [.ref pk, .ref pb, .ref pe, .ref pd, .int ps, .int pa])), (oe, .inr (1, [.ref ob, .ref on, .int 20, .int os])), (ta, .inr (1, [.ref tj, .ref tl, .int 8, .int ts]))] sz)) (va_Qv (fun (u : Unit) => True) (fun u => gB D cI (va_A [(h0, .inr (3, [.ref cm, .int cl, .ref cu, .ref pc, .ref oe, .ref ta, .int el, .int mo, .int it, .int tb, .int tn, .int te, .int ab, .int qu])), (cu, .inr (0, [.ref b0, .int ln, .int ca, .int fa, .int fp])), (pc, .inr (2, [.ref pk, .ref pb, .ref pe, .ref pd, .int ps, .int pa])), (oe, .inr (1, [.ref ob, .ref on, .int 20, .int os])), (ta, .inr (1, [.ref tj, .ref tl, .int 8, .int ts]))] sz) [(h0, .inr (3, [.ref b0, .int 0, .ref cu, .ref pc, .ref oe, .ref ta, .int 0, .int 0, .int 0, .int tb, .int tn, .int te, .int ab, .int (-1)])), (cu, .inr (0, [.ref cm, .int cl, .int 0, .int 0, .int (-1)])), (pc, .inr (2, [.ref pk, .ref pb, .ref pe, .ref pd, .int 0, .int 0])), (oe, .inr (1, [.ref ob, .ref on, .int 20, .int 0])), (ta, .inr (1, [.ref tj, .ref tl, .int 8, .int 0]))]) (va_A [(h0, .inr (3, [.ref cm, .int cl, .ref cu, .ref pc, .ref oe, .ref ta, .int el, .int mo, .int it, .int tb, .int tn, .int te, .int ab, .int qu])), (cu, .inr (0, [.ref b0, .int ln, .int ca, .int fa, .int fp])), (pc, .inr (2, [.ref pk, .ref pb, .ref pe, .ref pd, .int ps, .int pa])), (oe, .inr (1, [.ref ob, .ref on, .int 20, .int os])), (ta, .inr (1, [.ref tj, .ref tl, .int 8, .int ts]))] sz)) 0 0 (va_A [(h0, .inr (3, [.ref cm, .int cl, .ref cu, .ref pc, .ref oe, .ref ta, .int el, .int mo, .int it, .int tb, .int tn, .int te, .int ab, .int qu])), (cu, .inr (0, [.ref b0, .int ln, .int ca, .int fa, .int fp])), (pc, .inr (2, [.ref pk, .ref pb, .ref pe, .ref pd, .int ps, .int pa])), (oe, .inr (1, [.ref ob, .ref on, .int 20, .int os])), (ta, .inr (1, [.ref tj, .ref tl, .int 8, .int ts]))] sz) := by
  refine Met.ofW (cc := cX3_beginText) (maxL := 1) (ret := none) (by decide) rfl ?_
  intro p e s m args below meth c s₁ B hml hv
  obtain ⟨rfl, hsz, hP, hK, hD0, hN⟩ := hv
  have hx := B.exec
  have hb := B.bytes
  have hr := B.returns
  have hts := tb_hts (atoms_spec (ws := .code yX3_beginText cX3_beginText 1 none :: tbW) B.pre)
  have hown : s.vm.findClass RX3 = some m.cls := findClass_of_methodNamed B.named
  have hlocks := B.notSynchronized
  subst hsz
  have hD := hD0.self (sz := s.heap.size)
  generalize hAe : va_A [(h0, .inr (3, [.ref cm, .int cl, .ref cu, .ref pc, .ref oe, .ref ta, .int el, .int mo, .int it, .int tb, .int tn, .int te, .int ab, .int qu])), (cu, .inr (0, [.ref b0, .int ln, .int ca, .int fa, .int fp])), (pc, .inr (2, [.ref pk, .ref pb, .ref pe, .ref pd, .int ps, .int pa])), (oe, .inr (1, [.ref ob, .ref on, .int 20, .int os])), (ta, .inr (1, [.ref tj, .ref tl, .int 8, .int ts]))] s.heap.size = A at hD ⊢
  have hA : ∀ q : Nat, s.heap.size ≤ q → A q := fun q h => by rw [← hAe]; exact Or.inr h
  have hS : va_S A s.heap s.heap [] := va_S.rf
  have hP : va_P D classes [(h0, .inr (3, [.ref cm, .int cl, .ref cu, .ref pc, .ref oe, .ref ta, .int el, .int mo, .int it, .int tb, .int tn, .int te, .int ab, .int qu])), (cu, .inr (0, [.ref b0, .int ln, .int ca, .int fa, .int fp])), (pc, .inr (2, [.ref pk, .ref pb, .ref pe, .ref pd, .int ps, .int pa])), (oe, .inr (1, [.ref ob, .ref on, .int 20, .int os])), (ta, .inr (1, [.ref tj, .ref tl, .int 8, .int ts]))] s.heap := hP
  have hl := lv_entry ([.ref h0]) (n := 1) (Nat.le_of_ble_eq_true rfl)
  rw [lg_entry_eq]
  generalize (lg_sl ([.ref h0]) ++ List.replicate (1 - (lg_sl ([.ref h0])).length) Slot.unset).toArray = ls at hl ⊢
  have hl : lv_has ls 1 [(0, .ref h0)] := hl
  refine lv_aload_n hx hb dX3_beginText_0 rfl (lv_at hl 0 rfl) ?_
  refine lv_aload_n hx hb dX3_beginText_1 rfl (lv_at hl 0 rfl) ?_
  refine va_get (D := D) (ci := 3) (v := .ref cu) (C := RX3) (T := TX3) (N := 14) hx hb hts inX3 hown hK hP 0 rfl rfl 2 (by decide) (hts (Cond.fieldLink "NestedTags" 16 "NestedTags" "cursor" "LNestedTags$Cursor;") kk_1_98) (fun _ h9 => h9) rfl dX3_beginText_2 ?_
  refine lv_aload_n hx hb dX3_beginText_5 rfl (lv_at hl 0 rfl) ?_
  refine va_get (D := D) (ci := 3) (v := .ref cm) (C := RX3) (T := TX3) (N := 14) hx hb hts inX3 hown hK hP 0 rfl rfl 0 (by decide) (hts (Cond.fieldLink "NestedTags" 9 "NestedTags" "coming" "[I") kk_1_96) (fun _ h9 => h9) rfl dX3_beginText_6 ?_
  refine lv_aload_n hx hb dX3_beginText_9 rfl (lv_at hl 0 rfl) ?_
  refine va_get (D := D) (ci := 3) (v := .int cl) (C := RX3) (T := TX3) (N := 14) hx hb hts inX3 hown hK hP 0 rfl rfl 1 (by decide) (hts (Cond.fieldLink "NestedTags" 43 "NestedTags" "comingLength" "I") kk_1_97) (fun _ h9 => h9) rfl dX3_beginText_10 ?_
  refine gcall_r (va_runV (As := [.ref cm, .int cl]) (rest := [.ref h0]) ⟨hx, hb, hml, hown, hts⟩ (c_X0_begin l D cI cu b0 ln ca fa fp cm s.heap.size cl) (cwV 2 hts (tb_goodV kk_1_151 kk_1_152 kk_1_153 kk_1_2 kk_1_154) rfl rfl rfl (by decide +kernel) ⟨Nat.le_of_ble_eq_true rfl, Nat.le_of_ble_eq_true rfl⟩) (gpreV hK hN (hP.sub [1] rfl) (hD.sub [1] (by decide) rfl) (va_recv hK hP (ci := 0) (q0 := 1) rfl rfl)) rfl rfl hl.1 rfl (lv_room (Nat.le_of_ble_eq_true rfl)) dX3_beginText_13 ⟨Nat.le_of_ble_eq_true rfl, Nat.le_of_ble_eq_true rfl⟩) hP hD hS hA [1] [0, 2, 3, 4] (wr := [(h0, .inr (3, [.ref cm, .int cl, .ref cu, .ref pc, .ref oe, .ref ta, .int el, .int mo, .int it, .int tb, .int tn, .int te, .int ab, .int qu])), (pc, .inr (2, [.ref pk, .ref pb, .ref pe, .ref pd, .int ps, .int pa])), (oe, .inr (1, [.ref ob, .ref on, .int 20, .int os])), (ta, .inr (1, [.ref tj, .ref tl, .int 8, .int ts]))]) rfl rfl (by decide) (by decide) (fun u_2 r_1 H locs hw_13 hP hD hS => ?_)
  try dsimp only at hw_13
  have hP : va_P D classes [(h0, .inr (3, [.ref cm, .int cl, .ref cu, .ref pc, .ref oe, .ref ta, .int el, .int mo, .int it, .int tb, .int tn, .int te, .int ab, .int qu])), (pc, .inr (2, [.ref pk, .ref pb, .ref pe, .ref pd, .int ps, .int pa])), (oe, .inr (1, [.ref ob, .ref on, .int 20, .int os])), (ta, .inr (1, [.ref tj, .ref tl, .int 8, .int ts])), (cu, .inr (0, [.ref cm, .int cl, .int 0, .int 0, .int (-1)]))] H := hP
  have hD : va_D A [(h0, .inr (3, [.ref cm, .int cl, .ref cu, .ref pc, .ref oe, .ref ta, .int el, .int mo, .int it, .int tb, .int tn, .int te, .int ab, .int qu])), (pc, .inr (2, [.ref pk, .ref pb, .ref pe, .ref pd, .int ps, .int pa])), (oe, .inr (1, [.ref ob, .ref on, .int 20, .int os])), (ta, .inr (1, [.ref tj, .ref tl, .int 8, .int ts])), (cu, .inr (0, [.ref cm, .int cl, .int 0, .int 0, .int (-1)]))] := hD
  rw [hw_13.2]
  refine va_put (D := D) (ci := 3) (v := .ref b0) (ty := .array .int) (C := RX3) (T := TX3) (N := 14) hx hb hts inX3 tyX3 tyX3_ok nmX3 hown hK hP hD hS 0 rfl rfl 0 (by decide) (hts (Cond.fieldLink "NestedTags" 9 "NestedTags" "coming" "[I") kk_1_96) (fun _ h9 => h9) rfl (by decide +kernel) rfl rfl (Nat.le_of_ble_eq_true rfl) dX3_beginText_16 (fun H locs hP hD hS => ?_)
  have hP : va_P D classes [(h0, .inr (3, [.ref b0, .int cl, .ref cu, .ref pc, .ref oe, .ref ta, .int el, .int mo, .int it, .int tb, .int tn, .int te, .int ab, .int qu])), (pc, .inr (2, [.ref pk, .ref pb, .ref pe, .ref pd, .int ps, .int pa])), (oe, .inr (1, [.ref ob, .ref on, .int 20, .int os])), (ta, .inr (1, [.ref tj, .ref tl, .int 8, .int ts])), (cu, .inr (0, [.ref cm, .int cl, .int 0, .int 0, .int (-1)]))] H := hP
  have hD : va_D A [(h0, .inr (3, [.ref b0, .int cl, .ref cu, .ref pc, .ref oe, .ref ta, .int el, .int mo, .int it, .int tb, .int tn, .int te, .int ab, .int qu])), (pc, .inr (2, [.ref pk, .ref pb, .ref pe, .ref pd, .int ps, .int pa])), (oe, .inr (1, [.ref ob, .ref on, .int 20, .int os])), (ta, .inr (1, [.ref tj, .ref tl, .int 8, .int ts])), (cu, .inr (0, [.ref cm, .int cl, .int 0, .int 0, .int (-1)]))] := hD
  refine lv_aload_n hx hb dX3_beginText_19 rfl (lv_at hl 0 rfl) ?_
  refine lv_iconst (v := 0) hx hb dX3_beginText_20 (by decide) ?_
  refine va_put (D := D) (ci := 3) (v := .int 0) (ty := .int) (C := RX3) (T := TX3) (N := 14) hx hb hts inX3 tyX3 tyX3_ok nmX3 hown hK hP hD hS 0 rfl rfl 1 (by decide) (hts (Cond.fieldLink "NestedTags" 43 "NestedTags" "comingLength" "I") kk_1_97) (fun _ h9 => h9) rfl (by decide +kernel) rfl rfl (Nat.le_of_ble_eq_true rfl) dX3_beginText_21 (fun H locs hP hD hS => ?_)
  have hP : va_P D classes [(h0, .inr (3, [.ref b0, .int 0, .ref cu, .ref pc, .ref oe, .ref ta, .int el, .int mo, .int it, .int tb, .int tn, .int te, .int ab, .int qu])), (pc, .inr (2, [.ref pk, .ref pb, .ref pe, .ref pd, .int ps, .int pa])), (oe, .inr (1, [.ref ob, .ref on, .int 20, .int os])), (ta, .inr (1, [.ref tj, .ref tl, .int 8, .int ts])), (cu, .inr (0, [.ref cm, .int cl, .int 0, .int 0, .int (-1)]))] H := hP
  have hD : va_D A [(h0, .inr (3, [.ref b0, .int 0, .ref cu, .ref pc, .ref oe, .ref ta, .int el, .int mo, .int it, .int tb, .int tn, .int te, .int ab, .int qu])), (pc, .inr (2, [.ref pk, .ref pb, .ref pe, .ref pd, .int ps, .int pa])), (oe, .inr (1, [.ref ob, .ref on, .int 20, .int os])), (ta, .inr (1, [.ref tj, .ref tl, .int 8, .int ts])), (cu, .inr (0, [.ref cm, .int cl, .int 0, .int 0, .int (-1)]))] := hD
  refine lv_aload_n hx hb dX3_beginText_24 rfl (lv_at hl 0 rfl) ?_
  refine va_get (D := D) (ci := 3) (v := .ref pc) (C := RX3) (T := TX3) (N := 14) hx hb hts inX3 hown hK hP 0 rfl rfl 3 (by decide) (hts (Cond.fieldLink "NestedTags" 23 "NestedTags" "pieces" "LNestedTags$Pieces;") kk_1_99) (fun _ h9 => h9) rfl dX3_beginText_25 ?_
  refine gcall_v (va_runV (As := []) (rest := []) ⟨hx, hb, hml, hown, hts⟩ (c_X2_clear l D cI pc pk pb pe pd ps pa H.size ) (cwV 0 hts (tb_goodV kk_1_155 kk_1_156 kk_1_157 kk_1_3 kk_1_158) rfl rfl rfl (by decide +kernel) ⟨Nat.le_of_ble_eq_true rfl, Nat.le_of_ble_eq_true rfl⟩) (gpreV hK hN (hP.sub [1] rfl) (hD.sub [1] (by decide) rfl) (va_recv hK hP (ci := 2) (q0 := 1) rfl rfl)) rfl rfl hl.1 rfl (lv_room (Nat.le_of_ble_eq_true rfl)) dX3_beginText_28 ⟨Nat.le_of_ble_eq_true rfl, Nat.le_of_ble_eq_true rfl⟩) hP hD hS hA [1] [0, 2, 3, 4] (wr := [(h0, .inr (3, [.ref b0, .int 0, .ref cu, .ref pc, .ref oe, .ref ta, .int el, .int mo, .int it, .int tb, .int tn, .int te, .int ab, .int qu])), (oe, .inr (1, [.ref ob, .ref on, .int 20, .int os])), (ta, .inr (1, [.ref tj, .ref tl, .int 8, .int ts])), (cu, .inr (0, [.ref cm, .int cl, .int 0, .int 0, .int (-1)]))]) rfl rfl (by decide) (by decide) (fun u_4 H locs hw_28 hP hD hS => ?_)
  try dsimp only at hw_28
  have hP : va_P D classes [(h0, .inr (3, [.ref b0, .int 0, .ref cu, .ref pc, .ref oe, .ref ta, .int el, .int mo, .int it, .int tb, .int tn, .int te, .int ab, .int qu])), (oe, .inr (1, [.ref ob, .ref on, .int 20, .int os])), (ta, .inr (1, [.ref tj, .ref tl, .int 8, .int ts])), (cu, .inr (0, [.ref cm, .int cl, .int 0, .int 0, .int (-1)])), (pc, .inr (2, [.ref pk, .ref pb, .ref pe, .ref pd, .int 0, .int 0]))] H := hP
  have hD : va_D A [(h0, .inr (3, [.ref b0, .int 0, .ref cu, .ref pc, .ref oe, .ref ta, .int el, .int mo, .int it, .int tb, .int tn, .int te, .int ab, .int qu])), (oe, .inr (1, [.ref ob, .ref on, .int 20, .int os])), (ta, .inr (1, [.ref tj, .ref tl, .int 8, .int ts])), (cu, .inr (0, [.ref cm, .int cl, .int 0, .int 0, .int (-1)])), (pc, .inr (2, [.ref pk, .ref pb, .ref pe, .ref pd, .int 0, .int 0]))] := hD
  refine lv_aload_n hx hb dX3_beginText_31 rfl (lv_at hl 0 rfl) ?_
  refine va_get (D := D) (ci := 3) (v := .ref oe) (C := RX3) (T := TX3) (N := 14) hx hb hts inX3 hown hK hP 0 rfl rfl 4 (by decide) (hts (Cond.fieldLink "NestedTags" 32 "NestedTags" "openElements" "LNestedTags$Names;") kk_1_100) (fun _ h9 => h9) rfl dX3_beginText_32 ?_
  refine gcall_v (va_runV (As := []) (rest := []) ⟨hx, hb, hml, hown, hts⟩ (c_X1_clear l D cI oe ob on 20 os H.size ) (cwV 0 hts (tb_goodV kk_1_159 kk_1_160 kk_1_161 kk_1_4 kk_1_162) rfl rfl rfl (by decide +kernel) ⟨Nat.le_of_ble_eq_true rfl, Nat.le_of_ble_eq_true rfl⟩) (gpreV hK hN (hP.sub [1] rfl) (hD.sub [1] (by decide) rfl) (va_recv hK hP (ci := 1) (q0 := 1) rfl rfl)) rfl rfl hl.1 rfl (lv_room (Nat.le_of_ble_eq_true rfl)) dX3_beginText_35 ⟨Nat.le_of_ble_eq_true rfl, Nat.le_of_ble_eq_true rfl⟩) hP hD hS hA [1] [0, 2, 3, 4] (wr := [(h0, .inr (3, [.ref b0, .int 0, .ref cu, .ref pc, .ref oe, .ref ta, .int el, .int mo, .int it, .int tb, .int tn, .int te, .int ab, .int qu])), (ta, .inr (1, [.ref tj, .ref tl, .int 8, .int ts])), (cu, .inr (0, [.ref cm, .int cl, .int 0, .int 0, .int (-1)])), (pc, .inr (2, [.ref pk, .ref pb, .ref pe, .ref pd, .int 0, .int 0]))]) rfl rfl (by decide) (by decide) (fun u_6 H locs hw_35 hP hD hS => ?_)
  try dsimp only at hw_35
  have hP : va_P D classes [(h0, .inr (3, [.ref b0, .int 0, .ref cu, .ref pc, .ref oe, .ref ta, .int el, .int mo, .int it, .int tb, .int tn, .int te, .int ab, .int qu])), (ta, .inr (1, [.ref tj, .ref tl, .int 8, .int ts])), (cu, .inr (0, [.ref cm, .int cl, .int 0, .int 0, .int (-1)])), (pc, .inr (2, [.ref pk, .ref pb, .ref pe, .ref pd, .int 0, .int 0])), (oe, .inr (1, [.ref ob, .ref on, .int 20, .int 0]))] H := hP
  have hD : va_D A [(h0, .inr (3, [.ref b0, .int 0, .ref cu, .ref pc, .ref oe, .ref ta, .int el, .int mo, .int it, .int tb, .int tn, .int te, .int ab, .int qu])), (ta, .inr (1, [.ref tj, .ref tl, .int 8, .int ts])), (cu, .inr (0, [.ref cm, .int cl, .int 0, .int 0, .int (-1)])), (pc, .inr (2, [.ref pk, .ref pb, .ref pe, .ref pd, .int 0, .int 0])), (oe, .inr (1, [.ref ob, .ref on, .int 20, .int 0]))] := hD
  refine lv_aload_n hx hb dX3_beginText_38 rfl (lv_at hl 0 rfl) ?_
  refine va_get (D := D) (ci := 3) (v := .ref ta) (C := RX3) (T := TX3) (N := 14) hx hb hts inX3 hown hK hP 0 rfl rfl 5 (by decide) (hts (Cond.fieldLink "NestedTags" 36 "NestedTags" "tagAttributes" "LNestedTags$Names;") kk_1_101) (fun _ h9 => h9) rfl dX3_beginText_39 ?_
  refine gcall_v (va_runV (As := []) (rest := []) ⟨hx, hb, hml, hown, hts⟩ (c_X1_clear l D cI ta tj tl 8 ts H.size ) (cwV 0 hts (tb_goodV kk_1_159 kk_1_160 kk_1_161 kk_1_4 kk_1_162) rfl rfl rfl (by decide +kernel) ⟨Nat.le_of_ble_eq_true rfl, Nat.le_of_ble_eq_true rfl⟩) (gpreV hK hN (hP.sub [1] rfl) (hD.sub [1] (by decide) rfl) (va_recv hK hP (ci := 1) (q0 := 1) rfl rfl)) rfl rfl hl.1 rfl (lv_room (Nat.le_of_ble_eq_true rfl)) dX3_beginText_42 ⟨Nat.le_of_ble_eq_true rfl, Nat.le_of_ble_eq_true rfl⟩) hP hD hS hA [1] [0, 2, 3, 4] (wr := [(h0, .inr (3, [.ref b0, .int 0, .ref cu, .ref pc, .ref oe, .ref ta, .int el, .int mo, .int it, .int tb, .int tn, .int te, .int ab, .int qu])), (cu, .inr (0, [.ref cm, .int cl, .int 0, .int 0, .int (-1)])), (pc, .inr (2, [.ref pk, .ref pb, .ref pe, .ref pd, .int 0, .int 0])), (oe, .inr (1, [.ref ob, .ref on, .int 20, .int 0]))]) rfl rfl (by decide) (by decide) (fun u_8 H locs hw_42 hP hD hS => ?_)
  try dsimp only at hw_42
  have hP : va_P D classes [(h0, .inr (3, [.ref b0, .int 0, .ref cu, .ref pc, .ref oe, .ref ta, .int el, .int mo, .int it, .int tb, .int tn, .int te, .int ab, .int qu])), (cu, .inr (0, [.ref cm, .int cl, .int 0, .int 0, .int (-1)])), (pc, .inr (2, [.ref pk, .ref pb, .ref pe, .ref pd, .int 0, .int 0])), (oe, .inr (1, [.ref ob, .ref on, .int 20, .int 0])), (ta, .inr (1, [.ref tj, .ref tl, .int 8, .int 0]))] H := hP
  have hD : va_D A [(h0, .inr (3, [.ref b0, .int 0, .ref cu, .ref pc, .ref oe, .ref ta, .int el, .int mo, .int it, .int tb, .int tn, .int te, .int ab, .int qu])), (cu, .inr (0, [.ref cm, .int cl, .int 0, .int 0, .int (-1)])), (pc, .inr (2, [.ref pk, .ref pb, .ref pe, .ref pd, .int 0, .int 0])), (oe, .inr (1, [.ref ob, .ref on, .int 20, .int 0])), (ta, .inr (1, [.ref tj, .ref tl, .int 8, .int 0]))] := hD
  refine lv_aload_n hx hb dX3_beginText_45 rfl (lv_at hl 0 rfl) ?_
  refine lv_iconst (v := 0) hx hb dX3_beginText_46 (by decide) ?_
  refine va_put (D := D) (ci := 3) (v := .int 0) (ty := .int) (C := RX3) (T := TX3) (N := 14) hx hb hts inX3 tyX3 tyX3_ok nmX3 hown hK hP hD hS 0 rfl rfl 6 (by decide) (hts (Cond.fieldLink "NestedTags" 86 "NestedTags" "elements" "I") kk_1_102) (fun _ h9 => h9) rfl (by decide +kernel) rfl rfl (Nat.le_of_ble_eq_true rfl) dX3_beginText_47 (fun H locs hP hD hS => ?_)
  have hP : va_P D classes [(h0, .inr (3, [.ref b0, .int 0, .ref cu, .ref pc, .ref oe, .ref ta, .int 0, .int mo, .int it, .int tb, .int tn, .int te, .int ab, .int qu])), (cu, .inr (0, [.ref cm, .int cl, .int 0, .int 0, .int (-1)])), (pc, .inr (2, [.ref pk, .ref pb, .ref pe, .ref pd, .int 0, .int 0])), (oe, .inr (1, [.ref ob, .ref on, .int 20, .int 0])), (ta, .inr (1, [.ref tj, .ref tl, .int 8, .int 0]))] H := hP
  have hD : va_D A [(h0, .inr (3, [.ref b0, .int 0, .ref cu, .ref pc, .ref oe, .ref ta, .int 0, .int mo, .int it, .int tb, .int tn, .int te, .int ab, .int qu])), (cu, .inr (0, [.ref cm, .int cl, .int 0, .int 0, .int (-1)])), (pc, .inr (2, [.ref pk, .ref pb, .ref pe, .ref pd, .int 0, .int 0])), (oe, .inr (1, [.ref ob, .ref on, .int 20, .int 0])), (ta, .inr (1, [.ref tj, .ref tl, .int 8, .int 0]))] := hD
  refine lv_aload_n hx hb dX3_beginText_50 rfl (lv_at hl 0 rfl) ?_
  refine lv_iconst (v := 0) hx hb dX3_beginText_51 (by decide) ?_
  refine va_put (D := D) (ci := 3) (v := .int 0) (ty := .int) (C := RX3) (T := TX3) (N := 14) hx hb hts inX3 tyX3 tyX3_ok nmX3 hown hK hP hD hS 0 rfl rfl 7 (by decide) (hts (Cond.fieldLink "NestedTags" 89 "NestedTags" "mostOpen" "I") kk_1_103) (fun _ h9 => h9) rfl (by decide +kernel) rfl rfl (Nat.le_of_ble_eq_true rfl) dX3_beginText_52 (fun H locs hP hD hS => ?_)
  have hP : va_P D classes [(h0, .inr (3, [.ref b0, .int 0, .ref cu, .ref pc, .ref oe, .ref ta, .int 0, .int 0, .int it, .int tb, .int tn, .int te, .int ab, .int qu])), (cu, .inr (0, [.ref cm, .int cl, .int 0, .int 0, .int (-1)])), (pc, .inr (2, [.ref pk, .ref pb, .ref pe, .ref pd, .int 0, .int 0])), (oe, .inr (1, [.ref ob, .ref on, .int 20, .int 0])), (ta, .inr (1, [.ref tj, .ref tl, .int 8, .int 0]))] H := hP
  have hD : va_D A [(h0, .inr (3, [.ref b0, .int 0, .ref cu, .ref pc, .ref oe, .ref ta, .int 0, .int 0, .int it, .int tb, .int tn, .int te, .int ab, .int qu])), (cu, .inr (0, [.ref cm, .int cl, .int 0, .int 0, .int (-1)])), (pc, .inr (2, [.ref pk, .ref pb, .ref pe, .ref pd, .int 0, .int 0])), (oe, .inr (1, [.ref ob, .ref on, .int 20, .int 0])), (ta, .inr (1, [.ref tj, .ref tl, .int 8, .int 0]))] := hD
  refine lv_aload_n hx hb dX3_beginText_55 rfl (lv_at hl 0 rfl) ?_
  refine lv_iconst (v := 0) hx hb dX3_beginText_56 (by decide) ?_
  refine va_put (D := D) (ci := 3) (v := .int 0) (ty := .boolean) (C := RX3) (T := TX3) (N := 14) hx hb hts inX3 tyX3 tyX3_ok nmX3 hown hK hP hD hS 0 rfl rfl 8 (by decide) (hts (Cond.fieldLink "NestedTags" 56 "NestedTags" "inTag" "Z") kk_1_104) (fun _ h9 => h9) rfl (by decide +kernel) rfl rfl (Nat.le_of_ble_eq_true rfl) dX3_beginText_57 (fun H locs hP hD hS => ?_)
  have hP : va_P D classes [(h0, .inr (3, [.ref b0, .int 0, .ref cu, .ref pc, .ref oe, .ref ta, .int 0, .int 0, .int 0, .int tb, .int tn, .int te, .int ab, .int qu])), (cu, .inr (0, [.ref cm, .int cl, .int 0, .int 0, .int (-1)])), (pc, .inr (2, [.ref pk, .ref pb, .ref pe, .ref pd, .int 0, .int 0])), (oe, .inr (1, [.ref ob, .ref on, .int 20, .int 0])), (ta, .inr (1, [.ref tj, .ref tl, .int 8, .int 0]))] H := hP
  have hD : va_D A [(h0, .inr (3, [.ref b0, .int 0, .ref cu, .ref pc, .ref oe, .ref ta, .int 0, .int 0, .int 0, .int tb, .int tn, .int te, .int ab, .int qu])), (cu, .inr (0, [.ref cm, .int cl, .int 0, .int 0, .int (-1)])), (pc, .inr (2, [.ref pk, .ref pb, .ref pe, .ref pd, .int 0, .int 0])), (oe, .inr (1, [.ref ob, .ref on, .int 20, .int 0])), (ta, .inr (1, [.ref tj, .ref tl, .int 8, .int 0]))] := hD
  refine lv_aload_n hx hb dX3_beginText_60 rfl (lv_at hl 0 rfl) ?_
  refine lv_iconst (v := (-1)) hx hb dX3_beginText_61 (by decide) ?_
  refine va_put (D := D) (ci := 3) (v := .int (-1)) (ty := .int) (C := RX3) (T := TX3) (N := 14) hx hb hts inX3 tyX3 tyX3_ok nmX3 hown hK hP hD hS 0 rfl rfl 13 (by decide) (hts (Cond.fieldLink "NestedTags" 39 "NestedTags" "quote" "I") kk_1_109) (fun _ h9 => h9) rfl (by decide +kernel) rfl rfl (Nat.le_of_ble_eq_true rfl) dX3_beginText_62 (fun H locs hP hD hS => ?_)
  have hP : va_P D classes [(h0, .inr (3, [.ref b0, .int 0, .ref cu, .ref pc, .ref oe, .ref ta, .int 0, .int 0, .int 0, .int tb, .int tn, .int te, .int ab, .int (-1)])), (cu, .inr (0, [.ref cm, .int cl, .int 0, .int 0, .int (-1)])), (pc, .inr (2, [.ref pk, .ref pb, .ref pe, .ref pd, .int 0, .int 0])), (oe, .inr (1, [.ref ob, .ref on, .int 20, .int 0])), (ta, .inr (1, [.ref tj, .ref tl, .int 8, .int 0]))] H := hP
  have hD : va_D A [(h0, .inr (3, [.ref b0, .int 0, .ref cu, .ref pc, .ref oe, .ref ta, .int 0, .int 0, .int 0, .int tb, .int tn, .int te, .int ab, .int (-1)])), (cu, .inr (0, [.ref cm, .int cl, .int 0, .int 0, .int (-1)])), (pc, .inr (2, [.ref pk, .ref pb, .ref pe, .ref pd, .int 0, .int 0])), (oe, .inr (1, [.ref ob, .ref on, .int 20, .int 0])), (ta, .inr (1, [.ref tj, .ref tl, .int 8, .int 0]))] := hD
  have hP9 := hP.sub (ws' := [(h0, .inr (3, [.ref b0, .int 0, .ref cu, .ref pc, .ref oe, .ref ta, .int 0, .int 0, .int 0, .int tb, .int tn, .int te, .int ab, .int (-1)])), (cu, .inr (0, [.ref cm, .int cl, .int 0, .int 0, .int (-1)])), (pc, .inr (2, [.ref pk, .ref pb, .ref pe, .ref pd, .int 0, .int 0])), (oe, .inr (1, [.ref ob, .ref on, .int 20, .int 0])), (ta, .inr (1, [.ref tj, .ref tl, .int 8, .int 0]))]) [0, 1, 2, 3, 4] rfl
  have hD9 := hD.sub (ws' := [(h0, .inr (3, [.ref b0, .int 0, .ref cu, .ref pc, .ref oe, .ref ta, .int 0, .int 0, .int 0, .int tb, .int tn, .int te, .int ab, .int (-1)])), (cu, .inr (0, [.ref cm, .int cl, .int 0, .int 0, .int (-1)])), (pc, .inr (2, [.ref pk, .ref pb, .ref pe, .ref pd, .int 0, .int 0])), (oe, .inr (1, [.ref ob, .ref on, .int 20, .int 0])), (ta, .inr (1, [.ref tj, .ref tl, .int 8, .int 0]))]) [0, 1, 2, 3, 4] (by decide) rfl
  exact W.vret hx hb hr (fun t ht hW => ⟨⟨(), rfl, trivial, by rw [ht]; exact hP9, va_K.moved hW.alike hK, hD9⟩, hS.F ht⟩) hS.2.2 dX3_beginText_65

set_option maxHeartbeats 4000000 in
set_option maxRecDepth 100000 in
/-- endText: the text must be whole -/
theorem c_X3_endText (l : Launch) (D : va_G) (cI : ClassId) (h0 : Nat) (cm : Nat) (cl : Int32) (cu : Nat) (pc : Nat) (oe : Nat) (ta : Nat) (el : Int32) (mo : Int32) (it : Int32) (tb : Int32) (tn : Int32) (te : Int32) (ab : Int32) (qu : Int32) (b0 : Nat) (ln : Int32) (ca : Int32) (fa : Int32) (fp : Int32) (ob : Nat) (on : Nat) (os : Int32) (sz : Nat)   : Met l yX3_endText (.code yX3_endText cX3_endText 2 none :: tbW) ({ frames := 2, cells := 0, slots := 0, locals := 42 }) (va_Pc [.ref h0] (gP D cI [(h0, .inr (3, [.ref cm, .int cl, .ref cu, .ref pc, .ref oe, .ref ta, .int el, .int mo, .int it, .int tb, .int tn, .int te, .int ab, .int qu])), (cu, .inr (0, [.ref b0, .int ln, .int ca, .int fa, .int fp])), (oe, .inr (1, [.ref ob, .ref on, .int 20, .int os]))] sz)) (va_Qv (fun (u : Int32 × Int32) => (u.1, u.2) = if 0 < el ∧ os = 0 ∧ it = 0 then (fa, fp) else if fa = 0 then (2, ca) else (fa, fp)) (fun u => gB D cI (va_A [(h0, .inr (3, [.ref cm, .int cl, .ref cu, .ref pc, .ref oe, .ref ta, .int el, .int mo, .int it, .int tb, .int tn, .int te, .int ab, .int qu])), (cu, .inr (0, [.ref b0, .int ln, .int ca, .int fa, .int fp])), (oe, .inr (1, [.ref ob, .ref on, .int 20, .int os]))] sz) [(h0, .inr (3, [.ref cm, .int cl, .ref cu, .ref pc, .ref oe, .ref ta, .int el, .int mo, .int it, .int tb, .int tn, .int te, .int ab, .int qu])), (cu, .inr (0, [.ref b0, .int ln, .int ca, .int u.1, .int u.2])), (oe, .inr (1, [.ref ob, .ref on, .int 20, .int os]))]) (va_A [(h0, .inr (3, [.ref cm, .int cl, .ref cu, .ref pc, .ref oe, .ref ta, .int el, .int mo, .int it, .int tb, .int tn, .int te, .int ab, .int qu])), (cu, .inr (0, [.ref b0, .int ln, .int ca, .int fa, .int fp])), (oe, .inr (1, [.ref ob, .ref on, .int 20, .int os]))] sz)) 0 0 (va_A [(h0, .inr (3, [.ref cm, .int cl, .ref cu, .ref pc, .ref oe, .ref ta, .int el, .int mo, .int it, .int tb, .int tn, .int te, .int ab, .int qu])), (cu, .inr (0, [.ref b0, .int ln, .int ca, .int fa, .int fp])), (oe, .inr (1, [.ref ob, .ref on, .int 20, .int os]))] sz) := by
  refine Met.ofW (cc := cX3_endText) (maxL := 2) (ret := none) (by decide) rfl ?_
  intro p e s m args below meth c s₁ B hml hv
  obtain ⟨rfl, hsz, hP, hK, hD0, hN⟩ := hv
  have hx := B.exec
  have hb := B.bytes
  have hr := B.returns
  have hts := tb_hts (atoms_spec (ws := .code yX3_endText cX3_endText 2 none :: tbW) B.pre)
  have hown : s.vm.findClass RX3 = some m.cls := findClass_of_methodNamed B.named
  have hlocks := B.notSynchronized
  subst hsz
  have hD := hD0.self (sz := s.heap.size)
  generalize hAe : va_A [(h0, .inr (3, [.ref cm, .int cl, .ref cu, .ref pc, .ref oe, .ref ta, .int el, .int mo, .int it, .int tb, .int tn, .int te, .int ab, .int qu])), (cu, .inr (0, [.ref b0, .int ln, .int ca, .int fa, .int fp])), (oe, .inr (1, [.ref ob, .ref on, .int 20, .int os]))] s.heap.size = A at hD ⊢
  have hA : ∀ q : Nat, s.heap.size ≤ q → A q := fun q h => by rw [← hAe]; exact Or.inr h
  have hS : va_S A s.heap s.heap [] := va_S.rf
  have hP : va_P D classes [(h0, .inr (3, [.ref cm, .int cl, .ref cu, .ref pc, .ref oe, .ref ta, .int el, .int mo, .int it, .int tb, .int tn, .int te, .int ab, .int qu])), (cu, .inr (0, [.ref b0, .int ln, .int ca, .int fa, .int fp])), (oe, .inr (1, [.ref ob, .ref on, .int 20, .int os]))] s.heap := hP
  have hl := lv_entry ([.ref h0]) (n := 2) (Nat.le_of_ble_eq_true rfl)
  rw [lg_entry_eq]
  generalize (lg_sl ([.ref h0]) ++ List.replicate (2 - (lg_sl ([.ref h0])).length) Slot.unset).toArray = ls at hl ⊢
  have hl : lv_has ls 2 [(0, .ref h0)] := hl
  refine lv_aload_n hx hb dX3_endText_0 rfl (lv_at hl 0 rfl) ?_
  refine va_get (D := D) (ci := 3) (v := .int el) (C := RX3) (T := TX3) (N := 14) hx hb hts inX3 hown hK hP 0 rfl rfl 6 (by decide) (hts (Cond.fieldLink "NestedTags" 86 "NestedTags" "elements" "I") kk_1_102) (fun _ h9 => h9) rfl dX3_endText_1 ?_
  refine lv_if_le (tgt := 28) hx hb dX3_endText_4 (by decide) (fun c_4 => ?_) (fun c_4 => ?_)
  · skip
    refine lv_iconst (v := 0) hx hb dX3_endText_28 (by decide) ?_
    refine lv_istore_n (lv' := [(1, .int 0), (0, .ref h0)]) hx hb dX3_endText_29 rfl hl (by decide) rfl (fun ls hl => ?_)
    refine lv_iload_n hx hb dX3_endText_30 rfl (lv_at hl 0 rfl) ?_
    refine lv_if_ne (tgt := 42) hx hb dX3_endText_31 (by decide) (fun c_31 => ?_) (fun c_31 => ?_)
    · skip
      exact absurd c_31 (by decide)
    · skip
      refine lv_aload_n hx hb dX3_endText_34 rfl (lv_at hl 1 rfl) ?_
      refine va_get (D := D) (ci := 3) (v := .ref cu) (C := RX3) (T := TX3) (N := 14) hx hb hts inX3 hown hK hP 0 rfl rfl 2 (by decide) (hts (Cond.fieldLink "NestedTags" 16 "NestedTags" "cursor" "LNestedTags$Cursor;") kk_1_98) (fun _ h9 => h9) rfl dX3_endText_35 ?_
      refine gcall_i (va_runV (As := []) (rest := []) ⟨hx, hb, hml, hown, hts⟩ (c_X0_failHere l D cI cu b0 ln ca fa fp s.heap.size ) (cwV 0 hts (tb_goodV kk_2_28 kk_2_10 kk_2_11 kk_1_2 kk_2_12) rfl rfl rfl (by decide +kernel) ⟨Nat.le_of_ble_eq_true rfl, Nat.le_of_ble_eq_true rfl⟩) (gpreV hK hN (hP.sub [1] rfl) (hD.sub [1] (by decide) rfl) (va_recv hK hP (ci := 0) (q0 := 1) rfl rfl)) rfl rfl hl.1 rfl (lv_room (Nat.le_of_ble_eq_true rfl)) dX3_endText_38 ⟨Nat.le_of_ble_eq_true rfl, Nat.le_of_ble_eq_true rfl⟩) hP hD hS hA [1] [0, 2] (wr := [(h0, .inr (3, [.ref cm, .int cl, .ref cu, .ref pc, .ref oe, .ref ta, .int el, .int mo, .int it, .int tb, .int tn, .int te, .int ab, .int qu])), (oe, .inr (1, [.ref ob, .ref on, .int 20, .int os]))]) rfl rfl (by decide) (by decide) (fun r_1 u_2 H locs hw_38 hP hD hS => ?_)
      obtain ⟨fa_3, fp_4⟩ := u_2
      try dsimp only at hw_38
      have hP : va_P D classes [(h0, .inr (3, [.ref cm, .int cl, .ref cu, .ref pc, .ref oe, .ref ta, .int el, .int mo, .int it, .int tb, .int tn, .int te, .int ab, .int qu])), (oe, .inr (1, [.ref ob, .ref on, .int 20, .int os])), (cu, .inr (0, [.ref b0, .int ln, .int ca, .int fa_3, .int fp_4]))] H := hP
      have hD : va_D A [(h0, .inr (3, [.ref cm, .int cl, .ref cu, .ref pc, .ref oe, .ref ta, .int el, .int mo, .int it, .int tb, .int tn, .int te, .int ab, .int qu])), (oe, .inr (1, [.ref ob, .ref on, .int 20, .int os])), (cu, .inr (0, [.ref b0, .int ln, .int ca, .int fa_3, .int fp_4]))] := hD
      refine lv_pop hx hb dX3_endText_41 rfl ?_
      have hP9 := hP.sub (ws' := [(h0, .inr (3, [.ref cm, .int cl, .ref cu, .ref pc, .ref oe, .ref ta, .int el, .int mo, .int it, .int tb, .int tn, .int te, .int ab, .int qu])), (cu, .inr (0, [.ref b0, .int ln, .int ca, .int fa_3, .int fp_4])), (oe, .inr (1, [.ref ob, .ref on, .int 20, .int os]))]) [0, 2, 1] rfl
      have hD9 := hD.sub (ws' := [(h0, .inr (3, [.ref cm, .int cl, .ref cu, .ref pc, .ref oe, .ref ta, .int el, .int mo, .int it, .int tb, .int tn, .int te, .int ab, .int qu])), (cu, .inr (0, [.ref b0, .int ln, .int ca, .int fa_3, .int fp_4])), (oe, .inr (1, [.ref ob, .ref on, .int 20, .int os]))]) [0, 2, 1] (by decide) rfl
      exact W.vret hx hb hr (fun t ht hW => ⟨⟨(fa_3, fp_4), rfl, by rw [if_neg (fun q => absurd q.1 (Int32.not_lt.mpr c_4))]; exact hw_38.2, by rw [ht]; exact hP9, va_K.moved hW.alike hK, hD9⟩, hS.F ht⟩) hS.2.2 dX3_endText_42
  · skip
    refine lv_aload_n hx hb dX3_endText_7 rfl (lv_at hl 0 rfl) ?_
    refine va_get (D := D) (ci := 3) (v := .ref oe) (C := RX3) (T := TX3) (N := 14) hx hb hts inX3 hown hK hP 0 rfl rfl 4 (by decide) (hts (Cond.fieldLink "NestedTags" 32 "NestedTags" "openElements" "LNestedTags$Names;") kk_1_100) (fun _ h9 => h9) rfl dX3_endText_8 ?_
    refine va_getN (D := D) (ci := 1) (v := .int os) (C := RX1) (T := TX1) (N := 4) hx hb hts inX1 hown hK hP 2 rfl rfl 3 (by decide) (va_Nw.use rfl (nv_f hN 6 rfl)) (fun _ h9 => h9) rfl dX3_endText_11 ?_
    refine lv_if_ne (tgt := 28) hx hb dX3_endText_14 (by decide) (fun c_14 => ?_) (fun c_14 => ?_)
    · skip
      refine lv_iconst (v := 0) hx hb dX3_endText_28 (by decide) ?_
      refine lv_istore_n (lv' := [(1, .int 0), (0, .ref h0)]) hx hb dX3_endText_29 rfl hl (by decide) rfl (fun ls hl => ?_)
      refine lv_iload_n hx hb dX3_endText_30 rfl (lv_at hl 0 rfl) ?_
      refine lv_if_ne (tgt := 42) hx hb dX3_endText_31 (by decide) (fun c_31 => ?_) (fun c_31 => ?_)
      · skip
        exact absurd c_31 (by decide)
      · skip
        refine lv_aload_n hx hb dX3_endText_34 rfl (lv_at hl 1 rfl) ?_
        refine va_get (D := D) (ci := 3) (v := .ref cu) (C := RX3) (T := TX3) (N := 14) hx hb hts inX3 hown hK hP 0 rfl rfl 2 (by decide) (hts (Cond.fieldLink "NestedTags" 16 "NestedTags" "cursor" "LNestedTags$Cursor;") kk_1_98) (fun _ h9 => h9) rfl dX3_endText_35 ?_
        refine gcall_i (va_runV (As := []) (rest := []) ⟨hx, hb, hml, hown, hts⟩ (c_X0_failHere l D cI cu b0 ln ca fa fp s.heap.size ) (cwV 0 hts (tb_goodV kk_2_28 kk_2_10 kk_2_11 kk_1_2 kk_2_12) rfl rfl rfl (by decide +kernel) ⟨Nat.le_of_ble_eq_true rfl, Nat.le_of_ble_eq_true rfl⟩) (gpreV hK hN (hP.sub [1] rfl) (hD.sub [1] (by decide) rfl) (va_recv hK hP (ci := 0) (q0 := 1) rfl rfl)) rfl rfl hl.1 rfl (lv_room (Nat.le_of_ble_eq_true rfl)) dX3_endText_38 ⟨Nat.le_of_ble_eq_true rfl, Nat.le_of_ble_eq_true rfl⟩) hP hD hS hA [1] [0, 2] (wr := [(h0, .inr (3, [.ref cm, .int cl, .ref cu, .ref pc, .ref oe, .ref ta, .int el, .int mo, .int it, .int tb, .int tn, .int te, .int ab, .int qu])), (oe, .inr (1, [.ref ob, .ref on, .int 20, .int os]))]) rfl rfl (by decide) (by decide) (fun r_5 u_6 H locs hw_38 hP hD hS => ?_)
        obtain ⟨fa_7, fp_8⟩ := u_6
        try dsimp only at hw_38
        have hP : va_P D classes [(h0, .inr (3, [.ref cm, .int cl, .ref cu, .ref pc, .ref oe, .ref ta, .int el, .int mo, .int it, .int tb, .int tn, .int te, .int ab, .int qu])), (oe, .inr (1, [.ref ob, .ref on, .int 20, .int os])), (cu, .inr (0, [.ref b0, .int ln, .int ca, .int fa_7, .int fp_8]))] H := hP
        have hD : va_D A [(h0, .inr (3, [.ref cm, .int cl, .ref cu, .ref pc, .ref oe, .ref ta, .int el, .int mo, .int it, .int tb, .int tn, .int te, .int ab, .int qu])), (oe, .inr (1, [.ref ob, .ref on, .int 20, .int os])), (cu, .inr (0, [.ref b0, .int ln, .int ca, .int fa_7, .int fp_8]))] := hD
        refine lv_pop hx hb dX3_endText_41 rfl ?_
        have hP9 := hP.sub (ws' := [(h0, .inr (3, [.ref cm, .int cl, .ref cu, .ref pc, .ref oe, .ref ta, .int el, .int mo, .int it, .int tb, .int tn, .int te, .int ab, .int qu])), (cu, .inr (0, [.ref b0, .int ln, .int ca, .int fa_7, .int fp_8])), (oe, .inr (1, [.ref ob, .ref on, .int 20, .int os]))]) [0, 2, 1] rfl
        have hD9 := hD.sub (ws' := [(h0, .inr (3, [.ref cm, .int cl, .ref cu, .ref pc, .ref oe, .ref ta, .int el, .int mo, .int it, .int tb, .int tn, .int te, .int ab, .int qu])), (cu, .inr (0, [.ref b0, .int ln, .int ca, .int fa_7, .int fp_8])), (oe, .inr (1, [.ref ob, .ref on, .int 20, .int os]))]) [0, 2, 1] (by decide) rfl
        exact W.vret hx hb hr (fun t ht hW => ⟨⟨(fa_7, fp_8), rfl, by rw [if_neg (fun q => c_14 q.2.1)]; exact hw_38.2, by rw [ht]; exact hP9, va_K.moved hW.alike hK, hD9⟩, hS.F ht⟩) hS.2.2 dX3_endText_42
    · skip
      refine lv_aload_n hx hb dX3_endText_17 rfl (lv_at hl 0 rfl) ?_
      refine va_get (D := D) (ci := 3) (v := .int it) (C := RX3) (T := TX3) (N := 14) hx hb hts inX3 hown hK hP 0 rfl rfl 8 (by decide) (hts (Cond.fieldLink "NestedTags" 56 "NestedTags" "inTag" "Z") kk_1_104) (fun _ h9 => h9) rfl dX3_endText_18 ?_
      refine lv_if_ne (tgt := 28) hx hb dX3_endText_21 (by decide) (fun c_21 => ?_) (fun c_21 => ?_)
      · skip
        refine lv_iconst (v := 0) hx hb dX3_endText_28 (by decide) ?_
        refine lv_istore_n (lv' := [(1, .int 0), (0, .ref h0)]) hx hb dX3_endText_29 rfl hl (by decide) rfl (fun ls hl => ?_)
        refine lv_iload_n hx hb dX3_endText_30 rfl (lv_at hl 0 rfl) ?_
        refine lv_if_ne (tgt := 42) hx hb dX3_endText_31 (by decide) (fun c_31 => ?_) (fun c_31 => ?_)
        · skip
          exact absurd c_31 (by decide)
        · skip
          refine lv_aload_n hx hb dX3_endText_34 rfl (lv_at hl 1 rfl) ?_
          refine va_get (D := D) (ci := 3) (v := .ref cu) (C := RX3) (T := TX3) (N := 14) hx hb hts inX3 hown hK hP 0 rfl rfl 2 (by decide) (hts (Cond.fieldLink "NestedTags" 16 "NestedTags" "cursor" "LNestedTags$Cursor;") kk_1_98) (fun _ h9 => h9) rfl dX3_endText_35 ?_
          refine gcall_i (va_runV (As := []) (rest := []) ⟨hx, hb, hml, hown, hts⟩ (c_X0_failHere l D cI cu b0 ln ca fa fp s.heap.size ) (cwV 0 hts (tb_goodV kk_2_28 kk_2_10 kk_2_11 kk_1_2 kk_2_12) rfl rfl rfl (by decide +kernel) ⟨Nat.le_of_ble_eq_true rfl, Nat.le_of_ble_eq_true rfl⟩) (gpreV hK hN (hP.sub [1] rfl) (hD.sub [1] (by decide) rfl) (va_recv hK hP (ci := 0) (q0 := 1) rfl rfl)) rfl rfl hl.1 rfl (lv_room (Nat.le_of_ble_eq_true rfl)) dX3_endText_38 ⟨Nat.le_of_ble_eq_true rfl, Nat.le_of_ble_eq_true rfl⟩) hP hD hS hA [1] [0, 2] (wr := [(h0, .inr (3, [.ref cm, .int cl, .ref cu, .ref pc, .ref oe, .ref ta, .int el, .int mo, .int it, .int tb, .int tn, .int te, .int ab, .int qu])), (oe, .inr (1, [.ref ob, .ref on, .int 20, .int os]))]) rfl rfl (by decide) (by decide) (fun r_9 u_10 H locs hw_38 hP hD hS => ?_)
          obtain ⟨fa_11, fp_12⟩ := u_10
          try dsimp only at hw_38
          have hP : va_P D classes [(h0, .inr (3, [.ref cm, .int cl, .ref cu, .ref pc, .ref oe, .ref ta, .int el, .int mo, .int it, .int tb, .int tn, .int te, .int ab, .int qu])), (oe, .inr (1, [.ref ob, .ref on, .int 20, .int os])), (cu, .inr (0, [.ref b0, .int ln, .int ca, .int fa_11, .int fp_12]))] H := hP
          have hD : va_D A [(h0, .inr (3, [.ref cm, .int cl, .ref cu, .ref pc, .ref oe, .ref ta, .int el, .int mo, .int it, .int tb, .int tn, .int te, .int ab, .int qu])), (oe, .inr (1, [.ref ob, .ref on, .int 20, .int os])), (cu, .inr (0, [.ref b0, .int ln, .int ca, .int fa_11, .int fp_12]))] := hD
          refine lv_pop hx hb dX3_endText_41 rfl ?_
          have hP9 := hP.sub (ws' := [(h0, .inr (3, [.ref cm, .int cl, .ref cu, .ref pc, .ref oe, .ref ta, .int el, .int mo, .int it, .int tb, .int tn, .int te, .int ab, .int qu])), (cu, .inr (0, [.ref b0, .int ln, .int ca, .int fa_11, .int fp_12])), (oe, .inr (1, [.ref ob, .ref on, .int 20, .int os]))]) [0, 2, 1] rfl
          have hD9 := hD.sub (ws' := [(h0, .inr (3, [.ref cm, .int cl, .ref cu, .ref pc, .ref oe, .ref ta, .int el, .int mo, .int it, .int tb, .int tn, .int te, .int ab, .int qu])), (cu, .inr (0, [.ref b0, .int ln, .int ca, .int fa_11, .int fp_12])), (oe, .inr (1, [.ref ob, .ref on, .int 20, .int os]))]) [0, 2, 1] (by decide) rfl
          exact W.vret hx hb hr (fun t ht hW => ⟨⟨(fa_11, fp_12), rfl, by rw [if_neg (fun q => c_21 q.2.2)]; exact hw_38.2, by rw [ht]; exact hP9, va_K.moved hW.alike hK, hD9⟩, hS.F ht⟩) hS.2.2 dX3_endText_42
      · skip
        refine lv_iconst (v := 1) hx hb dX3_endText_24 (by decide) ?_
        refine lv_goto (tgt := 29) hx hb dX3_endText_25 (by decide) ?_
        refine lv_istore_n (lv' := [(1, .int 1), (0, .ref h0)]) hx hb dX3_endText_29 rfl hl (by decide) rfl (fun ls hl => ?_)
        refine lv_iload_n hx hb dX3_endText_30 rfl (lv_at hl 0 rfl) ?_
        refine lv_if_ne (tgt := 42) hx hb dX3_endText_31 (by decide) (fun c_31 => ?_) (fun c_31 => ?_)
        · skip
          have hP9 := hP.sub (ws' := [(h0, .inr (3, [.ref cm, .int cl, .ref cu, .ref pc, .ref oe, .ref ta, .int el, .int mo, .int it, .int tb, .int tn, .int te, .int ab, .int qu])), (cu, .inr (0, [.ref b0, .int ln, .int ca, .int fa, .int fp])), (oe, .inr (1, [.ref ob, .ref on, .int 20, .int os]))]) [0, 1, 2] rfl
          have hD9 := hD.sub (ws' := [(h0, .inr (3, [.ref cm, .int cl, .ref cu, .ref pc, .ref oe, .ref ta, .int el, .int mo, .int it, .int tb, .int tn, .int te, .int ab, .int qu])), (cu, .inr (0, [.ref b0, .int ln, .int ca, .int fa, .int fp])), (oe, .inr (1, [.ref ob, .ref on, .int 20, .int os]))]) [0, 1, 2] (by decide) rfl
          exact W.vret hx hb hr (fun t ht hW => ⟨⟨(fa, fp), rfl, by rw [if_pos ⟨Int32.not_le.mp c_4, c_14, c_21⟩], by rw [ht]; exact hP9, va_K.moved hW.alike hK, hD9⟩, hS.F ht⟩) hS.2.2 dX3_endText_42
        · skip
          exact absurd c_31 (by decide)

set_option maxHeartbeats 4000000 in
set_option maxRecDepth 100000 in
/-- read of an empty text -/
theorem c_X3_read_0 (l : Launch) (D : va_G) (cI : ClassId) (h0 : Nat) (cm : Nat) (cu : Nat) (pc : Nat) (oe : Nat) (ta : Nat) (el : Int32) (mo : Int32) (it : Int32) (tb : Int32) (tn : Int32) (te : Int32) (ab : Int32) (qu : Int32) (b0 : Nat) (ln : Int32) (ca : Int32) (fa : Int32) (fp : Int32) (pk : Nat) (pb : Nat) (pe : Nat) (pd : Nat) (ps : Int32) (pa : Int32) (ob : Nat) (on : Nat) (os : Int32) (tj : Nat) (tl : Nat) (ts : Int32) (sz : Nat)   : Met l yX3_read (.code yX3_read cX3_read 2 (some .int) :: tbW) ({ frames := 3, cells := 0, slots := 0, locals := 63 }) (va_Pc [.ref h0] (gP D cI [(h0, .inr (3, [.ref cm, .int 0, .ref cu, .ref pc, .ref oe, .ref ta, .int el, .int mo, .int it, .int tb, .int tn, .int te, .int ab, .int qu])), (cu, .inr (0, [.ref b0, .int ln, .int ca, .int fa, .int fp])), (pc, .inr (2, [.ref pk, .ref pb, .ref pe, .ref pd, .int ps, .int pa])), (oe, .inr (1, [.ref ob, .ref on, .int 20, .int os])), (ta, .inr (1, [.ref tj, .ref tl, .int 8, .int ts]))] sz)) (va_Qi (fun (r : Int32) (u : Int32 × Int32) => r = -3) (fun u => gB D cI (va_A [(h0, .inr (3, [.ref cm, .int 0, .ref cu, .ref pc, .ref oe, .ref ta, .int el, .int mo, .int it, .int tb, .int tn, .int te, .int ab, .int qu])), (cu, .inr (0, [.ref b0, .int ln, .int ca, .int fa, .int fp])), (pc, .inr (2, [.ref pk, .ref pb, .ref pe, .ref pd, .int ps, .int pa])), (oe, .inr (1, [.ref ob, .ref on, .int 20, .int os])), (ta, .inr (1, [.ref tj, .ref tl, .int 8, .int ts]))] sz) [(h0, .inr (3, [.ref b0, .int 0, .ref cu, .ref pc, .ref oe, .ref ta, .int 0, .int 0, .int 0, .int tb, .int tn, .int te, .int ab, .int (-1)])), (cu, .inr (0, [.ref cm, .int 0, .int 0, .int u.1, .int u.2])), (pc, .inr (2, [.ref pk, .ref pb, .ref pe, .ref pd, .int 0, .int 0])), (oe, .inr (1, [.ref ob, .ref on, .int 20, .int 0])), (ta, .inr (1, [.ref tj, .ref tl, .int 8, .int 0]))]) (va_A [(h0, .inr (3, [.ref cm, .int 0, .ref cu, .ref pc, .ref oe, .ref ta, .int el, .int mo, .int it, .int tb, .int tn, .int te, .int ab, .int qu])), (cu, .inr (0, [.ref b0, .int ln, .int ca, .int fa, .int fp])), (pc, .inr (2, [.ref pk, .ref pb, .ref pe, .ref pd, .int ps, .int pa])), (oe, .inr (1, [.ref ob, .ref on, .int 20, .int os])), (ta, .inr (1, [.ref tj, .ref tl, .int 8, .int ts]))] sz)) 0 0 (va_A [(h0, .inr (3, [.ref cm, .int 0, .ref cu, .ref pc, .ref oe, .ref ta, .int el, .int mo, .int it, .int tb, .int tn, .int te, .int ab, .int qu])), (cu, .inr (0, [.ref b0, .int ln, .int ca, .int fa, .int fp])), (pc, .inr (2, [.ref pk, .ref pb, .ref pe, .ref pd, .int ps, .int pa])), (oe, .inr (1, [.ref ob, .ref on, .int 20, .int os])), (ta, .inr (1, [.ref tj, .ref tl, .int 8, .int ts]))] sz) := by
  refine Met.ofW (cc := cX3_read) (maxL := 2) (ret := (some .int)) (by decide) rfl ?_
  intro p e s m args below meth c s₁ B hml hv
  obtain ⟨rfl, hsz, hP, hK, hD0, hN⟩ := hv
  have hx := B.exec
  have hb := B.bytes
  have hr := B.returns
  have hts := tb_hts (atoms_spec (ws := .code yX3_read cX3_read 2 (some .int) :: tbW) B.pre)
  have hown : s.vm.findClass RX3 = some m.cls := findClass_of_methodNamed B.named
  have hlocks := B.notSynchronized
  subst hsz
  have hD := hD0.self (sz := s.heap.size)
  generalize hAe : va_A [(h0, .inr (3, [.ref cm, .int 0, .ref cu, .ref pc, .ref oe, .ref ta, .int el, .int mo, .int it, .int tb, .int tn, .int te, .int ab, .int qu])), (cu, .inr (0, [.ref b0, .int ln, .int ca, .int fa, .int fp])), (pc, .inr (2, [.ref pk, .ref pb, .ref pe, .ref pd, .int ps, .int pa])), (oe, .inr (1, [.ref ob, .ref on, .int 20, .int os])), (ta, .inr (1, [.ref tj, .ref tl, .int 8, .int ts]))] s.heap.size = A at hD ⊢
  have hA : ∀ q : Nat, s.heap.size ≤ q → A q := fun q h => by rw [← hAe]; exact Or.inr h
  have hS : va_S A s.heap s.heap [] := va_S.rf
  have hP : va_P D classes [(h0, .inr (3, [.ref cm, .int 0, .ref cu, .ref pc, .ref oe, .ref ta, .int el, .int mo, .int it, .int tb, .int tn, .int te, .int ab, .int qu])), (cu, .inr (0, [.ref b0, .int ln, .int ca, .int fa, .int fp])), (pc, .inr (2, [.ref pk, .ref pb, .ref pe, .ref pd, .int ps, .int pa])), (oe, .inr (1, [.ref ob, .ref on, .int 20, .int os])), (ta, .inr (1, [.ref tj, .ref tl, .int 8, .int ts]))] s.heap := hP
  have hl := lv_entry ([.ref h0]) (n := 2) (Nat.le_of_ble_eq_true rfl)
  rw [lg_entry_eq]
  generalize (lg_sl ([.ref h0]) ++ List.replicate (2 - (lg_sl ([.ref h0])).length) Slot.unset).toArray = ls at hl ⊢
  have hl : lv_has ls 2 [(0, .ref h0)] := hl
  refine lv_aload_n hx hb dX3_read_0 rfl (lv_at hl 0 rfl) ?_
  refine gcall_v (va_runV (As := []) (rest := []) ⟨hx, hb, hml, hown, hts⟩ (c_X3_beginText l D cI h0 cm 0 cu pc oe ta el mo it tb tn te ab qu b0 ln ca fa fp pk pb pe pd ps pa ob on os tj tl ts s.heap.size ) (cwV 0 hts (tb_goodV kk_1_147 kk_1_149 kk_0_0 kk_1_1 kk_1_150) rfl rfl rfl (by decide +kernel) ⟨Nat.le_of_ble_eq_true rfl, Nat.le_of_ble_eq_true rfl⟩) (gpreV hK hN (hP.sub [0, 1, 2, 3, 4] rfl) (hD.sub [0, 1, 2, 3, 4] (by decide) rfl) (va_recv hK hP (ci := 3) (q0 := 0) rfl rfl)) rfl rfl hl.1 rfl (lv_room (Nat.le_of_ble_eq_true rfl)) dX3_read_1 ⟨Nat.le_of_ble_eq_true rfl, Nat.le_of_ble_eq_true rfl⟩) hP hD hS hA [0, 1, 2, 3, 4] [] (wr := []) rfl rfl (by decide) (by decide) (fun u_2 H locs hw_1 hP hD hS => ?_)
  try dsimp only at hw_1
  have hP : va_P D classes [(h0, .inr (3, [.ref b0, .int 0, .ref cu, .ref pc, .ref oe, .ref ta, .int 0, .int 0, .int 0, .int tb, .int tn, .int te, .int ab, .int (-1)])), (cu, .inr (0, [.ref cm, .int 0, .int 0, .int 0, .int (-1)])), (pc, .inr (2, [.ref pk, .ref pb, .ref pe, .ref pd, .int 0, .int 0])), (oe, .inr (1, [.ref ob, .ref on, .int 20, .int 0])), (ta, .inr (1, [.ref tj, .ref tl, .int 8, .int 0]))] H := hP
  have hD : va_D A [(h0, .inr (3, [.ref b0, .int 0, .ref cu, .ref pc, .ref oe, .ref ta, .int 0, .int 0, .int 0, .int tb, .int tn, .int te, .int ab, .int (-1)])), (cu, .inr (0, [.ref cm, .int 0, .int 0, .int 0, .int (-1)])), (pc, .inr (2, [.ref pk, .ref pb, .ref pe, .ref pd, .int 0, .int 0])), (oe, .inr (1, [.ref ob, .ref on, .int 20, .int 0])), (ta, .inr (1, [.ref tj, .ref tl, .int 8, .int 0]))] := hD
  refine lv_iconst (v := 0) hx hb dX3_read_4 (by decide) ?_
  refine lv_istore_n (lv' := [(1, .int 0), (0, .ref h0)]) hx hb dX3_read_5 rfl hl (by decide) rfl (fun ls hl => ?_)
  refine lv_iload_n hx hb dX3_read_6 rfl (lv_at hl 0 rfl) ?_
  refine lv_sipush (v := 500) hx hb dX3_read_7 (by decide) ?_
  refine lv_icmp_ge (tgt := 62) hx hb dX3_read_10 (by decide) (fun c_10 => ?_) (fun c_10 => ?_)
  · skip
    exact absurd c_10 (by decide)
  · skip
    refine lv_aload_n hx hb dX3_read_13 rfl (lv_at hl 1 rfl) ?_
    refine va_get (D := D) (ci := 3) (v := .ref cu) (C := RX3) (T := TX3) (N := 14) hx hb hts inX3 hown hK hP 0 rfl rfl 2 (by decide) (hts (Cond.fieldLink "NestedTags" 16 "NestedTags" "cursor" "LNestedTags$Cursor;") kk_1_98) (fun _ h9 => h9) rfl dX3_read_14 ?_
    refine gcall_i (va_runV (As := []) (rest := []) ⟨hx, hb, hml, hown, hts⟩ (c_X0_goesOn l D cI cu cm 0 0 0 (-1) H.size ) (cwV 0 hts (tb_goodV kk_1_163 kk_1_164 kk_1_165 kk_1_2 kk_1_166) rfl rfl rfl (by decide +kernel) ⟨Nat.le_of_ble_eq_true rfl, Nat.le_of_ble_eq_true rfl⟩) (gpreV hK hN (hP.sub [1] rfl) (hD.sub [1] (by decide) rfl) (va_recv hK hP (ci := 0) (q0 := 1) rfl rfl)) rfl rfl hl.1 rfl (lv_room (Nat.le_of_ble_eq_true rfl)) dX3_read_17 ⟨Nat.le_of_ble_eq_true rfl, Nat.le_of_ble_eq_true rfl⟩) hP hD hS hA [1] [0, 2, 3, 4] (wr := [(h0, .inr (3, [.ref b0, .int 0, .ref cu, .ref pc, .ref oe, .ref ta, .int 0, .int 0, .int 0, .int tb, .int tn, .int te, .int ab, .int (-1)])), (pc, .inr (2, [.ref pk, .ref pb, .ref pe, .ref pd, .int 0, .int 0])), (oe, .inr (1, [.ref ob, .ref on, .int 20, .int 0])), (ta, .inr (1, [.ref tj, .ref tl, .int 8, .int 0]))]) rfl rfl (by decide) (by decide) (fun r_3 u_4 H locs hw_17 hP hD hS => ?_)
    try dsimp only at hw_17
    have hP : va_P D classes [(h0, .inr (3, [.ref b0, .int 0, .ref cu, .ref pc, .ref oe, .ref ta, .int 0, .int 0, .int 0, .int tb, .int tn, .int te, .int ab, .int (-1)])), (pc, .inr (2, [.ref pk, .ref pb, .ref pe, .ref pd, .int 0, .int 0])), (oe, .inr (1, [.ref ob, .ref on, .int 20, .int 0])), (ta, .inr (1, [.ref tj, .ref tl, .int 8, .int 0])), (cu, .inr (0, [.ref cm, .int 0, .int 0, .int 0, .int (-1)]))] H := hP
    have hD : va_D A [(h0, .inr (3, [.ref b0, .int 0, .ref cu, .ref pc, .ref oe, .ref ta, .int 0, .int 0, .int 0, .int tb, .int tn, .int te, .int ab, .int (-1)])), (pc, .inr (2, [.ref pk, .ref pb, .ref pe, .ref pd, .int 0, .int 0])), (oe, .inr (1, [.ref ob, .ref on, .int 20, .int 0])), (ta, .inr (1, [.ref tj, .ref tl, .int 8, .int 0])), (cu, .inr (0, [.ref cm, .int 0, .int 0, .int 0, .int (-1)]))] := hD
    refine lv_if_eq (tgt := 62) hx hb dX3_read_20 (by decide) (fun c_20 => ?_) (fun c_20 => ?_)
    · skip
      refine lv_aload_n hx hb dX3_read_62 rfl (lv_at hl 1 rfl) ?_
      refine gcall_v (va_runV (As := []) (rest := []) ⟨hx, hb, hml, hown, hts⟩ (c_X3_endText l D cI h0 b0 0 cu pc oe ta 0 0 0 tb tn te ab (-1) cm 0 0 0 (-1) ob on 0 H.size ) (cwV 0 hts (tb_goodV kk_2_181 kk_2_183 kk_0_22 kk_1_1 kk_2_184) rfl rfl rfl (by decide +kernel) ⟨Nat.le_of_ble_eq_true rfl, Nat.le_of_ble_eq_true rfl⟩) (gpreV hK hN (hP.sub [0, 4, 2] rfl) (hD.sub [0, 4, 2] (by decide) rfl) (va_recv hK hP (ci := 3) (q0 := 0) rfl rfl)) rfl rfl hl.1 rfl (lv_room (Nat.le_of_ble_eq_true rfl)) dX3_read_63 ⟨Nat.le_of_ble_eq_true rfl, Nat.le_of_ble_eq_true rfl⟩) hP hD hS hA [0, 4, 2] [1, 3] (wr := [(pc, .inr (2, [.ref pk, .ref pb, .ref pe, .ref pd, .int 0, .int 0])), (ta, .inr (1, [.ref tj, .ref tl, .int 8, .int 0]))]) rfl rfl (by decide) (by decide) (fun u_6 H locs hw_63 hP hD hS => ?_)
      obtain ⟨fa_7, fp_8⟩ := u_6
      try dsimp only at hw_63
      have hP : va_P D classes [(pc, .inr (2, [.ref pk, .ref pb, .ref pe, .ref pd, .int 0, .int 0])), (ta, .inr (1, [.ref tj, .ref tl, .int 8, .int 0])), (h0, .inr (3, [.ref b0, .int 0, .ref cu, .ref pc, .ref oe, .ref ta, .int 0, .int 0, .int 0, .int tb, .int tn, .int te, .int ab, .int (-1)])), (cu, .inr (0, [.ref cm, .int 0, .int 0, .int fa_7, .int fp_8])), (oe, .inr (1, [.ref ob, .ref on, .int 20, .int 0]))] H := hP
      have hD : va_D A [(pc, .inr (2, [.ref pk, .ref pb, .ref pe, .ref pd, .int 0, .int 0])), (ta, .inr (1, [.ref tj, .ref tl, .int 8, .int 0])), (h0, .inr (3, [.ref b0, .int 0, .ref cu, .ref pc, .ref oe, .ref ta, .int 0, .int 0, .int 0, .int tb, .int tn, .int te, .int ab, .int (-1)])), (cu, .inr (0, [.ref cm, .int 0, .int 0, .int fa_7, .int fp_8])), (oe, .inr (1, [.ref ob, .ref on, .int 20, .int 0]))] := hD
      refine lv_aload_n hx hb dX3_read_66 rfl (lv_at hl 1 rfl) ?_
      refine va_get (D := D) (ci := 3) (v := .ref cu) (C := RX3) (T := TX3) (N := 14) hx hb hts inX3 hown hK hP 2 rfl rfl 2 (by decide) (hts (Cond.fieldLink "NestedTags" 16 "NestedTags" "cursor" "LNestedTags$Cursor;") kk_1_98) (fun _ h9 => h9) rfl dX3_read_67 ?_
      refine va_getN (D := D) (ci := 0) (v := .int fa_7) (C := RX0) (T := TX0) (N := 5) hx hb hts inX0 hown hK hP 3 rfl rfl 3 (by decide) (va_Nw.use rfl (nv_f hN 2 rfl)) (fun _ h9 => h9) rfl dX3_read_70 ?_
      refine lv_if_ne (tgt := 86) hx hb dX3_read_73 (by decide) (fun c_73 => ?_) (fun c_73 => ?_)
      · skip
        refine lv_iconst (v := (-1)) hx hb dX3_read_86 (by decide) ?_
        refine lv_aload_n hx hb dX3_read_87 rfl (lv_at hl 1 rfl) ?_
        refine va_get (D := D) (ci := 3) (v := .ref cu) (C := RX3) (T := TX3) (N := 14) hx hb hts inX3 hown hK hP 2 rfl rfl 2 (by decide) (hts (Cond.fieldLink "NestedTags" 16 "NestedTags" "cursor" "LNestedTags$Cursor;") kk_1_98) (fun _ h9 => h9) rfl dX3_read_88 ?_
        refine va_getN (D := D) (ci := 0) (v := .int fa_7) (C := RX0) (T := TX0) (N := 5) hx hb hts inX0 hown hK hP 3 rfl rfl 3 (by decide) (va_Nw.use rfl (nv_f hN 2 rfl)) (fun _ h9 => h9) rfl dX3_read_91 ?_
        refine lv_isub hx hb dX3_read_94 ?_
        refine lv_topi (fun x_9 ex_9 => ?_)
        have hP9 := hP.sub (ws' := [(h0, .inr (3, [.ref b0, .int 0, .ref cu, .ref pc, .ref oe, .ref ta, .int 0, .int 0, .int 0, .int tb, .int tn, .int te, .int ab, .int (-1)])), (cu, .inr (0, [.ref cm, .int 0, .int 0, .int fa_7, .int fp_8])), (pc, .inr (2, [.ref pk, .ref pb, .ref pe, .ref pd, .int 0, .int 0])), (oe, .inr (1, [.ref ob, .ref on, .int 20, .int 0])), (ta, .inr (1, [.ref tj, .ref tl, .int 8, .int 0]))]) [2, 3, 0, 4, 1] rfl
        have hD9 := hD.sub (ws' := [(h0, .inr (3, [.ref b0, .int 0, .ref cu, .ref pc, .ref oe, .ref ta, .int 0, .int 0, .int 0, .int tb, .int tn, .int te, .int ab, .int (-1)])), (cu, .inr (0, [.ref cm, .int 0, .int 0, .int fa_7, .int fp_8])), (pc, .inr (2, [.ref pk, .ref pb, .ref pe, .ref pd, .int 0, .int 0])), (oe, .inr (1, [.ref ob, .ref on, .int 20, .int 0])), (ta, .inr (1, [.ref tj, .ref tl, .int 8, .int 0]))]) [2, 3, 0, 4, 1] (by decide) rfl
        exact W.iret (v := x_9) hx hb hr (fun t ht hW => ⟨⟨x_9, (fa_7, fp_8), rfl, (show x_9 = -3 by rw [ex_9, (Prod.mk.inj (hw_63.trans ((if_neg (fun q => absurd q.1 (by decide))).trans (if_pos rfl)))).1]; decide), by rw [ht]; exact hP9, va_K.moved hW.alike hK, hD9⟩, hS.F ht⟩) hS.2.2 dX3_read_95
      · skip
        exact absurd ((Prod.mk.inj (hw_63.trans ((if_neg (fun q => absurd q.1 (by decide))).trans (if_pos rfl)))).1.symm.trans c_73) (by decide)
    · skip
      exact absurd (hw_17.trans (if_neg (fun q => absurd q.2 (by decide)))) c_20
end
section
set_option maxHeartbeats 4000000 in
set_option maxRecDepth 100000 in
/-- NestedTagsModel() -/
theorem c_X4_init (l : Launch) (D : va_G) (cI : ClassId) (mh : Nat) (sz : Nat)   : Met l yX4_init (.code yX4_init cX4_init 1 none :: tbW) ({ frames := 1, cells := 10, slots := 1656, locals := 12 }) (va_Pc [.ref mh] (gP D cI [(mh, .inr (4, [.null, .int 0, .null, .int 0, .int 0, .null, .null, .null, .null, .int 0, .null, .null, .int 0, .null, .null, .int 0, .int 0, .int 0, .int 0, .int 0, .int 0, .int 0, .int 0, .int 0, .int 0, .int 0, .int 0, .int 0, .int 0, .int 0, .int 0, .long 0, .int 0]))] sz)) (va_Qv (fun (u : Nat × Nat × Nat × Nat × Nat × Nat × Nat × Nat × Nat × Nat) => True) (fun u => gB D cI (va_A [(mh, .inr (4, [.null, .int 0, .null, .int 0, .int 0, .null, .null, .null, .null, .int 0, .null, .null, .int 0, .null, .null, .int 0, .int 0, .int 0, .int 0, .int 0, .int 0, .int 0, .int 0, .int 0, .int 0, .int 0, .int 0, .int 0, .int 0, .int 0, .int 0, .long 0, .int 0]))] sz) [(mh, .inr (4, [.ref u.1, .int 0, .ref u.2.1, .int 0, .int 0, .ref u.2.2.1, .ref u.2.2.2.1, .ref u.2.2.2.2.1, .ref u.2.2.2.2.2.1, .int 0, .ref u.2.2.2.2.2.2.1, .ref u.2.2.2.2.2.2.2.1, .int 0, .ref u.2.2.2.2.2.2.2.2.1, .ref u.2.2.2.2.2.2.2.2.2, .int 0, .int 0, .int 0, .int (-1), .int 0, .int 0, .int 0, .int 0, .int 0, .int 0, .int 0, .int 0, .int 0, .int 0, .int 0, .int 0, .long 0, .int 0])), (u.1, .inl (cI, 500, .inl (fun _ => 0))), (u.2.1, .inl (cI, 500, .inl (fun _ => 0))), (u.2.2.1, .inl (cI, 150, .inl (fun _ => 0))), (u.2.2.2.1, .inl (cI, 150, .inl (fun _ => 0))), (u.2.2.2.2.1, .inl (cI, 150, .inl (fun _ => 0))), (u.2.2.2.2.2.1, .inl (cI, 150, .inl (fun _ => 0))), (u.2.2.2.2.2.2.1, .inl (cI, 20, .inl (fun _ => 0))), (u.2.2.2.2.2.2.2.1, .inl (cI, 20, .inl (fun _ => 0))), (u.2.2.2.2.2.2.2.2.1, .inl (cI, 8, .inl (fun _ => 0))), (u.2.2.2.2.2.2.2.2.2, .inl (cI, 8, .inl (fun _ => 0)))]) (va_A [(mh, .inr (4, [.null, .int 0, .null, .int 0, .int 0, .null, .null, .null, .null, .int 0, .null, .null, .int 0, .null, .null, .int 0, .int 0, .int 0, .int 0, .int 0, .int 0, .int 0, .int 0, .int 0, .int 0, .int 0, .int 0, .int 0, .int 0, .int 0, .int 0, .long 0, .int 0]))] sz)) 10 1656 (va_A [(mh, .inr (4, [.null, .int 0, .null, .int 0, .int 0, .null, .null, .null, .null, .int 0, .null, .null, .int 0, .null, .null, .int 0, .int 0, .int 0, .int 0, .int 0, .int 0, .int 0, .int 0, .int 0, .int 0, .int 0, .int 0, .int 0, .int 0, .int 0, .int 0, .long 0, .int 0]))] sz) := by
  refine Met.ofW (cc := cX4_init) (maxL := 1) (ret := none) (by decide) rfl ?_
  intro p e s m args below meth c s₁ B hml hv
  obtain ⟨rfl, hsz, hP, hK, hD0, hN⟩ := hv
  have hx := B.exec
  have hb := B.bytes
  have hr := B.returns
  have hts := tb_hts (atoms_spec (ws := .code yX4_init cX4_init 1 none :: tbW) B.pre)
  have hown : s.vm.findClass RX4 = some m.cls := findClass_of_methodNamed B.named
  have hlocks := B.notSynchronized
  have hin : meth.name = "<init>" := (name_of_methodNamed B.named B.method).1
  subst hsz
  have hD := hD0.self (sz := s.heap.size)
  generalize hAe : va_A [(mh, .inr (4, [.null, .int 0, .null, .int 0, .int 0, .null, .null, .null, .null, .int 0, .null, .null, .int 0, .null, .null, .int 0, .int 0, .int 0, .int 0, .int 0, .int 0, .int 0, .int 0, .int 0, .int 0, .int 0, .int 0, .int 0, .int 0, .int 0, .int 0, .long 0, .int 0]))] s.heap.size = A at hD ⊢
  have hA : ∀ q : Nat, s.heap.size ≤ q → A q := fun q h => by rw [← hAe]; exact Or.inr h
  have hS : va_S A s.heap s.heap [] := va_S.rf
  have hP : va_P D classes [(mh, .inr (4, [.null, .int 0, .null, .int 0, .int 0, .null, .null, .null, .null, .int 0, .null, .null, .int 0, .null, .null, .int 0, .int 0, .int 0, .int 0, .int 0, .int 0, .int 0, .int 0, .int 0, .int 0, .int 0, .int 0, .int 0, .int 0, .int 0, .int 0, .long 0, .int 0]))] s.heap := hP
  have hl := lv_entry ([.ref mh]) (n := 1) (Nat.le_of_ble_eq_true rfl)
  rw [lg_entry_eq]
  generalize (lg_sl ([.ref mh]) ++ List.replicate (1 - (lg_sl ([.ref mh])).length) Slot.unset).toArray = ls at hl ⊢
  have hl : lv_has ls 1 [(0, .ref mh)] := hl
  refine lv_aload_n hx hb dX4_init_0 rfl (lv_at hl 0 rfl) ?_
  refine W.objInit hx hb hown (hts (Cond.methodLink "NestedTagsModel" 1 objectInit) kk_2_211) (hts (Cond.instanceMethod objectInit) kk_1_17) (hts _ kk_obj) rfl (by rw [hml]; exact hl.1) rfl dX4_init_1 (Nat.le_of_ble_eq_true rfl) (Nat.le_of_ble_eq_true rfl) ?_
  refine W.eq (g2 := F0 m 4 ls []) rfl ?_
  refine lv_aload_n hx hb dX4_init_4 rfl (lv_at hl 0 rfl) ?_
  refine lv_sipush (v := 500) hx hb dX4_init_5 (by decide) ?_
  refine va_newa (atype := .int) (ty := .int) (a0 := (500, .inl (fun _ => 0))) hx hb (hts (Cond.arrayClass .int) kk_1_45) rfl hK hP hD hS hA (fun _ => by first | rfl | exact vp_cell_i) (by decide) (by decide) (by decide) (Nat.le_of_ble_eq_true rfl) (Nat.le_of_ble_eq_true rfl) dX4_init_8 (fun q_1 cA H hK2 hP hD hS => ?_)
  obtain rfl : cI = cA := cA_eq hK hK2
  have hP : va_P D classes [(mh, .inr (4, [.null, .int 0, .null, .int 0, .int 0, .null, .null, .null, .null, .int 0, .null, .null, .int 0, .null, .null, .int 0, .int 0, .int 0, .int 0, .int 0, .int 0, .int 0, .int 0, .int 0, .int 0, .int 0, .int 0, .int 0, .int 0, .int 0, .int 0, .long 0, .int 0])), (q_1, .inl (cI, 500, .inl (fun _ => 0)))] H := hP
  have hD : va_D A [(mh, .inr (4, [.null, .int 0, .null, .int 0, .int 0, .null, .null, .null, .null, .int 0, .null, .null, .int 0, .null, .null, .int 0, .int 0, .int 0, .int 0, .int 0, .int 0, .int 0, .int 0, .int 0, .int 0, .int 0, .int 0, .int 0, .int 0, .int 0, .int 0, .long 0, .int 0])), (q_1, .inl (cI, 500, .inl (fun _ => 0)))] := hD
  refine W.widen (k := 1) (n := 500) (by decide) (by decide) ?_
  refine va_putF (D := D) (ci := 4) (v := .ref q_1) (ty := .array .int) (C := RX4) (T := TX4) (N := 33) hx hb hts inX4 tyX4 tyX4_ok nmX4 hown hK hP hD hS 0 rfl rfl 0 (by decide) (hts (Cond.fieldLink "NestedTagsModel" 7 "NestedTagsModel" "text" "[I") kk_2_212) (fun _ h9 => h9) rfl hin rfl (by decide +kernel) rfl rfl (Nat.le_of_ble_eq_true rfl) dX4_init_10 (fun H locs hP hD hS => ?_)
  have hP : va_P D classes [(mh, .inr (4, [.ref q_1, .int 0, .null, .int 0, .int 0, .null, .null, .null, .null, .int 0, .null, .null, .int 0, .null, .null, .int 0, .int 0, .int 0, .int 0, .int 0, .int 0, .int 0, .int 0, .int 0, .int 0, .int 0, .int 0, .int 0, .int 0, .int 0, .int 0, .long 0, .int 0])), (q_1, .inl (cI, 500, .inl (fun _ => 0)))] H := hP
  have hD : va_D A [(mh, .inr (4, [.ref q_1, .int 0, .null, .int 0, .int 0, .null, .null, .null, .null, .int 0, .null, .null, .int 0, .null, .null, .int 0, .int 0, .int 0, .int 0, .int 0, .int 0, .int 0, .int 0, .int 0, .int 0, .int 0, .int 0, .int 0, .int 0, .int 0, .int 0, .long 0, .int 0])), (q_1, .inl (cI, 500, .inl (fun _ => 0)))] := hD
  refine lv_aload_n hx hb dX4_init_13 rfl (lv_at hl 0 rfl) ?_
  refine lv_sipush (v := 500) hx hb dX4_init_14 (by decide) ?_
  refine va_newa (atype := .int) (ty := .int) (a0 := (500, .inl (fun _ => 0))) hx hb (hts (Cond.arrayClass .int) kk_1_45) rfl hK hP hD hS hA (fun _ => by first | rfl | exact vp_cell_i) (by decide) (by decide) (by decide) (Nat.le_of_ble_eq_true rfl) (Nat.le_of_ble_eq_true rfl) dX4_init_17 (fun q_2 cA H hK2 hP hD hS => ?_)
  obtain rfl : cI = cA := cA_eq hK hK2
  have hP : va_P D classes [(mh, .inr (4, [.ref q_1, .int 0, .null, .int 0, .int 0, .null, .null, .null, .null, .int 0, .null, .null, .int 0, .null, .null, .int 0, .int 0, .int 0, .int 0, .int 0, .int 0, .int 0, .int 0, .int 0, .int 0, .int 0, .int 0, .int 0, .int 0, .int 0, .int 0, .long 0, .int 0])), (q_1, .inl (cI, 500, .inl (fun _ => 0))), (q_2, .inl (cI, 500, .inl (fun _ => 0)))] H := hP
  have hD : va_D A [(mh, .inr (4, [.ref q_1, .int 0, .null, .int 0, .int 0, .null, .null, .null, .null, .int 0, .null, .null, .int 0, .null, .null, .int 0, .int 0, .int 0, .int 0, .int 0, .int 0, .int 0, .int 0, .int 0, .int 0, .int 0, .int 0, .int 0, .int 0, .int 0, .int 0, .long 0, .int 0])), (q_1, .inl (cI, 500, .inl (fun _ => 0))), (q_2, .inl (cI, 500, .inl (fun _ => 0)))] := hD
  refine W.widen (k := 2) (n := 1000) (by decide) (by decide) ?_
  refine va_putF (D := D) (ci := 4) (v := .ref q_2) (ty := .array .int) (C := RX4) (T := TX4) (N := 33) hx hb hts inX4 tyX4 tyX4_ok nmX4 hown hK hP hD hS 0 rfl rfl 2 (by decide) (hts (Cond.fieldLink "NestedTagsModel" 13 "NestedTagsModel" "read" "[I") kk_2_214) (fun _ h9 => h9) rfl hin rfl (by decide +kernel) rfl rfl (Nat.le_of_ble_eq_true rfl) dX4_init_19 (fun H locs hP hD hS => ?_)
  have hP : va_P D classes [(mh, .inr (4, [.ref q_1, .int 0, .ref q_2, .int 0, .int 0, .null, .null, .null, .null, .int 0, .null, .null, .int 0, .null, .null, .int 0, .int 0, .int 0, .int 0, .int 0, .int 0, .int 0, .int 0, .int 0, .int 0, .int 0, .int 0, .int 0, .int 0, .int 0, .int 0, .long 0, .int 0])), (q_1, .inl (cI, 500, .inl (fun _ => 0))), (q_2, .inl (cI, 500, .inl (fun _ => 0)))] H := hP
  have hD : va_D A [(mh, .inr (4, [.ref q_1, .int 0, .ref q_2, .int 0, .int 0, .null, .null, .null, .null, .int 0, .null, .null, .int 0, .null, .null, .int 0, .int 0, .int 0, .int 0, .int 0, .int 0, .int 0, .int 0, .int 0, .int 0, .int 0, .int 0, .int 0, .int 0, .int 0, .int 0, .long 0, .int 0])), (q_1, .inl (cI, 500, .inl (fun _ => 0))), (q_2, .inl (cI, 500, .inl (fun _ => 0)))] := hD
  refine lv_aload_n hx hb dX4_init_22 rfl (lv_at hl 0 rfl) ?_
  refine lv_sipush (v := 150) hx hb dX4_init_23 (by decide) ?_
  refine va_newa (atype := .int) (ty := .int) (a0 := (150, .inl (fun _ => 0))) hx hb (hts (Cond.arrayClass .int) kk_1_45) rfl hK hP hD hS hA (fun _ => by first | rfl | exact vp_cell_i) (by decide) (by decide) (by decide) (Nat.le_of_ble_eq_true rfl) (Nat.le_of_ble_eq_true rfl) dX4_init_26 (fun q_3 cA H hK2 hP hD hS => ?_)
  obtain rfl : cI = cA := cA_eq hK hK2
  have hP : va_P D classes [(mh, .inr (4, [.ref q_1, .int 0, .ref q_2, .int 0, .int 0, .null, .null, .null, .null, .int 0, .null, .null, .int 0, .null, .null, .int 0, .int 0, .int 0, .int 0, .int 0, .int 0, .int 0, .int 0, .int 0, .int 0, .int 0, .int 0, .int 0, .int 0, .int 0, .int 0, .long 0, .int 0])), (q_1, .inl (cI, 500, .inl (fun _ => 0))), (q_2, .inl (cI, 500, .inl (fun _ => 0))), (q_3, .inl (cI, 150, .inl (fun _ => 0)))] H := hP
  have hD : va_D A [(mh, .inr (4, [.ref q_1, .int 0, .ref q_2, .int 0, .int 0, .null, .null, .null, .null, .int 0, .null, .null, .int 0, .null, .null, .int 0, .int 0, .int 0, .int 0, .int 0, .int 0, .int 0, .int 0, .int 0, .int 0, .int 0, .int 0, .int 0, .int 0, .int 0, .int 0, .long 0, .int 0])), (q_1, .inl (cI, 500, .inl (fun _ => 0))), (q_2, .inl (cI, 500, .inl (fun _ => 0))), (q_3, .inl (cI, 150, .inl (fun _ => 0)))] := hD
  refine W.widen (k := 3) (n := 1150) (by decide) (by decide) ?_
  refine va_putF (D := D) (ci := 4) (v := .ref q_3) (ty := .array .int) (C := RX4) (T := TX4) (N := 33) hx hb hts inX4 tyX4 tyX4_ok nmX4 hown hK hP hD hS 0 rfl rfl 5 (by decide) (hts (Cond.fieldLink "NestedTagsModel" 16 "NestedTagsModel" "kinds" "[I") kk_2_217) (fun _ h9 => h9) rfl hin rfl (by decide +kernel) rfl rfl (Nat.le_of_ble_eq_true rfl) dX4_init_28 (fun H locs hP hD hS => ?_)
  have hP : va_P D classes [(mh, .inr (4, [.ref q_1, .int 0, .ref q_2, .int 0, .int 0, .ref q_3, .null, .null, .null, .int 0, .null, .null, .int 0, .null, .null, .int 0, .int 0, .int 0, .int 0, .int 0, .int 0, .int 0, .int 0, .int 0, .int 0, .int 0, .int 0, .int 0, .int 0, .int 0, .int 0, .long 0, .int 0])), (q_1, .inl (cI, 500, .inl (fun _ => 0))), (q_2, .inl (cI, 500, .inl (fun _ => 0))), (q_3, .inl (cI, 150, .inl (fun _ => 0)))] H := hP
  have hD : va_D A [(mh, .inr (4, [.ref q_1, .int 0, .ref q_2, .int 0, .int 0, .ref q_3, .null, .null, .null, .int 0, .null, .null, .int 0, .null, .null, .int 0, .int 0, .int 0, .int 0, .int 0, .int 0, .int 0, .int 0, .int 0, .int 0, .int 0, .int 0, .int 0, .int 0, .int 0, .int 0, .long 0, .int 0])), (q_1, .inl (cI, 500, .inl (fun _ => 0))), (q_2, .inl (cI, 500, .inl (fun _ => 0))), (q_3, .inl (cI, 150, .inl (fun _ => 0)))] := hD
  refine lv_aload_n hx hb dX4_init_31 rfl (lv_at hl 0 rfl) ?_
  refine lv_sipush (v := 150) hx hb dX4_init_32 (by decide) ?_
  refine va_newa (atype := .int) (ty := .int) (a0 := (150, .inl (fun _ => 0))) hx hb (hts (Cond.arrayClass .int) kk_1_45) rfl hK hP hD hS hA (fun _ => by first | rfl | exact vp_cell_i) (by decide) (by decide) (by decide) (Nat.le_of_ble_eq_true rfl) (Nat.le_of_ble_eq_true rfl) dX4_init_35 (fun q_4 cA H hK2 hP hD hS => ?_)
  obtain rfl : cI = cA := cA_eq hK hK2
  have hP : va_P D classes [(mh, .inr (4, [.ref q_1, .int 0, .ref q_2, .int 0, .int 0, .ref q_3, .null, .null, .null, .int 0, .null, .null, .int 0, .null, .null, .int 0, .int 0, .int 0, .int 0, .int 0, .int 0, .int 0, .int 0, .int 0, .int 0, .int 0, .int 0, .int 0, .int 0, .int 0, .int 0, .long 0, .int 0])), (q_1, .inl (cI, 500, .inl (fun _ => 0))), (q_2, .inl (cI, 500, .inl (fun _ => 0))), (q_3, .inl (cI, 150, .inl (fun _ => 0))), (q_4, .inl (cI, 150, .inl (fun _ => 0)))] H := hP
  have hD : va_D A [(mh, .inr (4, [.ref q_1, .int 0, .ref q_2, .int 0, .int 0, .ref q_3, .null, .null, .null, .int 0, .null, .null, .int 0, .null, .null, .int 0, .int 0, .int 0, .int 0, .int 0, .int 0, .int 0, .int 0, .int 0, .int 0, .int 0, .int 0, .int 0, .int 0, .int 0, .int 0, .long 0, .int 0])), (q_1, .inl (cI, 500, .inl (fun _ => 0))), (q_2, .inl (cI, 500, .inl (fun _ => 0))), (q_3, .inl (cI, 150, .inl (fun _ => 0))), (q_4, .inl (cI, 150, .inl (fun _ => 0)))] := hD
  refine W.widen (k := 4) (n := 1300) (by decide) (by decide) ?_
  refine va_putF (D := D) (ci := 4) (v := .ref q_4) (ty := .array .int) (C := RX4) (T := TX4) (N := 33) hx hb hts inX4 tyX4 tyX4_ok nmX4 hown hK hP hD hS 0 rfl rfl 6 (by decide) (hts (Cond.fieldLink "NestedTagsModel" 19 "NestedTagsModel" "begins" "[I") kk_2_218) (fun _ h9 => h9) rfl hin rfl (by decide +kernel) rfl rfl (Nat.le_of_ble_eq_true rfl) dX4_init_37 (fun H locs hP hD hS => ?_)
  have hP : va_P D classes [(mh, .inr (4, [.ref q_1, .int 0, .ref q_2, .int 0, .int 0, .ref q_3, .ref q_4, .null, .null, .int 0, .null, .null, .int 0, .null, .null, .int 0, .int 0, .int 0, .int 0, .int 0, .int 0, .int 0, .int 0, .int 0, .int 0, .int 0, .int 0, .int 0, .int 0, .int 0, .int 0, .long 0, .int 0])), (q_1, .inl (cI, 500, .inl (fun _ => 0))), (q_2, .inl (cI, 500, .inl (fun _ => 0))), (q_3, .inl (cI, 150, .inl (fun _ => 0))), (q_4, .inl (cI, 150, .inl (fun _ => 0)))] H := hP
  have hD : va_D A [(mh, .inr (4, [.ref q_1, .int 0, .ref q_2, .int 0, .int 0, .ref q_3, .ref q_4, .null, .null, .int 0, .null, .null, .int 0, .null, .null, .int 0, .int 0, .int 0, .int 0, .int 0, .int 0, .int 0, .int 0, .int 0, .int 0, .int 0, .int 0, .int 0, .int 0, .int 0, .int 0, .long 0, .int 0])), (q_1, .inl (cI, 500, .inl (fun _ => 0))), (q_2, .inl (cI, 500, .inl (fun _ => 0))), (q_3, .inl (cI, 150, .inl (fun _ => 0))), (q_4, .inl (cI, 150, .inl (fun _ => 0)))] := hD
  refine lv_aload_n hx hb dX4_init_40 rfl (lv_at hl 0 rfl) ?_
  refine lv_sipush (v := 150) hx hb dX4_init_41 (by decide) ?_
  refine va_newa (atype := .int) (ty := .int) (a0 := (150, .inl (fun _ => 0))) hx hb (hts (Cond.arrayClass .int) kk_1_45) rfl hK hP hD hS hA (fun _ => by first | rfl | exact vp_cell_i) (by decide) (by decide) (by decide) (Nat.le_of_ble_eq_true rfl) (Nat.le_of_ble_eq_true rfl) dX4_init_44 (fun q_5 cA H hK2 hP hD hS => ?_)
  obtain rfl : cI = cA := cA_eq hK hK2
  have hP : va_P D classes [(mh, .inr (4, [.ref q_1, .int 0, .ref q_2, .int 0, .int 0, .ref q_3, .ref q_4, .null, .null, .int 0, .null, .null, .int 0, .null, .null, .int 0, .int 0, .int 0, .int 0, .int 0, .int 0, .int 0, .int 0, .int 0, .int 0, .int 0, .int 0, .int 0, .int 0, .int 0, .int 0, .long 0, .int 0])), (q_1, .inl (cI, 500, .inl (fun _ => 0))), (q_2, .inl (cI, 500, .inl (fun _ => 0))), (q_3, .inl (cI, 150, .inl (fun _ => 0))), (q_4, .inl (cI, 150, .inl (fun _ => 0))), (q_5, .inl (cI, 150, .inl (fun _ => 0)))] H := hP
  have hD : va_D A [(mh, .inr (4, [.ref q_1, .int 0, .ref q_2, .int 0, .int 0, .ref q_3, .ref q_4, .null, .null, .int 0, .null, .null, .int 0, .null, .null, .int 0, .int 0, .int 0, .int 0, .int 0, .int 0, .int 0, .int 0, .int 0, .int 0, .int 0, .int 0, .int 0, .int 0, .int 0, .int 0, .long 0, .int 0])), (q_1, .inl (cI, 500, .inl (fun _ => 0))), (q_2, .inl (cI, 500, .inl (fun _ => 0))), (q_3, .inl (cI, 150, .inl (fun _ => 0))), (q_4, .inl (cI, 150, .inl (fun _ => 0))), (q_5, .inl (cI, 150, .inl (fun _ => 0)))] := hD
  refine W.widen (k := 5) (n := 1450) (by decide) (by decide) ?_
  refine va_putF (D := D) (ci := 4) (v := .ref q_5) (ty := .array .int) (C := RX4) (T := TX4) (N := 33) hx hb hts inX4 tyX4 tyX4_ok nmX4 hown hK hP hD hS 0 rfl rfl 7 (by decide) (hts (Cond.fieldLink "NestedTagsModel" 22 "NestedTagsModel" "ends" "[I") kk_2_219) (fun _ h9 => h9) rfl hin rfl (by decide +kernel) rfl rfl (Nat.le_of_ble_eq_true rfl) dX4_init_46 (fun H locs hP hD hS => ?_)
  have hP : va_P D classes [(mh, .inr (4, [.ref q_1, .int 0, .ref q_2, .int 0, .int 0, .ref q_3, .ref q_4, .ref q_5, .null, .int 0, .null, .null, .int 0, .null, .null, .int 0, .int 0, .int 0, .int 0, .int 0, .int 0, .int 0, .int 0, .int 0, .int 0, .int 0, .int 0, .int 0, .int 0, .int 0, .int 0, .long 0, .int 0])), (q_1, .inl (cI, 500, .inl (fun _ => 0))), (q_2, .inl (cI, 500, .inl (fun _ => 0))), (q_3, .inl (cI, 150, .inl (fun _ => 0))), (q_4, .inl (cI, 150, .inl (fun _ => 0))), (q_5, .inl (cI, 150, .inl (fun _ => 0)))] H := hP
  have hD : va_D A [(mh, .inr (4, [.ref q_1, .int 0, .ref q_2, .int 0, .int 0, .ref q_3, .ref q_4, .ref q_5, .null, .int 0, .null, .null, .int 0, .null, .null, .int 0, .int 0, .int 0, .int 0, .int 0, .int 0, .int 0, .int 0, .int 0, .int 0, .int 0, .int 0, .int 0, .int 0, .int 0, .int 0, .long 0, .int 0])), (q_1, .inl (cI, 500, .inl (fun _ => 0))), (q_2, .inl (cI, 500, .inl (fun _ => 0))), (q_3, .inl (cI, 150, .inl (fun _ => 0))), (q_4, .inl (cI, 150, .inl (fun _ => 0))), (q_5, .inl (cI, 150, .inl (fun _ => 0)))] := hD
  refine lv_aload_n hx hb dX4_init_49 rfl (lv_at hl 0 rfl) ?_
  refine lv_sipush (v := 150) hx hb dX4_init_50 (by decide) ?_
  refine va_newa (atype := .int) (ty := .int) (a0 := (150, .inl (fun _ => 0))) hx hb (hts (Cond.arrayClass .int) kk_1_45) rfl hK hP hD hS hA (fun _ => by first | rfl | exact vp_cell_i) (by decide) (by decide) (by decide) (Nat.le_of_ble_eq_true rfl) (Nat.le_of_ble_eq_true rfl) dX4_init_53 (fun q_6 cA H hK2 hP hD hS => ?_)
  obtain rfl : cI = cA := cA_eq hK hK2
  have hP : va_P D classes [(mh, .inr (4, [.ref q_1, .int 0, .ref q_2, .int 0, .int 0, .ref q_3, .ref q_4, .ref q_5, .null, .int 0, .null, .null, .int 0, .null, .null, .int 0, .int 0, .int 0, .int 0, .int 0, .int 0, .int 0, .int 0, .int 0, .int 0, .int 0, .int 0, .int 0, .int 0, .int 0, .int 0, .long 0, .int 0])), (q_1, .inl (cI, 500, .inl (fun _ => 0))), (q_2, .inl (cI, 500, .inl (fun _ => 0))), (q_3, .inl (cI, 150, .inl (fun _ => 0))), (q_4, .inl (cI, 150, .inl (fun _ => 0))), (q_5, .inl (cI, 150, .inl (fun _ => 0))), (q_6, .inl (cI, 150, .inl (fun _ => 0)))] H := hP
  have hD : va_D A [(mh, .inr (4, [.ref q_1, .int 0, .ref q_2, .int 0, .int 0, .ref q_3, .ref q_4, .ref q_5, .null, .int 0, .null, .null, .int 0, .null, .null, .int 0, .int 0, .int 0, .int 0, .int 0, .int 0, .int 0, .int 0, .int 0, .int 0, .int 0, .int 0, .int 0, .int 0, .int 0, .int 0, .long 0, .int 0])), (q_1, .inl (cI, 500, .inl (fun _ => 0))), (q_2, .inl (cI, 500, .inl (fun _ => 0))), (q_3, .inl (cI, 150, .inl (fun _ => 0))), (q_4, .inl (cI, 150, .inl (fun _ => 0))), (q_5, .inl (cI, 150, .inl (fun _ => 0))), (q_6, .inl (cI, 150, .inl (fun _ => 0)))] := hD
  refine W.widen (k := 6) (n := 1600) (by decide) (by decide) ?_
  refine va_putF (D := D) (ci := 4) (v := .ref q_6) (ty := .array .int) (C := RX4) (T := TX4) (N := 33) hx hb hts inX4 tyX4 tyX4_ok nmX4 hown hK hP hD hS 0 rfl rfl 8 (by decide) (hts (Cond.fieldLink "NestedTagsModel" 25 "NestedTagsModel" "depths" "[I") kk_2_220) (fun _ h9 => h9) rfl hin rfl (by decide +kernel) rfl rfl (Nat.le_of_ble_eq_true rfl) dX4_init_55 (fun H locs hP hD hS => ?_)
  have hP : va_P D classes [(mh, .inr (4, [.ref q_1, .int 0, .ref q_2, .int 0, .int 0, .ref q_3, .ref q_4, .ref q_5, .ref q_6, .int 0, .null, .null, .int 0, .null, .null, .int 0, .int 0, .int 0, .int 0, .int 0, .int 0, .int 0, .int 0, .int 0, .int 0, .int 0, .int 0, .int 0, .int 0, .int 0, .int 0, .long 0, .int 0])), (q_1, .inl (cI, 500, .inl (fun _ => 0))), (q_2, .inl (cI, 500, .inl (fun _ => 0))), (q_3, .inl (cI, 150, .inl (fun _ => 0))), (q_4, .inl (cI, 150, .inl (fun _ => 0))), (q_5, .inl (cI, 150, .inl (fun _ => 0))), (q_6, .inl (cI, 150, .inl (fun _ => 0)))] H := hP
  have hD : va_D A [(mh, .inr (4, [.ref q_1, .int 0, .ref q_2, .int 0, .int 0, .ref q_3, .ref q_4, .ref q_5, .ref q_6, .int 0, .null, .null, .int 0, .null, .null, .int 0, .int 0, .int 0, .int 0, .int 0, .int 0, .int 0, .int 0, .int 0, .int 0, .int 0, .int 0, .int 0, .int 0, .int 0, .int 0, .long 0, .int 0])), (q_1, .inl (cI, 500, .inl (fun _ => 0))), (q_2, .inl (cI, 500, .inl (fun _ => 0))), (q_3, .inl (cI, 150, .inl (fun _ => 0))), (q_4, .inl (cI, 150, .inl (fun _ => 0))), (q_5, .inl (cI, 150, .inl (fun _ => 0))), (q_6, .inl (cI, 150, .inl (fun _ => 0)))] := hD
  refine lv_aload_n hx hb dX4_init_58 rfl (lv_at hl 0 rfl) ?_
  refine lv_bipush (v := 20) hx hb dX4_init_59 (by decide) ?_
  refine va_newa (atype := .int) (ty := .int) (a0 := (20, .inl (fun _ => 0))) hx hb (hts (Cond.arrayClass .int) kk_1_45) rfl hK hP hD hS hA (fun _ => by first | rfl | exact vp_cell_i) (by decide) (by decide) (by decide) (Nat.le_of_ble_eq_true rfl) (Nat.le_of_ble_eq_true rfl) dX4_init_61 (fun q_7 cA H hK2 hP hD hS => ?_)
  obtain rfl : cI = cA := cA_eq hK hK2
  have hP : va_P D classes [(mh, .inr (4, [.ref q_1, .int 0, .ref q_2, .int 0, .int 0, .ref q_3, .ref q_4, .ref q_5, .ref q_6, .int 0, .null, .null, .int 0, .null, .null, .int 0, .int 0, .int 0, .int 0, .int 0, .int 0, .int 0, .int 0, .int 0, .int 0, .int 0, .int 0, .int 0, .int 0, .int 0, .int 0, .long 0, .int 0])), (q_1, .inl (cI, 500, .inl (fun _ => 0))), (q_2, .inl (cI, 500, .inl (fun _ => 0))), (q_3, .inl (cI, 150, .inl (fun _ => 0))), (q_4, .inl (cI, 150, .inl (fun _ => 0))), (q_5, .inl (cI, 150, .inl (fun _ => 0))), (q_6, .inl (cI, 150, .inl (fun _ => 0))), (q_7, .inl (cI, 20, .inl (fun _ => 0)))] H := hP
  have hD : va_D A [(mh, .inr (4, [.ref q_1, .int 0, .ref q_2, .int 0, .int 0, .ref q_3, .ref q_4, .ref q_5, .ref q_6, .int 0, .null, .null, .int 0, .null, .null, .int 0, .int 0, .int 0, .int 0, .int 0, .int 0, .int 0, .int 0, .int 0, .int 0, .int 0, .int 0, .int 0, .int 0, .int 0, .int 0, .long 0, .int 0])), (q_1, .inl (cI, 500, .inl (fun _ => 0))), (q_2, .inl (cI, 500, .inl (fun _ => 0))), (q_3, .inl (cI, 150, .inl (fun _ => 0))), (q_4, .inl (cI, 150, .inl (fun _ => 0))), (q_5, .inl (cI, 150, .inl (fun _ => 0))), (q_6, .inl (cI, 150, .inl (fun _ => 0))), (q_7, .inl (cI, 20, .inl (fun _ => 0)))] := hD
  refine W.widen (k := 7) (n := 1620) (by decide) (by decide) ?_
  refine va_putF (D := D) (ci := 4) (v := .ref q_7) (ty := .array .int) (C := RX4) (T := TX4) (N := 33) hx hb hts inX4 tyX4 tyX4_ok nmX4 hown hK hP hD hS 0 rfl rfl 10 (by decide) (hts (Cond.fieldLink "NestedTagsModel" 28 "NestedTagsModel" "names" "[I") kk_2_222) (fun _ h9 => h9) rfl hin rfl (by decide +kernel) rfl rfl (Nat.le_of_ble_eq_true rfl) dX4_init_63 (fun H locs hP hD hS => ?_)
  have hP : va_P D classes [(mh, .inr (4, [.ref q_1, .int 0, .ref q_2, .int 0, .int 0, .ref q_3, .ref q_4, .ref q_5, .ref q_6, .int 0, .ref q_7, .null, .int 0, .null, .null, .int 0, .int 0, .int 0, .int 0, .int 0, .int 0, .int 0, .int 0, .int 0, .int 0, .int 0, .int 0, .int 0, .int 0, .int 0, .int 0, .long 0, .int 0])), (q_1, .inl (cI, 500, .inl (fun _ => 0))), (q_2, .inl (cI, 500, .inl (fun _ => 0))), (q_3, .inl (cI, 150, .inl (fun _ => 0))), (q_4, .inl (cI, 150, .inl (fun _ => 0))), (q_5, .inl (cI, 150, .inl (fun _ => 0))), (q_6, .inl (cI, 150, .inl (fun _ => 0))), (q_7, .inl (cI, 20, .inl (fun _ => 0)))] H := hP
  have hD : va_D A [(mh, .inr (4, [.ref q_1, .int 0, .ref q_2, .int 0, .int 0, .ref q_3, .ref q_4, .ref q_5, .ref q_6, .int 0, .ref q_7, .null, .int 0, .null, .null, .int 0, .int 0, .int 0, .int 0, .int 0, .int 0, .int 0, .int 0, .int 0, .int 0, .int 0, .int 0, .int 0, .int 0, .int 0, .int 0, .long 0, .int 0])), (q_1, .inl (cI, 500, .inl (fun _ => 0))), (q_2, .inl (cI, 500, .inl (fun _ => 0))), (q_3, .inl (cI, 150, .inl (fun _ => 0))), (q_4, .inl (cI, 150, .inl (fun _ => 0))), (q_5, .inl (cI, 150, .inl (fun _ => 0))), (q_6, .inl (cI, 150, .inl (fun _ => 0))), (q_7, .inl (cI, 20, .inl (fun _ => 0)))] := hD
  refine lv_aload_n hx hb dX4_init_66 rfl (lv_at hl 0 rfl) ?_
  refine lv_bipush (v := 20) hx hb dX4_init_67 (by decide) ?_
  refine va_newa (atype := .int) (ty := .int) (a0 := (20, .inl (fun _ => 0))) hx hb (hts (Cond.arrayClass .int) kk_1_45) rfl hK hP hD hS hA (fun _ => by first | rfl | exact vp_cell_i) (by decide) (by decide) (by decide) (Nat.le_of_ble_eq_true rfl) (Nat.le_of_ble_eq_true rfl) dX4_init_69 (fun q_8 cA H hK2 hP hD hS => ?_)
  obtain rfl : cI = cA := cA_eq hK hK2
  have hP : va_P D classes [(mh, .inr (4, [.ref q_1, .int 0, .ref q_2, .int 0, .int 0, .ref q_3, .ref q_4, .ref q_5, .ref q_6, .int 0, .ref q_7, .null, .int 0, .null, .null, .int 0, .int 0, .int 0, .int 0, .int 0, .int 0, .int 0, .int 0, .int 0, .int 0, .int 0, .int 0, .int 0, .int 0, .int 0, .int 0, .long 0, .int 0])), (q_1, .inl (cI, 500, .inl (fun _ => 0))), (q_2, .inl (cI, 500, .inl (fun _ => 0))), (q_3, .inl (cI, 150, .inl (fun _ => 0))), (q_4, .inl (cI, 150, .inl (fun _ => 0))), (q_5, .inl (cI, 150, .inl (fun _ => 0))), (q_6, .inl (cI, 150, .inl (fun _ => 0))), (q_7, .inl (cI, 20, .inl (fun _ => 0))), (q_8, .inl (cI, 20, .inl (fun _ => 0)))] H := hP
  have hD : va_D A [(mh, .inr (4, [.ref q_1, .int 0, .ref q_2, .int 0, .int 0, .ref q_3, .ref q_4, .ref q_5, .ref q_6, .int 0, .ref q_7, .null, .int 0, .null, .null, .int 0, .int 0, .int 0, .int 0, .int 0, .int 0, .int 0, .int 0, .int 0, .int 0, .int 0, .int 0, .int 0, .int 0, .int 0, .int 0, .long 0, .int 0])), (q_1, .inl (cI, 500, .inl (fun _ => 0))), (q_2, .inl (cI, 500, .inl (fun _ => 0))), (q_3, .inl (cI, 150, .inl (fun _ => 0))), (q_4, .inl (cI, 150, .inl (fun _ => 0))), (q_5, .inl (cI, 150, .inl (fun _ => 0))), (q_6, .inl (cI, 150, .inl (fun _ => 0))), (q_7, .inl (cI, 20, .inl (fun _ => 0))), (q_8, .inl (cI, 20, .inl (fun _ => 0)))] := hD
  refine W.widen (k := 8) (n := 1640) (by decide) (by decide) ?_
  refine va_putF (D := D) (ci := 4) (v := .ref q_8) (ty := .array .int) (C := RX4) (T := TX4) (N := 33) hx hb hts inX4 tyX4 tyX4_ok nmX4 hown hK hP hD hS 0 rfl rfl 11 (by decide) (hts (Cond.fieldLink "NestedTagsModel" 31 "NestedTagsModel" "sizes" "[I") kk_2_223) (fun _ h9 => h9) rfl hin rfl (by decide +kernel) rfl rfl (Nat.le_of_ble_eq_true rfl) dX4_init_71 (fun H locs hP hD hS => ?_)
  have hP : va_P D classes [(mh, .inr (4, [.ref q_1, .int 0, .ref q_2, .int 0, .int 0, .ref q_3, .ref q_4, .ref q_5, .ref q_6, .int 0, .ref q_7, .ref q_8, .int 0, .null, .null, .int 0, .int 0, .int 0, .int 0, .int 0, .int 0, .int 0, .int 0, .int 0, .int 0, .int 0, .int 0, .int 0, .int 0, .int 0, .int 0, .long 0, .int 0])), (q_1, .inl (cI, 500, .inl (fun _ => 0))), (q_2, .inl (cI, 500, .inl (fun _ => 0))), (q_3, .inl (cI, 150, .inl (fun _ => 0))), (q_4, .inl (cI, 150, .inl (fun _ => 0))), (q_5, .inl (cI, 150, .inl (fun _ => 0))), (q_6, .inl (cI, 150, .inl (fun _ => 0))), (q_7, .inl (cI, 20, .inl (fun _ => 0))), (q_8, .inl (cI, 20, .inl (fun _ => 0)))] H := hP
  have hD : va_D A [(mh, .inr (4, [.ref q_1, .int 0, .ref q_2, .int 0, .int 0, .ref q_3, .ref q_4, .ref q_5, .ref q_6, .int 0, .ref q_7, .ref q_8, .int 0, .null, .null, .int 0, .int 0, .int 0, .int 0, .int 0, .int 0, .int 0, .int 0, .int 0, .int 0, .int 0, .int 0, .int 0, .int 0, .int 0, .int 0, .long 0, .int 0])), (q_1, .inl (cI, 500, .inl (fun _ => 0))), (q_2, .inl (cI, 500, .inl (fun _ => 0))), (q_3, .inl (cI, 150, .inl (fun _ => 0))), (q_4, .inl (cI, 150, .inl (fun _ => 0))), (q_5, .inl (cI, 150, .inl (fun _ => 0))), (q_6, .inl (cI, 150, .inl (fun _ => 0))), (q_7, .inl (cI, 20, .inl (fun _ => 0))), (q_8, .inl (cI, 20, .inl (fun _ => 0)))] := hD
  refine lv_aload_n hx hb dX4_init_74 rfl (lv_at hl 0 rfl) ?_
  refine lv_bipush (v := 8) hx hb dX4_init_75 (by decide) ?_
  refine va_newa (atype := .int) (ty := .int) (a0 := (8, .inl (fun _ => 0))) hx hb (hts (Cond.arrayClass .int) kk_1_45) rfl hK hP hD hS hA (fun _ => by first | rfl | exact vp_cell_i) (by decide) (by decide) (by decide) (Nat.le_of_ble_eq_true rfl) (Nat.le_of_ble_eq_true rfl) dX4_init_77 (fun q_9 cA H hK2 hP hD hS => ?_)
  obtain rfl : cI = cA := cA_eq hK hK2
  have hP : va_P D classes [(mh, .inr (4, [.ref q_1, .int 0, .ref q_2, .int 0, .int 0, .ref q_3, .ref q_4, .ref q_5, .ref q_6, .int 0, .ref q_7, .ref q_8, .int 0, .null, .null, .int 0, .int 0, .int 0, .int 0, .int 0, .int 0, .int 0, .int 0, .int 0, .int 0, .int 0, .int 0, .int 0, .int 0, .int 0, .int 0, .long 0, .int 0])), (q_1, .inl (cI, 500, .inl (fun _ => 0))), (q_2, .inl (cI, 500, .inl (fun _ => 0))), (q_3, .inl (cI, 150, .inl (fun _ => 0))), (q_4, .inl (cI, 150, .inl (fun _ => 0))), (q_5, .inl (cI, 150, .inl (fun _ => 0))), (q_6, .inl (cI, 150, .inl (fun _ => 0))), (q_7, .inl (cI, 20, .inl (fun _ => 0))), (q_8, .inl (cI, 20, .inl (fun _ => 0))), (q_9, .inl (cI, 8, .inl (fun _ => 0)))] H := hP
  have hD : va_D A [(mh, .inr (4, [.ref q_1, .int 0, .ref q_2, .int 0, .int 0, .ref q_3, .ref q_4, .ref q_5, .ref q_6, .int 0, .ref q_7, .ref q_8, .int 0, .null, .null, .int 0, .int 0, .int 0, .int 0, .int 0, .int 0, .int 0, .int 0, .int 0, .int 0, .int 0, .int 0, .int 0, .int 0, .int 0, .int 0, .long 0, .int 0])), (q_1, .inl (cI, 500, .inl (fun _ => 0))), (q_2, .inl (cI, 500, .inl (fun _ => 0))), (q_3, .inl (cI, 150, .inl (fun _ => 0))), (q_4, .inl (cI, 150, .inl (fun _ => 0))), (q_5, .inl (cI, 150, .inl (fun _ => 0))), (q_6, .inl (cI, 150, .inl (fun _ => 0))), (q_7, .inl (cI, 20, .inl (fun _ => 0))), (q_8, .inl (cI, 20, .inl (fun _ => 0))), (q_9, .inl (cI, 8, .inl (fun _ => 0)))] := hD
  refine W.widen (k := 9) (n := 1648) (by decide) (by decide) ?_
  refine va_putF (D := D) (ci := 4) (v := .ref q_9) (ty := .array .int) (C := RX4) (T := TX4) (N := 33) hx hb hts inX4 tyX4 tyX4_ok nmX4 hown hK hP hD hS 0 rfl rfl 13 (by decide) (hts (Cond.fieldLink "NestedTagsModel" 34 "NestedTagsModel" "attributeAt" "[I") kk_2_225) (fun _ h9 => h9) rfl hin rfl (by decide +kernel) rfl rfl (Nat.le_of_ble_eq_true rfl) dX4_init_79 (fun H locs hP hD hS => ?_)
  have hP : va_P D classes [(mh, .inr (4, [.ref q_1, .int 0, .ref q_2, .int 0, .int 0, .ref q_3, .ref q_4, .ref q_5, .ref q_6, .int 0, .ref q_7, .ref q_8, .int 0, .ref q_9, .null, .int 0, .int 0, .int 0, .int 0, .int 0, .int 0, .int 0, .int 0, .int 0, .int 0, .int 0, .int 0, .int 0, .int 0, .int 0, .int 0, .long 0, .int 0])), (q_1, .inl (cI, 500, .inl (fun _ => 0))), (q_2, .inl (cI, 500, .inl (fun _ => 0))), (q_3, .inl (cI, 150, .inl (fun _ => 0))), (q_4, .inl (cI, 150, .inl (fun _ => 0))), (q_5, .inl (cI, 150, .inl (fun _ => 0))), (q_6, .inl (cI, 150, .inl (fun _ => 0))), (q_7, .inl (cI, 20, .inl (fun _ => 0))), (q_8, .inl (cI, 20, .inl (fun _ => 0))), (q_9, .inl (cI, 8, .inl (fun _ => 0)))] H := hP
  have hD : va_D A [(mh, .inr (4, [.ref q_1, .int 0, .ref q_2, .int 0, .int 0, .ref q_3, .ref q_4, .ref q_5, .ref q_6, .int 0, .ref q_7, .ref q_8, .int 0, .ref q_9, .null, .int 0, .int 0, .int 0, .int 0, .int 0, .int 0, .int 0, .int 0, .int 0, .int 0, .int 0, .int 0, .int 0, .int 0, .int 0, .int 0, .long 0, .int 0])), (q_1, .inl (cI, 500, .inl (fun _ => 0))), (q_2, .inl (cI, 500, .inl (fun _ => 0))), (q_3, .inl (cI, 150, .inl (fun _ => 0))), (q_4, .inl (cI, 150, .inl (fun _ => 0))), (q_5, .inl (cI, 150, .inl (fun _ => 0))), (q_6, .inl (cI, 150, .inl (fun _ => 0))), (q_7, .inl (cI, 20, .inl (fun _ => 0))), (q_8, .inl (cI, 20, .inl (fun _ => 0))), (q_9, .inl (cI, 8, .inl (fun _ => 0)))] := hD
  refine lv_aload_n hx hb dX4_init_82 rfl (lv_at hl 0 rfl) ?_
  refine lv_bipush (v := 8) hx hb dX4_init_83 (by decide) ?_
  refine va_newa (atype := .int) (ty := .int) (a0 := (8, .inl (fun _ => 0))) hx hb (hts (Cond.arrayClass .int) kk_1_45) rfl hK hP hD hS hA (fun _ => by first | rfl | exact vp_cell_i) (by decide) (by decide) (by decide) (Nat.le_of_ble_eq_true rfl) (Nat.le_of_ble_eq_true rfl) dX4_init_85 (fun q_10 cA H hK2 hP hD hS => ?_)
  obtain rfl : cI = cA := cA_eq hK hK2
  have hP : va_P D classes [(mh, .inr (4, [.ref q_1, .int 0, .ref q_2, .int 0, .int 0, .ref q_3, .ref q_4, .ref q_5, .ref q_6, .int 0, .ref q_7, .ref q_8, .int 0, .ref q_9, .null, .int 0, .int 0, .int 0, .int 0, .int 0, .int 0, .int 0, .int 0, .int 0, .int 0, .int 0, .int 0, .int 0, .int 0, .int 0, .int 0, .long 0, .int 0])), (q_1, .inl (cI, 500, .inl (fun _ => 0))), (q_2, .inl (cI, 500, .inl (fun _ => 0))), (q_3, .inl (cI, 150, .inl (fun _ => 0))), (q_4, .inl (cI, 150, .inl (fun _ => 0))), (q_5, .inl (cI, 150, .inl (fun _ => 0))), (q_6, .inl (cI, 150, .inl (fun _ => 0))), (q_7, .inl (cI, 20, .inl (fun _ => 0))), (q_8, .inl (cI, 20, .inl (fun _ => 0))), (q_9, .inl (cI, 8, .inl (fun _ => 0))), (q_10, .inl (cI, 8, .inl (fun _ => 0)))] H := hP
  have hD : va_D A [(mh, .inr (4, [.ref q_1, .int 0, .ref q_2, .int 0, .int 0, .ref q_3, .ref q_4, .ref q_5, .ref q_6, .int 0, .ref q_7, .ref q_8, .int 0, .ref q_9, .null, .int 0, .int 0, .int 0, .int 0, .int 0, .int 0, .int 0, .int 0, .int 0, .int 0, .int 0, .int 0, .int 0, .int 0, .int 0, .int 0, .long 0, .int 0])), (q_1, .inl (cI, 500, .inl (fun _ => 0))), (q_2, .inl (cI, 500, .inl (fun _ => 0))), (q_3, .inl (cI, 150, .inl (fun _ => 0))), (q_4, .inl (cI, 150, .inl (fun _ => 0))), (q_5, .inl (cI, 150, .inl (fun _ => 0))), (q_6, .inl (cI, 150, .inl (fun _ => 0))), (q_7, .inl (cI, 20, .inl (fun _ => 0))), (q_8, .inl (cI, 20, .inl (fun _ => 0))), (q_9, .inl (cI, 8, .inl (fun _ => 0))), (q_10, .inl (cI, 8, .inl (fun _ => 0)))] := hD
  refine W.widen (k := 10) (n := 1656) (by decide) (by decide) ?_
  refine va_putF (D := D) (ci := 4) (v := .ref q_10) (ty := .array .int) (C := RX4) (T := TX4) (N := 33) hx hb hts inX4 tyX4 tyX4_ok nmX4 hown hK hP hD hS 0 rfl rfl 14 (by decide) (hts (Cond.fieldLink "NestedTagsModel" 37 "NestedTagsModel" "attributeSize" "[I") kk_2_226) (fun _ h9 => h9) rfl hin rfl (by decide +kernel) rfl rfl (Nat.le_of_ble_eq_true rfl) dX4_init_87 (fun H locs hP hD hS => ?_)
  have hP : va_P D classes [(mh, .inr (4, [.ref q_1, .int 0, .ref q_2, .int 0, .int 0, .ref q_3, .ref q_4, .ref q_5, .ref q_6, .int 0, .ref q_7, .ref q_8, .int 0, .ref q_9, .ref q_10, .int 0, .int 0, .int 0, .int 0, .int 0, .int 0, .int 0, .int 0, .int 0, .int 0, .int 0, .int 0, .int 0, .int 0, .int 0, .int 0, .long 0, .int 0])), (q_1, .inl (cI, 500, .inl (fun _ => 0))), (q_2, .inl (cI, 500, .inl (fun _ => 0))), (q_3, .inl (cI, 150, .inl (fun _ => 0))), (q_4, .inl (cI, 150, .inl (fun _ => 0))), (q_5, .inl (cI, 150, .inl (fun _ => 0))), (q_6, .inl (cI, 150, .inl (fun _ => 0))), (q_7, .inl (cI, 20, .inl (fun _ => 0))), (q_8, .inl (cI, 20, .inl (fun _ => 0))), (q_9, .inl (cI, 8, .inl (fun _ => 0))), (q_10, .inl (cI, 8, .inl (fun _ => 0)))] H := hP
  have hD : va_D A [(mh, .inr (4, [.ref q_1, .int 0, .ref q_2, .int 0, .int 0, .ref q_3, .ref q_4, .ref q_5, .ref q_6, .int 0, .ref q_7, .ref q_8, .int 0, .ref q_9, .ref q_10, .int 0, .int 0, .int 0, .int 0, .int 0, .int 0, .int 0, .int 0, .int 0, .int 0, .int 0, .int 0, .int 0, .int 0, .int 0, .int 0, .long 0, .int 0])), (q_1, .inl (cI, 500, .inl (fun _ => 0))), (q_2, .inl (cI, 500, .inl (fun _ => 0))), (q_3, .inl (cI, 150, .inl (fun _ => 0))), (q_4, .inl (cI, 150, .inl (fun _ => 0))), (q_5, .inl (cI, 150, .inl (fun _ => 0))), (q_6, .inl (cI, 150, .inl (fun _ => 0))), (q_7, .inl (cI, 20, .inl (fun _ => 0))), (q_8, .inl (cI, 20, .inl (fun _ => 0))), (q_9, .inl (cI, 8, .inl (fun _ => 0))), (q_10, .inl (cI, 8, .inl (fun _ => 0)))] := hD
  refine lv_aload_n hx hb dX4_init_90 rfl (lv_at hl 0 rfl) ?_
  refine lv_iconst (v := (-1)) hx hb dX4_init_91 (by decide) ?_
  refine va_put (D := D) (ci := 4) (v := .int (-1)) (ty := .int) (C := RX4) (T := TX4) (N := 33) hx hb hts inX4 tyX4 tyX4_ok nmX4 hown hK hP hD hS 0 rfl rfl 18 (by decide) (hts (Cond.fieldLink "NestedTagsModel" 40 "NestedTagsModel" "place" "I") kk_2_230) (fun _ h9 => h9) rfl (by decide +kernel) rfl rfl (Nat.le_of_ble_eq_true rfl) dX4_init_92 (fun H locs hP hD hS => ?_)
  have hP : va_P D classes [(mh, .inr (4, [.ref q_1, .int 0, .ref q_2, .int 0, .int 0, .ref q_3, .ref q_4, .ref q_5, .ref q_6, .int 0, .ref q_7, .ref q_8, .int 0, .ref q_9, .ref q_10, .int 0, .int 0, .int 0, .int (-1), .int 0, .int 0, .int 0, .int 0, .int 0, .int 0, .int 0, .int 0, .int 0, .int 0, .int 0, .int 0, .long 0, .int 0])), (q_1, .inl (cI, 500, .inl (fun _ => 0))), (q_2, .inl (cI, 500, .inl (fun _ => 0))), (q_3, .inl (cI, 150, .inl (fun _ => 0))), (q_4, .inl (cI, 150, .inl (fun _ => 0))), (q_5, .inl (cI, 150, .inl (fun _ => 0))), (q_6, .inl (cI, 150, .inl (fun _ => 0))), (q_7, .inl (cI, 20, .inl (fun _ => 0))), (q_8, .inl (cI, 20, .inl (fun _ => 0))), (q_9, .inl (cI, 8, .inl (fun _ => 0))), (q_10, .inl (cI, 8, .inl (fun _ => 0)))] H := hP
  have hD : va_D A [(mh, .inr (4, [.ref q_1, .int 0, .ref q_2, .int 0, .int 0, .ref q_3, .ref q_4, .ref q_5, .ref q_6, .int 0, .ref q_7, .ref q_8, .int 0, .ref q_9, .ref q_10, .int 0, .int 0, .int 0, .int (-1), .int 0, .int 0, .int 0, .int 0, .int 0, .int 0, .int 0, .int 0, .int 0, .int 0, .int 0, .int 0, .long 0, .int 0])), (q_1, .inl (cI, 500, .inl (fun _ => 0))), (q_2, .inl (cI, 500, .inl (fun _ => 0))), (q_3, .inl (cI, 150, .inl (fun _ => 0))), (q_4, .inl (cI, 150, .inl (fun _ => 0))), (q_5, .inl (cI, 150, .inl (fun _ => 0))), (q_6, .inl (cI, 150, .inl (fun _ => 0))), (q_7, .inl (cI, 20, .inl (fun _ => 0))), (q_8, .inl (cI, 20, .inl (fun _ => 0))), (q_9, .inl (cI, 8, .inl (fun _ => 0))), (q_10, .inl (cI, 8, .inl (fun _ => 0)))] := hD
  have hP9 := hP.sub (ws' := [(mh, .inr (4, [.ref q_1, .int 0, .ref q_2, .int 0, .int 0, .ref q_3, .ref q_4, .ref q_5, .ref q_6, .int 0, .ref q_7, .ref q_8, .int 0, .ref q_9, .ref q_10, .int 0, .int 0, .int 0, .int (-1), .int 0, .int 0, .int 0, .int 0, .int 0, .int 0, .int 0, .int 0, .int 0, .int 0, .int 0, .int 0, .long 0, .int 0])), (q_1, .inl (cI, 500, .inl (fun _ => 0))), (q_2, .inl (cI, 500, .inl (fun _ => 0))), (q_3, .inl (cI, 150, .inl (fun _ => 0))), (q_4, .inl (cI, 150, .inl (fun _ => 0))), (q_5, .inl (cI, 150, .inl (fun _ => 0))), (q_6, .inl (cI, 150, .inl (fun _ => 0))), (q_7, .inl (cI, 20, .inl (fun _ => 0))), (q_8, .inl (cI, 20, .inl (fun _ => 0))), (q_9, .inl (cI, 8, .inl (fun _ => 0))), (q_10, .inl (cI, 8, .inl (fun _ => 0)))]) [0, 1, 2, 3, 4, 5, 6, 7, 8, 9, 10] rfl
  have hD9 := hD.sub (ws' := [(mh, .inr (4, [.ref q_1, .int 0, .ref q_2, .int 0, .int 0, .ref q_3, .ref q_4, .ref q_5, .ref q_6, .int 0, .ref q_7, .ref q_8, .int 0, .ref q_9, .ref q_10, .int 0, .int 0, .int 0, .int (-1), .int 0, .int 0, .int 0, .int 0, .int 0, .int 0, .int 0, .int 0, .int 0, .int 0, .int 0, .int 0, .long 0, .int 0])), (q_1, .inl (cI, 500, .inl (fun _ => 0))), (q_2, .inl (cI, 500, .inl (fun _ => 0))), (q_3, .inl (cI, 150, .inl (fun _ => 0))), (q_4, .inl (cI, 150, .inl (fun _ => 0))), (q_5, .inl (cI, 150, .inl (fun _ => 0))), (q_6, .inl (cI, 150, .inl (fun _ => 0))), (q_7, .inl (cI, 20, .inl (fun _ => 0))), (q_8, .inl (cI, 20, .inl (fun _ => 0))), (q_9, .inl (cI, 8, .inl (fun _ => 0))), (q_10, .inl (cI, 8, .inl (fun _ => 0)))]) [0, 1, 2, 3, 4, 5, 6, 7, 8, 9, 10] (by decide) rfl
  refine W.widen (k := 10) (n := 1656) (by decide) (by decide) ?_
  exact W.vret hx hb hr (fun t ht hW => ⟨⟨(q_1, q_2, q_3, q_4, q_5, q_6, q_7, q_8, q_9, q_10), rfl, trivial, by rw [ht]; exact hP9, va_K.moved hW.alike hK, hD9⟩, hS.F ht⟩) hS.2.2 dX4_init_95

set_option maxHeartbeats 4000000 in
set_option maxRecDepth 100000 in
/-- X4_fail -/
theorem c_X4_fail (l : Launch) (D : va_G) (cI : ClassId) (mh : Nat) (m_te : Nat) (m_size : Int32) (m_re : Nat) (m_len : Int32) (m_pieces : Int32) (m_kn : Nat) (m_bg : Nat) (m_en : Nat) (m_dp : Nat) (m_open : Int32) (m_nm : Nat) (m_sz : Nat) (m_attrs : Int32) (m_aa : Nat) (m_asz : Nat) (m_elements : Int32) (m_most : Int32) (m_values : Int32) (m_place : Int32) (m_phase : Int32) (m_state : Int32) (m_at : Int32) (m_begin : Int32) (m_name : Int32) (m_refr : Int32) (m_tag : Int32) (m_tagsz : Int32) (m_quote : Int32) (m_chars : Int32) (m_brackets : Int32) (m_matched : Int32) (m_number : Int64) (m_fault : Int32) (sz : Nat) (p1 : Int32) (p2 : Int32)  : Met l yX4_fail (.code yX4_fail cX4_fail 3 (some .int) :: tbW) ({ frames := 0, cells := 0, slots := 0, locals := 0 }) (va_Pc [.ref mh, .int p1, .int p2] (gP D cI [(mh, .inr (4, [.ref m_te, .int m_size, .ref m_re, .int m_len, .int m_pieces, .ref m_kn, .ref m_bg, .ref m_en, .ref m_dp, .int m_open, .ref m_nm, .ref m_sz, .int m_attrs, .ref m_aa, .ref m_asz, .int m_elements, .int m_most, .int m_values, .int m_place, .int m_phase, .int m_state, .int m_at, .int m_begin, .int m_name, .int m_refr, .int m_tag, .int m_tagsz, .int m_quote, .int m_chars, .int m_brackets, .int m_matched, .long m_number, .int m_fault]))] sz)) (va_Qi (fun (r : Int32) (u : Unit) => r = -1) (fun u => gB D cI (va_A [(mh, .inr (4, [.ref m_te, .int m_size, .ref m_re, .int m_len, .int m_pieces, .ref m_kn, .ref m_bg, .ref m_en, .ref m_dp, .int m_open, .ref m_nm, .ref m_sz, .int m_attrs, .ref m_aa, .ref m_asz, .int m_elements, .int m_most, .int m_values, .int m_place, .int m_phase, .int m_state, .int m_at, .int m_begin, .int m_name, .int m_refr, .int m_tag, .int m_tagsz, .int m_quote, .int m_chars, .int m_brackets, .int m_matched, .long m_number, .int m_fault]))] sz) [(mh, .inr (4, [.ref m_te, .int m_size, .ref m_re, .int m_len, .int m_pieces, .ref m_kn, .ref m_bg, .ref m_en, .ref m_dp, .int m_open, .ref m_nm, .ref m_sz, .int m_attrs, .ref m_aa, .ref m_asz, .int m_elements, .int m_most, .int m_values, .int p2, .int m_phase, .int m_state, .int m_at, .int m_begin, .int m_name, .int m_refr, .int m_tag, .int m_tagsz, .int m_quote, .int m_chars, .int m_brackets, .int m_matched, .long m_number, .int p1]))]) (va_A [(mh, .inr (4, [.ref m_te, .int m_size, .ref m_re, .int m_len, .int m_pieces, .ref m_kn, .ref m_bg, .ref m_en, .ref m_dp, .int m_open, .ref m_nm, .ref m_sz, .int m_attrs, .ref m_aa, .ref m_asz, .int m_elements, .int m_most, .int m_values, .int m_place, .int m_phase, .int m_state, .int m_at, .int m_begin, .int m_name, .int m_refr, .int m_tag, .int m_tagsz, .int m_quote, .int m_chars, .int m_brackets, .int m_matched, .long m_number, .int m_fault]))] sz)) 0 0 (va_A [(mh, .inr (4, [.ref m_te, .int m_size, .ref m_re, .int m_len, .int m_pieces, .ref m_kn, .ref m_bg, .ref m_en, .ref m_dp, .int m_open, .ref m_nm, .ref m_sz, .int m_attrs, .ref m_aa, .ref m_asz, .int m_elements, .int m_most, .int m_values, .int m_place, .int m_phase, .int m_state, .int m_at, .int m_begin, .int m_name, .int m_refr, .int m_tag, .int m_tagsz, .int m_quote, .int m_chars, .int m_brackets, .int m_matched, .long m_number, .int m_fault]))] sz) := by
  refine Met.ofW (cc := cX4_fail) (maxL := 3) (ret := (some .int)) (by decide) rfl ?_
  intro p e s m args below meth c s₁ B hml hv
  obtain ⟨rfl, hsz, hP, hK, hD0, hN⟩ := hv
  have hx := B.exec
  have hb := B.bytes
  have hr := B.returns
  have hts := tb_hts (atoms_spec (ws := .code yX4_fail cX4_fail 3 (some .int) :: tbW) B.pre)
  have hown : s.vm.findClass RX4 = some m.cls := findClass_of_methodNamed B.named
  have hlocks := B.notSynchronized
  subst hsz
  have hD := hD0.self (sz := s.heap.size)
  generalize hAe : va_A [(mh, .inr (4, [.ref m_te, .int m_size, .ref m_re, .int m_len, .int m_pieces, .ref m_kn, .ref m_bg, .ref m_en, .ref m_dp, .int m_open, .ref m_nm, .ref m_sz, .int m_attrs, .ref m_aa, .ref m_asz, .int m_elements, .int m_most, .int m_values, .int m_place, .int m_phase, .int m_state, .int m_at, .int m_begin, .int m_name, .int m_refr, .int m_tag, .int m_tagsz, .int m_quote, .int m_chars, .int m_brackets, .int m_matched, .long m_number, .int m_fault]))] s.heap.size = A at hD ⊢
  have hA : ∀ q : Nat, s.heap.size ≤ q → A q := fun q h => by rw [← hAe]; exact Or.inr h
  have hS : va_S A s.heap s.heap [] := va_S.rf
  have hP : va_P D classes [(mh, .inr (4, [.ref m_te, .int m_size, .ref m_re, .int m_len, .int m_pieces, .ref m_kn, .ref m_bg, .ref m_en, .ref m_dp, .int m_open, .ref m_nm, .ref m_sz, .int m_attrs, .ref m_aa, .ref m_asz, .int m_elements, .int m_most, .int m_values, .int m_place, .int m_phase, .int m_state, .int m_at, .int m_begin, .int m_name, .int m_refr, .int m_tag, .int m_tagsz, .int m_quote, .int m_chars, .int m_brackets, .int m_matched, .long m_number, .int m_fault]))] s.heap := hP
  have hl := lv_entry ([.ref mh, .int p1, .int p2]) (n := 3) (Nat.le_of_ble_eq_true rfl)
  rw [lg_entry_eq]
  generalize (lg_sl ([.ref mh, .int p1, .int p2]) ++ List.replicate (3 - (lg_sl ([.ref mh, .int p1, .int p2])).length) Slot.unset).toArray = ls at hl ⊢
  have hl : lv_has ls 3 [(0, .ref mh), (1, .int p1), (2, .int p2)] := hl
  refine lv_aload_n hx hb dX4_fail_0 rfl (lv_at hl 0 rfl) ?_
  refine lv_iload_n hx hb dX4_fail_1 rfl (lv_at hl 1 rfl) ?_
  refine va_put (D := D) (ci := 4) (v := .int p1) (ty := .int) (C := RX4) (T := TX4) (N := 33) hx hb hts inX4 tyX4 tyX4_ok nmX4 hown hK hP hD hS 0 rfl rfl 32 (by decide) (hts (Cond.fieldLink "NestedTagsModel" 53 "NestedTagsModel" "fault" "I") kk_3_4) (fun _ h9 => h9) rfl (by decide +kernel) rfl rfl (Nat.le_of_ble_eq_true rfl) dX4_fail_2 (fun H locs hP hD hS => ?_)
  have hP : va_P D classes [(mh, .inr (4, [.ref m_te, .int m_size, .ref m_re, .int m_len, .int m_pieces, .ref m_kn, .ref m_bg, .ref m_en, .ref m_dp, .int m_open, .ref m_nm, .ref m_sz, .int m_attrs, .ref m_aa, .ref m_asz, .int m_elements, .int m_most, .int m_values, .int m_place, .int m_phase, .int m_state, .int m_at, .int m_begin, .int m_name, .int m_refr, .int m_tag, .int m_tagsz, .int m_quote, .int m_chars, .int m_brackets, .int m_matched, .long m_number, .int p1]))] H := hP
  have hD : va_D A [(mh, .inr (4, [.ref m_te, .int m_size, .ref m_re, .int m_len, .int m_pieces, .ref m_kn, .ref m_bg, .ref m_en, .ref m_dp, .int m_open, .ref m_nm, .ref m_sz, .int m_attrs, .ref m_aa, .ref m_asz, .int m_elements, .int m_most, .int m_values, .int m_place, .int m_phase, .int m_state, .int m_at, .int m_begin, .int m_name, .int m_refr, .int m_tag, .int m_tagsz, .int m_quote, .int m_chars, .int m_brackets, .int m_matched, .long m_number, .int p1]))] := hD
  refine lv_aload_n hx hb dX4_fail_5 rfl (lv_at hl 0 rfl) ?_
  refine lv_iload_n hx hb dX4_fail_6 rfl (lv_at hl 2 rfl) ?_
  refine va_put (D := D) (ci := 4) (v := .int p2) (ty := .int) (C := RX4) (T := TX4) (N := 33) hx hb hts inX4 tyX4 tyX4_ok nmX4 hown hK hP hD hS 0 rfl rfl 18 (by decide) (hts (Cond.fieldLink "NestedTagsModel" 40 "NestedTagsModel" "place" "I") kk_2_230) (fun _ h9 => h9) rfl (by decide +kernel) rfl rfl (Nat.le_of_ble_eq_true rfl) dX4_fail_7 (fun H locs hP hD hS => ?_)
  have hP : va_P D classes [(mh, .inr (4, [.ref m_te, .int m_size, .ref m_re, .int m_len, .int m_pieces, .ref m_kn, .ref m_bg, .ref m_en, .ref m_dp, .int m_open, .ref m_nm, .ref m_sz, .int m_attrs, .ref m_aa, .ref m_asz, .int m_elements, .int m_most, .int m_values, .int p2, .int m_phase, .int m_state, .int m_at, .int m_begin, .int m_name, .int m_refr, .int m_tag, .int m_tagsz, .int m_quote, .int m_chars, .int m_brackets, .int m_matched, .long m_number, .int p1]))] H := hP
  have hD : va_D A [(mh, .inr (4, [.ref m_te, .int m_size, .ref m_re, .int m_len, .int m_pieces, .ref m_kn, .ref m_bg, .ref m_en, .ref m_dp, .int m_open, .ref m_nm, .ref m_sz, .int m_attrs, .ref m_aa, .ref m_asz, .int m_elements, .int m_most, .int m_values, .int p2, .int m_phase, .int m_state, .int m_at, .int m_begin, .int m_name, .int m_refr, .int m_tag, .int m_tagsz, .int m_quote, .int m_chars, .int m_brackets, .int m_matched, .long m_number, .int p1]))] := hD
  refine lv_iconst (v := (-1)) hx hb dX4_fail_10 (by decide) ?_
  have hP9 := hP.sub (ws' := [(mh, .inr (4, [.ref m_te, .int m_size, .ref m_re, .int m_len, .int m_pieces, .ref m_kn, .ref m_bg, .ref m_en, .ref m_dp, .int m_open, .ref m_nm, .ref m_sz, .int m_attrs, .ref m_aa, .ref m_asz, .int m_elements, .int m_most, .int m_values, .int p2, .int m_phase, .int m_state, .int m_at, .int m_begin, .int m_name, .int m_refr, .int m_tag, .int m_tagsz, .int m_quote, .int m_chars, .int m_brackets, .int m_matched, .long m_number, .int p1]))]) [0] rfl
  have hD9 := hD.sub (ws' := [(mh, .inr (4, [.ref m_te, .int m_size, .ref m_re, .int m_len, .int m_pieces, .ref m_kn, .ref m_bg, .ref m_en, .ref m_dp, .int m_open, .ref m_nm, .ref m_sz, .int m_attrs, .ref m_aa, .ref m_asz, .int m_elements, .int m_most, .int m_values, .int p2, .int m_phase, .int m_state, .int m_at, .int m_begin, .int m_name, .int m_refr, .int m_tag, .int m_tagsz, .int m_quote, .int m_chars, .int m_brackets, .int m_matched, .long m_number, .int p1]))]) [0] (by decide) rfl
  exact W.iret (v := (-1)) hx hb hr (fun t ht hW => ⟨⟨(-1), (), rfl, rfl, by rw [ht]; exact hP9, va_K.moved hW.alike hK, hD9⟩, hS.F ht⟩) hS.2.2 dX4_fail_11

set_option maxHeartbeats 4000000 in
set_option maxRecDepth 100000 in
/-- X4_wrong -/
theorem c_X4_wrong (l : Launch) (D : va_G) (cI : ClassId) (mh : Nat) (m_te : Nat) (m_size : Int32) (m_re : Nat) (m_len : Int32) (m_pieces : Int32) (m_kn : Nat) (m_bg : Nat) (m_en : Nat) (m_dp : Nat) (m_open : Int32) (m_nm : Nat) (m_sz : Nat) (m_attrs : Int32) (m_aa : Nat) (m_asz : Nat) (m_elements : Int32) (m_most : Int32) (m_values : Int32) (m_place : Int32) (m_phase : Int32) (m_state : Int32) (m_at : Int32) (m_begin : Int32) (m_name : Int32) (m_refr : Int32) (m_tag : Int32) (m_tagsz : Int32) (m_quote : Int32) (m_chars : Int32) (m_brackets : Int32) (m_matched : Int32) (m_number : Int64) (m_fault : Int32) (sz : Nat)   : Met l yX4_wrong (.code yX4_wrong cX4_wrong 1 (some .int) :: tbW) ({ frames := 1, cells := 0, slots := 0, locals := 22 }) (va_Pc [.ref mh] (gP D cI [(mh, .inr (4, [.ref m_te, .int m_size, .ref m_re, .int m_len, .int m_pieces, .ref m_kn, .ref m_bg, .ref m_en, .ref m_dp, .int m_open, .ref m_nm, .ref m_sz, .int m_attrs, .ref m_aa, .ref m_asz, .int m_elements, .int m_most, .int m_values, .int m_place, .int m_phase, .int m_state, .int m_at, .int m_begin, .int m_name, .int m_refr, .int m_tag, .int m_tagsz, .int m_quote, .int m_chars, .int m_brackets, .int m_matched, .long m_number, .int m_fault]))] sz)) (va_Qi (fun (r : Int32) (u : Unit) => r = -1) (fun u => gB D cI (va_A [(mh, .inr (4, [.ref m_te, .int m_size, .ref m_re, .int m_len, .int m_pieces, .ref m_kn, .ref m_bg, .ref m_en, .ref m_dp, .int m_open, .ref m_nm, .ref m_sz, .int m_attrs, .ref m_aa, .ref m_asz, .int m_elements, .int m_most, .int m_values, .int m_place, .int m_phase, .int m_state, .int m_at, .int m_begin, .int m_name, .int m_refr, .int m_tag, .int m_tagsz, .int m_quote, .int m_chars, .int m_brackets, .int m_matched, .long m_number, .int m_fault]))] sz) [(mh, .inr (4, [.ref m_te, .int m_size, .ref m_re, .int m_len, .int m_pieces, .ref m_kn, .ref m_bg, .ref m_en, .ref m_dp, .int m_open, .ref m_nm, .ref m_sz, .int m_attrs, .ref m_aa, .ref m_asz, .int m_elements, .int m_most, .int m_values, .int m_at, .int m_phase, .int m_state, .int m_at, .int m_begin, .int m_name, .int m_refr, .int m_tag, .int m_tagsz, .int m_quote, .int m_chars, .int m_brackets, .int m_matched, .long m_number, .int 2]))]) (va_A [(mh, .inr (4, [.ref m_te, .int m_size, .ref m_re, .int m_len, .int m_pieces, .ref m_kn, .ref m_bg, .ref m_en, .ref m_dp, .int m_open, .ref m_nm, .ref m_sz, .int m_attrs, .ref m_aa, .ref m_asz, .int m_elements, .int m_most, .int m_values, .int m_place, .int m_phase, .int m_state, .int m_at, .int m_begin, .int m_name, .int m_refr, .int m_tag, .int m_tagsz, .int m_quote, .int m_chars, .int m_brackets, .int m_matched, .long m_number, .int m_fault]))] sz)) 0 0 (va_A [(mh, .inr (4, [.ref m_te, .int m_size, .ref m_re, .int m_len, .int m_pieces, .ref m_kn, .ref m_bg, .ref m_en, .ref m_dp, .int m_open, .ref m_nm, .ref m_sz, .int m_attrs, .ref m_aa, .ref m_asz, .int m_elements, .int m_most, .int m_values, .int m_place, .int m_phase, .int m_state, .int m_at, .int m_begin, .int m_name, .int m_refr, .int m_tag, .int m_tagsz, .int m_quote, .int m_chars, .int m_brackets, .int m_matched, .long m_number, .int m_fault]))] sz) := by
  refine Met.ofW (cc := cX4_wrong) (maxL := 1) (ret := (some .int)) (by decide) rfl ?_
  intro p e s m args below meth c s₁ B hml hv
  obtain ⟨rfl, hsz, hP, hK, hD0, hN⟩ := hv
  have hx := B.exec
  have hb := B.bytes
  have hr := B.returns
  have hts := tb_hts (atoms_spec (ws := .code yX4_wrong cX4_wrong 1 (some .int) :: tbW) B.pre)
  have hown : s.vm.findClass RX4 = some m.cls := findClass_of_methodNamed B.named
  have hlocks := B.notSynchronized
  subst hsz
  have hD := hD0.self (sz := s.heap.size)
  generalize hAe : va_A [(mh, .inr (4, [.ref m_te, .int m_size, .ref m_re, .int m_len, .int m_pieces, .ref m_kn, .ref m_bg, .ref m_en, .ref m_dp, .int m_open, .ref m_nm, .ref m_sz, .int m_attrs, .ref m_aa, .ref m_asz, .int m_elements, .int m_most, .int m_values, .int m_place, .int m_phase, .int m_state, .int m_at, .int m_begin, .int m_name, .int m_refr, .int m_tag, .int m_tagsz, .int m_quote, .int m_chars, .int m_brackets, .int m_matched, .long m_number, .int m_fault]))] s.heap.size = A at hD ⊢
  have hA : ∀ q : Nat, s.heap.size ≤ q → A q := fun q h => by rw [← hAe]; exact Or.inr h
  have hS : va_S A s.heap s.heap [] := va_S.rf
  have hP : va_P D classes [(mh, .inr (4, [.ref m_te, .int m_size, .ref m_re, .int m_len, .int m_pieces, .ref m_kn, .ref m_bg, .ref m_en, .ref m_dp, .int m_open, .ref m_nm, .ref m_sz, .int m_attrs, .ref m_aa, .ref m_asz, .int m_elements, .int m_most, .int m_values, .int m_place, .int m_phase, .int m_state, .int m_at, .int m_begin, .int m_name, .int m_refr, .int m_tag, .int m_tagsz, .int m_quote, .int m_chars, .int m_brackets, .int m_matched, .long m_number, .int m_fault]))] s.heap := hP
  have hl := lv_entry ([.ref mh]) (n := 1) (Nat.le_of_ble_eq_true rfl)
  rw [lg_entry_eq]
  generalize (lg_sl ([.ref mh]) ++ List.replicate (1 - (lg_sl ([.ref mh])).length) Slot.unset).toArray = ls at hl ⊢
  have hl : lv_has ls 1 [(0, .ref mh)] := hl
  refine lv_aload_n hx hb dX4_wrong_0 rfl (lv_at hl 0 rfl) ?_
  refine lv_iconst (v := 2) hx hb dX4_wrong_1 (by decide) ?_
  refine lv_aload_n hx hb dX4_wrong_2 rfl (lv_at hl 0 rfl) ?_
  refine va_get (D := D) (ci := 4) (v := .int m_at) (C := RX4) (T := TX4) (N := 33) hx hb hts inX4 hown hK hP 0 rfl rfl 21 (by decide) (hts (Cond.fieldLink "NestedTagsModel" 59 "NestedTagsModel" "at" "I") kk_2_233) (fun _ h9 => h9) rfl dX4_wrong_3 ?_
  refine gcall_i (va_runV (As := [.int 2, .int m_at]) (rest := []) ⟨hx, hb, hml, hown, hts⟩ (c_X4_fail l D cI mh m_te m_size m_re m_len m_pieces m_kn m_bg m_en m_dp m_open m_nm m_sz m_attrs m_aa m_asz m_elements m_most m_values m_place m_phase m_state m_at m_begin m_name m_refr m_tag m_tagsz m_quote m_chars m_brackets m_matched m_number m_fault s.heap.size 2 m_at) (cwV 2 hts (tb_goodV kk_3_96 kk_3_98 kk_0_26 kk_1_6 kk_3_99) rfl rfl rfl (by decide +kernel) ⟨Nat.le_of_ble_eq_true rfl, Nat.le_of_ble_eq_true rfl⟩) (gpreV hK hN (hP.sub [0] rfl) (hD.sub [0] (by decide) rfl) (va_recv hK hP (ci := 4) (q0 := 0) rfl rfl)) rfl rfl hl.1 rfl (lv_room (Nat.le_of_ble_eq_true rfl)) dX4_wrong_6 ⟨Nat.le_of_ble_eq_true rfl, Nat.le_of_ble_eq_true rfl⟩) hP hD hS hA [0] [] (wr := []) rfl rfl (by decide) (by decide) (fun r_1 u_2 H locs hw_6 hP hD hS => ?_)
  try dsimp only at hw_6
  have hP : va_P D classes [(mh, .inr (4, [.ref m_te, .int m_size, .ref m_re, .int m_len, .int m_pieces, .ref m_kn, .ref m_bg, .ref m_en, .ref m_dp, .int m_open, .ref m_nm, .ref m_sz, .int m_attrs, .ref m_aa, .ref m_asz, .int m_elements, .int m_most, .int m_values, .int m_at, .int m_phase, .int m_state, .int m_at, .int m_begin, .int m_name, .int m_refr, .int m_tag, .int m_tagsz, .int m_quote, .int m_chars, .int m_brackets, .int m_matched, .long m_number, .int 2]))] H := hP
  have hD : va_D A [(mh, .inr (4, [.ref m_te, .int m_size, .ref m_re, .int m_len, .int m_pieces, .ref m_kn, .ref m_bg, .ref m_en, .ref m_dp, .int m_open, .ref m_nm, .ref m_sz, .int m_attrs, .ref m_aa, .ref m_asz, .int m_elements, .int m_most, .int m_values, .int m_at, .int m_phase, .int m_state, .int m_at, .int m_begin, .int m_name, .int m_refr, .int m_tag, .int m_tagsz, .int m_quote, .int m_chars, .int m_brackets, .int m_matched, .long m_number, .int 2]))] := hD
  have hP9 := hP.sub (ws' := [(mh, .inr (4, [.ref m_te, .int m_size, .ref m_re, .int m_len, .int m_pieces, .ref m_kn, .ref m_bg, .ref m_en, .ref m_dp, .int m_open, .ref m_nm, .ref m_sz, .int m_attrs, .ref m_aa, .ref m_asz, .int m_elements, .int m_most, .int m_values, .int m_at, .int m_phase, .int m_state, .int m_at, .int m_begin, .int m_name, .int m_refr, .int m_tag, .int m_tagsz, .int m_quote, .int m_chars, .int m_brackets, .int m_matched, .long m_number, .int 2]))]) [0] rfl
  have hD9 := hD.sub (ws' := [(mh, .inr (4, [.ref m_te, .int m_size, .ref m_re, .int m_len, .int m_pieces, .ref m_kn, .ref m_bg, .ref m_en, .ref m_dp, .int m_open, .ref m_nm, .ref m_sz, .int m_attrs, .ref m_aa, .ref m_asz, .int m_elements, .int m_most, .int m_values, .int m_at, .int m_phase, .int m_state, .int m_at, .int m_begin, .int m_name, .int m_refr, .int m_tag, .int m_tagsz, .int m_quote, .int m_chars, .int m_brackets, .int m_matched, .long m_number, .int 2]))]) [0] (by decide) rfl
  exact W.iret (v := r_1) hx hb hr (fun t ht hW => ⟨⟨r_1, (), rfl, hw_6, by rw [ht]; exact hP9, va_K.moved hW.alike hK, hD9⟩, hS.F ht⟩) hS.2.2 dX4_wrong_9

set_option maxHeartbeats 4000000 in
set_option maxRecDepth 100000 in
/-- X4_place -/
theorem c_X4_place (l : Launch) (D : va_G) (cI : ClassId) (mh : Nat) (m_te : Nat) (m_size : Int32) (m_re : Nat) (m_len : Int32) (m_pieces : Int32) (m_kn : Nat) (m_bg : Nat) (m_en : Nat) (m_dp : Nat) (m_open : Int32) (m_nm : Nat) (m_sz : Nat) (m_attrs : Int32) (m_aa : Nat) (m_asz : Nat) (m_elements : Int32) (m_most : Int32) (m_values : Int32) (m_place : Int32) (m_phase : Int32) (m_state : Int32) (m_at : Int32) (m_begin : Int32) (m_name : Int32) (m_refr : Int32) (m_tag : Int32) (m_tagsz : Int32) (m_quote : Int32) (m_chars : Int32) (m_brackets : Int32) (m_matched : Int32) (m_number : Int64) (m_fault : Int32) (sz : Nat)   : Met l yX4_place (.code yX4_place cX4_place 1 (some .int) :: tbW) ({ frames := 0, cells := 0, slots := 0, locals := 0 }) (va_Pc [.ref mh] (gP D cI [(mh, .inr (4, [.ref m_te, .int m_size, .ref m_re, .int m_len, .int m_pieces, .ref m_kn, .ref m_bg, .ref m_en, .ref m_dp, .int m_open, .ref m_nm, .ref m_sz, .int m_attrs, .ref m_aa, .ref m_asz, .int m_elements, .int m_most, .int m_values, .int m_place, .int m_phase, .int m_state, .int m_at, .int m_begin, .int m_name, .int m_refr, .int m_tag, .int m_tagsz, .int m_quote, .int m_chars, .int m_brackets, .int m_matched, .long m_number, .int m_fault]))] sz)) (va_Qi (fun (r : Int32) (u : Unit) => r = m_place) (fun u => gB D cI (va_A [(mh, .inr (4, [.ref m_te, .int m_size, .ref m_re, .int m_len, .int m_pieces, .ref m_kn, .ref m_bg, .ref m_en, .ref m_dp, .int m_open, .ref m_nm, .ref m_sz, .int m_attrs, .ref m_aa, .ref m_asz, .int m_elements, .int m_most, .int m_values, .int m_place, .int m_phase, .int m_state, .int m_at, .int m_begin, .int m_name, .int m_refr, .int m_tag, .int m_tagsz, .int m_quote, .int m_chars, .int m_brackets, .int m_matched, .long m_number, .int m_fault]))] sz) [(mh, .inr (4, [.ref m_te, .int m_size, .ref m_re, .int m_len, .int m_pieces, .ref m_kn, .ref m_bg, .ref m_en, .ref m_dp, .int m_open, .ref m_nm, .ref m_sz, .int m_attrs, .ref m_aa, .ref m_asz, .int m_elements, .int m_most, .int m_values, .int m_place, .int m_phase, .int m_state, .int m_at, .int m_begin, .int m_name, .int m_refr, .int m_tag, .int m_tagsz, .int m_quote, .int m_chars, .int m_brackets, .int m_matched, .long m_number, .int m_fault]))]) (va_A [(mh, .inr (4, [.ref m_te, .int m_size, .ref m_re, .int m_len, .int m_pieces, .ref m_kn, .ref m_bg, .ref m_en, .ref m_dp, .int m_open, .ref m_nm, .ref m_sz, .int m_attrs, .ref m_aa, .ref m_asz, .int m_elements, .int m_most, .int m_values, .int m_place, .int m_phase, .int m_state, .int m_at, .int m_begin, .int m_name, .int m_refr, .int m_tag, .int m_tagsz, .int m_quote, .int m_chars, .int m_brackets, .int m_matched, .long m_number, .int m_fault]))] sz)) 0 0 (va_A [(mh, .inr (4, [.ref m_te, .int m_size, .ref m_re, .int m_len, .int m_pieces, .ref m_kn, .ref m_bg, .ref m_en, .ref m_dp, .int m_open, .ref m_nm, .ref m_sz, .int m_attrs, .ref m_aa, .ref m_asz, .int m_elements, .int m_most, .int m_values, .int m_place, .int m_phase, .int m_state, .int m_at, .int m_begin, .int m_name, .int m_refr, .int m_tag, .int m_tagsz, .int m_quote, .int m_chars, .int m_brackets, .int m_matched, .long m_number, .int m_fault]))] sz) := by
  refine Met.ofW (cc := cX4_place) (maxL := 1) (ret := (some .int)) (by decide) rfl ?_
  intro p e s m args below meth c s₁ B hml hv
  obtain ⟨rfl, hsz, hP, hK, hD0, hN⟩ := hv
  have hx := B.exec
  have hb := B.bytes
  have hr := B.returns
  have hts := tb_hts (atoms_spec (ws := .code yX4_place cX4_place 1 (some .int) :: tbW) B.pre)
  have hown : s.vm.findClass RX4 = some m.cls := findClass_of_methodNamed B.named
  have hlocks := B.notSynchronized
  subst hsz
  have hD := hD0.self (sz := s.heap.size)
  generalize hAe : va_A [(mh, .inr (4, [.ref m_te, .int m_size, .ref m_re, .int m_len, .int m_pieces, .ref m_kn, .ref m_bg, .ref m_en, .ref m_dp, .int m_open, .ref m_nm, .ref m_sz, .int m_attrs, .ref m_aa, .ref m_asz, .int m_elements, .int m_most, .int m_values, .int m_place, .int m_phase, .int m_state, .int m_at, .int m_begin, .int m_name, .int m_refr, .int m_tag, .int m_tagsz, .int m_quote, .int m_chars, .int m_brackets, .int m_matched, .long m_number, .int m_fault]))] s.heap.size = A at hD ⊢
  have hA : ∀ q : Nat, s.heap.size ≤ q → A q := fun q h => by rw [← hAe]; exact Or.inr h
  have hS : va_S A s.heap s.heap [] := va_S.rf
  have hP : va_P D classes [(mh, .inr (4, [.ref m_te, .int m_size, .ref m_re, .int m_len, .int m_pieces, .ref m_kn, .ref m_bg, .ref m_en, .ref m_dp, .int m_open, .ref m_nm, .ref m_sz, .int m_attrs, .ref m_aa, .ref m_asz, .int m_elements, .int m_most, .int m_values, .int m_place, .int m_phase, .int m_state, .int m_at, .int m_begin, .int m_name, .int m_refr, .int m_tag, .int m_tagsz, .int m_quote, .int m_chars, .int m_brackets, .int m_matched, .long m_number, .int m_fault]))] s.heap := hP
  have hl := lv_entry ([.ref mh]) (n := 1) (Nat.le_of_ble_eq_true rfl)
  rw [lg_entry_eq]
  generalize (lg_sl ([.ref mh]) ++ List.replicate (1 - (lg_sl ([.ref mh])).length) Slot.unset).toArray = ls at hl ⊢
  have hl : lv_has ls 1 [(0, .ref mh)] := hl
  refine lv_aload_n hx hb dX4_place_0 rfl (lv_at hl 0 rfl) ?_
  refine va_get (D := D) (ci := 4) (v := .int m_place) (C := RX4) (T := TX4) (N := 33) hx hb hts inX4 hown hK hP 0 rfl rfl 18 (by decide) (hts (Cond.fieldLink "NestedTagsModel" 40 "NestedTagsModel" "place" "I") kk_2_230) (fun _ h9 => h9) rfl dX4_place_1 ?_
  have hP9 := hP.sub (ws' := [(mh, .inr (4, [.ref m_te, .int m_size, .ref m_re, .int m_len, .int m_pieces, .ref m_kn, .ref m_bg, .ref m_en, .ref m_dp, .int m_open, .ref m_nm, .ref m_sz, .int m_attrs, .ref m_aa, .ref m_asz, .int m_elements, .int m_most, .int m_values, .int m_place, .int m_phase, .int m_state, .int m_at, .int m_begin, .int m_name, .int m_refr, .int m_tag, .int m_tagsz, .int m_quote, .int m_chars, .int m_brackets, .int m_matched, .long m_number, .int m_fault]))]) [0] rfl
  have hD9 := hD.sub (ws' := [(mh, .inr (4, [.ref m_te, .int m_size, .ref m_re, .int m_len, .int m_pieces, .ref m_kn, .ref m_bg, .ref m_en, .ref m_dp, .int m_open, .ref m_nm, .ref m_sz, .int m_attrs, .ref m_aa, .ref m_asz, .int m_elements, .int m_most, .int m_values, .int m_place, .int m_phase, .int m_state, .int m_at, .int m_begin, .int m_name, .int m_refr, .int m_tag, .int m_tagsz, .int m_quote, .int m_chars, .int m_brackets, .int m_matched, .long m_number, .int m_fault]))]) [0] (by decide) rfl
  exact W.iret (v := m_place) hx hb hr (fun t ht hW => ⟨⟨m_place, (), rfl, rfl, by rw [ht]; exact hP9, va_K.moved hW.alike hK, hD9⟩, hS.F ht⟩) hS.2.2 dX4_place_4

set_option maxHeartbeats 4000000 in
set_option maxRecDepth 100000 in
/-- piece; the rows are in range as pieces ≤ 150 -/
theorem c_X4_piece (l : Launch) (D : va_G) (cI : ClassId) (mh : Nat) (m_te : Nat) (m_size : Int32) (m_re : Nat) (m_len : Int32) (m_pieces : Int32) (m_kn : Nat) (m_bg : Nat) (m_en : Nat) (m_dp : Nat) (m_open : Int32) (m_nm : Nat) (m_sz : Nat) (m_attrs : Int32) (m_aa : Nat) (m_asz : Nat) (m_elements : Int32) (m_most : Int32) (m_values : Int32) (m_place : Int32) (m_phase : Int32) (m_state : Int32) (m_at : Int32) (m_begin : Int32) (m_name : Int32) (m_refr : Int32) (m_tag : Int32) (m_tagsz : Int32) (m_quote : Int32) (m_chars : Int32) (m_brackets : Int32) (m_matched : Int32) (m_number : Int64) (m_fault : Int32) (k1 : Nat → Int32) (k2 : Nat → Int32) (k3 : Nat → Int32) (k4 : Nat → Int32) (sz : Nat) (p1 : Int32) (p2 : Int32) (hp150 : m_pieces ≤ 150) : Met l yX4_piece (.code yX4_piece cX4_piece 3 (some .int) :: tbW) ({ frames := 0, cells := 0, slots := 0, locals := 0 }) (va_Pc [.ref mh, .int p1, .int p2] (gP D cI [(mh, .inr (4, [.ref m_te, .int m_size, .ref m_re, .int m_len, .int m_pieces, .ref m_kn, .ref m_bg, .ref m_en, .ref m_dp, .int m_open, .ref m_nm, .ref m_sz, .int m_attrs, .ref m_aa, .ref m_asz, .int m_elements, .int m_most, .int m_values, .int m_place, .int m_phase, .int m_state, .int m_at, .int m_begin, .int m_name, .int m_refr, .int m_tag, .int m_tagsz, .int m_quote, .int m_chars, .int m_brackets, .int m_matched, .long m_number, .int m_fault])), (m_kn, .inl (cI, 150, .inl k1)), (m_bg, .inl (cI, 150, .inl k2)), (m_en, .inl (cI, 150, .inl k3)), (m_dp, .inl (cI, 150, .inl k4))] sz)) (va_Qi (fun (r : Int32) (u : Unit) => m_pieces = 0 → r = -1) (fun u => gB D cI (va_A [(mh, .inr (4, [.ref m_te, .int m_size, .ref m_re, .int m_len, .int m_pieces, .ref m_kn, .ref m_bg, .ref m_en, .ref m_dp, .int m_open, .ref m_nm, .ref m_sz, .int m_attrs, .ref m_aa, .ref m_asz, .int m_elements, .int m_most, .int m_values, .int m_place, .int m_phase, .int m_state, .int m_at, .int m_begin, .int m_name, .int m_refr, .int m_tag, .int m_tagsz, .int m_quote, .int m_chars, .int m_brackets, .int m_matched, .long m_number, .int m_fault])), (m_kn, .inl (cI, 150, .inl k1)), (m_bg, .inl (cI, 150, .inl k2)), (m_en, .inl (cI, 150, .inl k3)), (m_dp, .inl (cI, 150, .inl k4))] sz) [(mh, .inr (4, [.ref m_te, .int m_size, .ref m_re, .int m_len, .int m_pieces, .ref m_kn, .ref m_bg, .ref m_en, .ref m_dp, .int m_open, .ref m_nm, .ref m_sz, .int m_attrs, .ref m_aa, .ref m_asz, .int m_elements, .int m_most, .int m_values, .int m_place, .int m_phase, .int m_state, .int m_at, .int m_begin, .int m_name, .int m_refr, .int m_tag, .int m_tagsz, .int m_quote, .int m_chars, .int m_brackets, .int m_matched, .long m_number, .int m_fault])), (m_kn, .inl (cI, 150, .inl k1)), (m_bg, .inl (cI, 150, .inl k2)), (m_en, .inl (cI, 150, .inl k3)), (m_dp, .inl (cI, 150, .inl k4))]) (va_A [(mh, .inr (4, [.ref m_te, .int m_size, .ref m_re, .int m_len, .int m_pieces, .ref m_kn, .ref m_bg, .ref m_en, .ref m_dp, .int m_open, .ref m_nm, .ref m_sz, .int m_attrs, .ref m_aa, .ref m_asz, .int m_elements, .int m_most, .int m_values, .int m_place, .int m_phase, .int m_state, .int m_at, .int m_begin, .int m_name, .int m_refr, .int m_tag, .int m_tagsz, .int m_quote, .int m_chars, .int m_brackets, .int m_matched, .long m_number, .int m_fault])), (m_kn, .inl (cI, 150, .inl k1)), (m_bg, .inl (cI, 150, .inl k2)), (m_en, .inl (cI, 150, .inl k3)), (m_dp, .inl (cI, 150, .inl k4))] sz)) 0 0 (va_A [(mh, .inr (4, [.ref m_te, .int m_size, .ref m_re, .int m_len, .int m_pieces, .ref m_kn, .ref m_bg, .ref m_en, .ref m_dp, .int m_open, .ref m_nm, .ref m_sz, .int m_attrs, .ref m_aa, .ref m_asz, .int m_elements, .int m_most, .int m_values, .int m_place, .int m_phase, .int m_state, .int m_at, .int m_begin, .int m_name, .int m_refr, .int m_tag, .int m_tagsz, .int m_quote, .int m_chars, .int m_brackets, .int m_matched, .long m_number, .int m_fault])), (m_kn, .inl (cI, 150, .inl k1)), (m_bg, .inl (cI, 150, .inl k2)), (m_en, .inl (cI, 150, .inl k3)), (m_dp, .inl (cI, 150, .inl k4))] sz) := by
  refine Met.ofW (cc := cX4_piece) (maxL := 3) (ret := (some .int)) (by decide) rfl ?_
  intro p e s m args below meth c s₁ B hml hv
  obtain ⟨rfl, hsz, hP, hK, hD0, hN⟩ := hv
  have hx := B.exec
  have hb := B.bytes
  have hr := B.returns
  have hts := tb_hts (atoms_spec (ws := .code yX4_piece cX4_piece 3 (some .int) :: tbW) B.pre)
  have hown : s.vm.findClass RX4 = some m.cls := findClass_of_methodNamed B.named
  have hlocks := B.notSynchronized
  subst hsz
  have hD := hD0.self (sz := s.heap.size)
  generalize hAe : va_A [(mh, .inr (4, [.ref m_te, .int m_size, .ref m_re, .int m_len, .int m_pieces, .ref m_kn, .ref m_bg, .ref m_en, .ref m_dp, .int m_open, .ref m_nm, .ref m_sz, .int m_attrs, .ref m_aa, .ref m_asz, .int m_elements, .int m_most, .int m_values, .int m_place, .int m_phase, .int m_state, .int m_at, .int m_begin, .int m_name, .int m_refr, .int m_tag, .int m_tagsz, .int m_quote, .int m_chars, .int m_brackets, .int m_matched, .long m_number, .int m_fault])), (m_kn, .inl (cI, 150, .inl k1)), (m_bg, .inl (cI, 150, .inl k2)), (m_en, .inl (cI, 150, .inl k3)), (m_dp, .inl (cI, 150, .inl k4))] s.heap.size = A at hD ⊢
  have hA : ∀ q : Nat, s.heap.size ≤ q → A q := fun q h => by rw [← hAe]; exact Or.inr h
  have hS : va_S A s.heap s.heap [] := va_S.rf
  have hP : va_P D classes [(mh, .inr (4, [.ref m_te, .int m_size, .ref m_re, .int m_len, .int m_pieces, .ref m_kn, .ref m_bg, .ref m_en, .ref m_dp, .int m_open, .ref m_nm, .ref m_sz, .int m_attrs, .ref m_aa, .ref m_asz, .int m_elements, .int m_most, .int m_values, .int m_place, .int m_phase, .int m_state, .int m_at, .int m_begin, .int m_name, .int m_refr, .int m_tag, .int m_tagsz, .int m_quote, .int m_chars, .int m_brackets, .int m_matched, .long m_number, .int m_fault])), (m_kn, .inl (cI, 150, .inl k1)), (m_bg, .inl (cI, 150, .inl k2)), (m_en, .inl (cI, 150, .inl k3)), (m_dp, .inl (cI, 150, .inl k4))] s.heap := hP
  have hl := lv_entry ([.ref mh, .int p1, .int p2]) (n := 3) (Nat.le_of_ble_eq_true rfl)
  rw [lg_entry_eq]
  generalize (lg_sl ([.ref mh, .int p1, .int p2]) ++ List.replicate (3 - (lg_sl ([.ref mh, .int p1, .int p2])).length) Slot.unset).toArray = ls at hl ⊢
  have hl : lv_has ls 3 [(0, .ref mh), (1, .int p1), (2, .int p2)] := hl
  refine lv_iload_n hx hb dX4_piece_0 rfl (lv_at hl 1 rfl) ?_
  refine lv_if_lt (tgt := 12) hx hb dX4_piece_1 (by decide) (fun c_1 => ?_) (fun c_1 => ?_)
  · skip
    refine lv_iconst (v := (-1)) hx hb dX4_piece_12 (by decide) ?_
    have hP9 := hP.sub (ws' := [(mh, .inr (4, [.ref m_te, .int m_size, .ref m_re, .int m_len, .int m_pieces, .ref m_kn, .ref m_bg, .ref m_en, .ref m_dp, .int m_open, .ref m_nm, .ref m_sz, .int m_attrs, .ref m_aa, .ref m_asz, .int m_elements, .int m_most, .int m_values, .int m_place, .int m_phase, .int m_state, .int m_at, .int m_begin, .int m_name, .int m_refr, .int m_tag, .int m_tagsz, .int m_quote, .int m_chars, .int m_brackets, .int m_matched, .long m_number, .int m_fault])), (m_kn, .inl (cI, 150, .inl k1)), (m_bg, .inl (cI, 150, .inl k2)), (m_en, .inl (cI, 150, .inl k3)), (m_dp, .inl (cI, 150, .inl k4))]) [0, 1, 2, 3, 4] rfl
    have hD9 := hD.sub (ws' := [(mh, .inr (4, [.ref m_te, .int m_size, .ref m_re, .int m_len, .int m_pieces, .ref m_kn, .ref m_bg, .ref m_en, .ref m_dp, .int m_open, .ref m_nm, .ref m_sz, .int m_attrs, .ref m_aa, .ref m_asz, .int m_elements, .int m_most, .int m_values, .int m_place, .int m_phase, .int m_state, .int m_at, .int m_begin, .int m_name, .int m_refr, .int m_tag, .int m_tagsz, .int m_quote, .int m_chars, .int m_brackets, .int m_matched, .long m_number, .int m_fault])), (m_kn, .inl (cI, 150, .inl k1)), (m_bg, .inl (cI, 150, .inl k2)), (m_en, .inl (cI, 150, .inl k3)), (m_dp, .inl (cI, 150, .inl k4))]) [0, 1, 2, 3, 4] (by decide) rfl
    exact W.iret (v := (-1)) hx hb hr (fun t ht hW => ⟨⟨(-1), (), rfl, fun _ => rfl, by rw [ht]; exact hP9, va_K.moved hW.alike hK, hD9⟩, hS.F ht⟩) hS.2.2 dX4_piece_13
  · skip
    refine lv_iload_n hx hb dX4_piece_4 rfl (lv_at hl 1 rfl) ?_
    refine lv_aload_n hx hb dX4_piece_5 rfl (lv_at hl 0 rfl) ?_
    refine va_get (D := D) (ci := 4) (v := .int m_pieces) (C := RX4) (T := TX4) (N := 33) hx hb hts inX4 hown hK hP 0 rfl rfl 4 (by decide) (hts (Cond.fieldLink "NestedTagsModel" 66 "NestedTagsModel" "pieces" "I") kk_2_216) (fun _ h9 => h9) rfl dX4_piece_6 ?_
    refine lv_icmp_lt (tgt := 14) hx hb dX4_piece_9 (by decide) (fun c_9 => ?_) (fun c_9 => ?_)
    · skip
      refine lv_iload_n hx hb dX4_piece_14 rfl (lv_at hl 2 rfl) ?_
      by_cases s_15_0 : p2 = 0
      · refine lv_tableIn (off := 29) (tgt := 44) hx hb dX4_piece_15 (by rw [s_15_0]; decide) (by rw [s_15_0]; decide) (by rw [s_15_0]; decide) (by decide) ?_
        refine lv_aload_n hx hb dX4_piece_44 rfl (lv_at hl 0 rfl) ?_
        refine va_get (D := D) (ci := 4) (v := .ref m_kn) (C := RX4) (T := TX4) (N := 33) hx hb hts inX4 hown hK hP 0 rfl rfl 5 (by decide) (hts (Cond.fieldLink "NestedTagsModel" 16 "NestedTagsModel" "kinds" "[I") kk_2_217) (fun _ h9 => h9) rfl dX4_piece_45 ?_
        refine lv_iload_n hx hb dX4_piece_48 rfl (lv_at hl 1 rfl) ?_
        refine va_iald hx hb hK hP 1 0 rfl rfl (by first | assumption | exact pin c_1 c_9 hp150) dX4_piece_49 ?_
        refine lv_topi (fun x_1 ex_1 => ?_)
        have hP9 := hP.sub (ws' := [(mh, .inr (4, [.ref m_te, .int m_size, .ref m_re, .int m_len, .int m_pieces, .ref m_kn, .ref m_bg, .ref m_en, .ref m_dp, .int m_open, .ref m_nm, .ref m_sz, .int m_attrs, .ref m_aa, .ref m_asz, .int m_elements, .int m_most, .int m_values, .int m_place, .int m_phase, .int m_state, .int m_at, .int m_begin, .int m_name, .int m_refr, .int m_tag, .int m_tagsz, .int m_quote, .int m_chars, .int m_brackets, .int m_matched, .long m_number, .int m_fault])), (m_kn, .inl (cI, 150, .inl k1)), (m_bg, .inl (cI, 150, .inl k2)), (m_en, .inl (cI, 150, .inl k3)), (m_dp, .inl (cI, 150, .inl k4))]) [0, 1, 2, 3, 4] rfl
        have hD9 := hD.sub (ws' := [(mh, .inr (4, [.ref m_te, .int m_size, .ref m_re, .int m_len, .int m_pieces, .ref m_kn, .ref m_bg, .ref m_en, .ref m_dp, .int m_open, .ref m_nm, .ref m_sz, .int m_attrs, .ref m_aa, .ref m_asz, .int m_elements, .int m_most, .int m_values, .int m_place, .int m_phase, .int m_state, .int m_at, .int m_begin, .int m_name, .int m_refr, .int m_tag, .int m_tagsz, .int m_quote, .int m_chars, .int m_brackets, .int m_matched, .long m_number, .int m_fault])), (m_kn, .inl (cI, 150, .inl k1)), (m_bg, .inl (cI, 150, .inl k2)), (m_en, .inl (cI, 150, .inl k3)), (m_dp, .inl (cI, 150, .inl k4))]) [0, 1, 2, 3, 4] (by decide) rfl
        exact W.iret (v := x_1) hx hb hr (fun t ht hW => ⟨⟨x_1, (), rfl, fun q => absurd c_9 (by rw [q]; exact c_1), by rw [ht]; exact hP9, va_K.moved hW.alike hK, hD9⟩, hS.F ht⟩) hS.2.2 dX4_piece_50
      by_cases s_15_1 : p2 = 1
      · refine lv_tableIn (off := 36) (tgt := 51) hx hb dX4_piece_15 (by rw [s_15_1]; decide) (by rw [s_15_1]; decide) (by rw [s_15_1]; decide) (by decide) ?_
        refine lv_aload_n hx hb dX4_piece_51 rfl (lv_at hl 0 rfl) ?_
        refine va_get (D := D) (ci := 4) (v := .ref m_bg) (C := RX4) (T := TX4) (N := 33) hx hb hts inX4 hown hK hP 0 rfl rfl 6 (by decide) (hts (Cond.fieldLink "NestedTagsModel" 19 "NestedTagsModel" "begins" "[I") kk_2_218) (fun _ h9 => h9) rfl dX4_piece_52 ?_
        refine lv_iload_n hx hb dX4_piece_55 rfl (lv_at hl 1 rfl) ?_
        refine va_iald hx hb hK hP 2 0 rfl rfl (by first | assumption | exact pin c_1 c_9 hp150) dX4_piece_56 ?_
        refine lv_topi (fun x_2 ex_2 => ?_)
        have hP9 := hP.sub (ws' := [(mh, .inr (4, [.ref m_te, .int m_size, .ref m_re, .int m_len, .int m_pieces, .ref m_kn, .ref m_bg, .ref m_en, .ref m_dp, .int m_open, .ref m_nm, .ref m_sz, .int m_attrs, .ref m_aa, .ref m_asz, .int m_elements, .int m_most, .int m_values, .int m_place, .int m_phase, .int m_state, .int m_at, .int m_begin, .int m_name, .int m_refr, .int m_tag, .int m_tagsz, .int m_quote, .int m_chars, .int m_brackets, .int m_matched, .long m_number, .int m_fault])), (m_kn, .inl (cI, 150, .inl k1)), (m_bg, .inl (cI, 150, .inl k2)), (m_en, .inl (cI, 150, .inl k3)), (m_dp, .inl (cI, 150, .inl k4))]) [0, 1, 2, 3, 4] rfl
        have hD9 := hD.sub (ws' := [(mh, .inr (4, [.ref m_te, .int m_size, .ref m_re, .int m_len, .int m_pieces, .ref m_kn, .ref m_bg, .ref m_en, .ref m_dp, .int m_open, .ref m_nm, .ref m_sz, .int m_attrs, .ref m_aa, .ref m_asz, .int m_elements, .int m_most, .int m_values, .int m_place, .int m_phase, .int m_state, .int m_at, .int m_begin, .int m_name, .int m_refr, .int m_tag, .int m_tagsz, .int m_quote, .int m_chars, .int m_brackets, .int m_matched, .long m_number, .int m_fault])), (m_kn, .inl (cI, 150, .inl k1)), (m_bg, .inl (cI, 150, .inl k2)), (m_en, .inl (cI, 150, .inl k3)), (m_dp, .inl (cI, 150, .inl k4))]) [0, 1, 2, 3, 4] (by decide) rfl
        exact W.iret (v := x_2) hx hb hr (fun t ht hW => ⟨⟨x_2, (), rfl, fun q => absurd c_9 (by rw [q]; exact c_1), by rw [ht]; exact hP9, va_K.moved hW.alike hK, hD9⟩, hS.F ht⟩) hS.2.2 dX4_piece_57
      by_cases s_15_2 : p2 = 2
      · refine lv_tableIn (off := 43) (tgt := 58) hx hb dX4_piece_15 (by rw [s_15_2]; decide) (by rw [s_15_2]; decide) (by rw [s_15_2]; decide) (by decide) ?_
        refine lv_aload_n hx hb dX4_piece_58 rfl (lv_at hl 0 rfl) ?_
        refine va_get (D := D) (ci := 4) (v := .ref m_en) (C := RX4) (T := TX4) (N := 33) hx hb hts inX4 hown hK hP 0 rfl rfl 7 (by decide) (hts (Cond.fieldLink "NestedTagsModel" 22 "NestedTagsModel" "ends" "[I") kk_2_219) (fun _ h9 => h9) rfl dX4_piece_59 ?_
        refine lv_iload_n hx hb dX4_piece_62 rfl (lv_at hl 1 rfl) ?_
        refine va_iald hx hb hK hP 3 0 rfl rfl (by first | assumption | exact pin c_1 c_9 hp150) dX4_piece_63 ?_
        refine lv_topi (fun x_3 ex_3 => ?_)
        have hP9 := hP.sub (ws' := [(mh, .inr (4, [.ref m_te, .int m_size, .ref m_re, .int m_len, .int m_pieces, .ref m_kn, .ref m_bg, .ref m_en, .ref m_dp, .int m_open, .ref m_nm, .ref m_sz, .int m_attrs, .ref m_aa, .ref m_asz, .int m_elements, .int m_most, .int m_values, .int m_place, .int m_phase, .int m_state, .int m_at, .int m_begin, .int m_name, .int m_refr, .int m_tag, .int m_tagsz, .int m_quote, .int m_chars, .int m_brackets, .int m_matched, .long m_number, .int m_fault])), (m_kn, .inl (cI, 150, .inl k1)), (m_bg, .inl (cI, 150, .inl k2)), (m_en, .inl (cI, 150, .inl k3)), (m_dp, .inl (cI, 150, .inl k4))]) [0, 1, 2, 3, 4] rfl
        have hD9 := hD.sub (ws' := [(mh, .inr (4, [.ref m_te, .int m_size, .ref m_re, .int m_len, .int m_pieces, .ref m_kn, .ref m_bg, .ref m_en, .ref m_dp, .int m_open, .ref m_nm, .ref m_sz, .int m_attrs, .ref m_aa, .ref m_asz, .int m_elements, .int m_most, .int m_values, .int m_place, .int m_phase, .int m_state, .int m_at, .int m_begin, .int m_name, .int m_refr, .int m_tag, .int m_tagsz, .int m_quote, .int m_chars, .int m_brackets, .int m_matched, .long m_number, .int m_fault])), (m_kn, .inl (cI, 150, .inl k1)), (m_bg, .inl (cI, 150, .inl k2)), (m_en, .inl (cI, 150, .inl k3)), (m_dp, .inl (cI, 150, .inl k4))]) [0, 1, 2, 3, 4] (by decide) rfl
        exact W.iret (v := x_3) hx hb hr (fun t ht hW => ⟨⟨x_3, (), rfl, fun q => absurd c_9 (by rw [q]; exact c_1), by rw [ht]; exact hP9, va_K.moved hW.alike hK, hD9⟩, hS.F ht⟩) hS.2.2 dX4_piece_64
      by_cases s_15_3 : p2 = 3
      · refine lv_tableIn (off := 50) (tgt := 65) hx hb dX4_piece_15 (by rw [s_15_3]; decide) (by rw [s_15_3]; decide) (by rw [s_15_3]; decide) (by decide) ?_
        refine lv_aload_n hx hb dX4_piece_65 rfl (lv_at hl 0 rfl) ?_
        refine va_get (D := D) (ci := 4) (v := .ref m_dp) (C := RX4) (T := TX4) (N := 33) hx hb hts inX4 hown hK hP 0 rfl rfl 8 (by decide) (hts (Cond.fieldLink "NestedTagsModel" 25 "NestedTagsModel" "depths" "[I") kk_2_220) (fun _ h9 => h9) rfl dX4_piece_66 ?_
        refine lv_iload_n hx hb dX4_piece_69 rfl (lv_at hl 1 rfl) ?_
        refine va_iald hx hb hK hP 4 0 rfl rfl (by first | assumption | exact pin c_1 c_9 hp150) dX4_piece_70 ?_
        refine lv_topi (fun x_4 ex_4 => ?_)
        have hP9 := hP.sub (ws' := [(mh, .inr (4, [.ref m_te, .int m_size, .ref m_re, .int m_len, .int m_pieces, .ref m_kn, .ref m_bg, .ref m_en, .ref m_dp, .int m_open, .ref m_nm, .ref m_sz, .int m_attrs, .ref m_aa, .ref m_asz, .int m_elements, .int m_most, .int m_values, .int m_place, .int m_phase, .int m_state, .int m_at, .int m_begin, .int m_name, .int m_refr, .int m_tag, .int m_tagsz, .int m_quote, .int m_chars, .int m_brackets, .int m_matched, .long m_number, .int m_fault])), (m_kn, .inl (cI, 150, .inl k1)), (m_bg, .inl (cI, 150, .inl k2)), (m_en, .inl (cI, 150, .inl k3)), (m_dp, .inl (cI, 150, .inl k4))]) [0, 1, 2, 3, 4] rfl
        have hD9 := hD.sub (ws' := [(mh, .inr (4, [.ref m_te, .int m_size, .ref m_re, .int m_len, .int m_pieces, .ref m_kn, .ref m_bg, .ref m_en, .ref m_dp, .int m_open, .ref m_nm, .ref m_sz, .int m_attrs, .ref m_aa, .ref m_asz, .int m_elements, .int m_most, .int m_values, .int m_place, .int m_phase, .int m_state, .int m_at, .int m_begin, .int m_name, .int m_refr, .int m_tag, .int m_tagsz, .int m_quote, .int m_chars, .int m_brackets, .int m_matched, .long m_number, .int m_fault])), (m_kn, .inl (cI, 150, .inl k1)), (m_bg, .inl (cI, 150, .inl k2)), (m_en, .inl (cI, 150, .inl k3)), (m_dp, .inl (cI, 150, .inl k4))]) [0, 1, 2, 3, 4] (by decide) rfl
        exact W.iret (v := x_4) hx hb hr (fun t ht hW => ⟨⟨x_4, (), rfl, fun q => absurd c_9 (by rw [q]; exact c_1), by rw [ht]; exact hP9, va_K.moved hW.alike hK, hD9⟩, hS.F ht⟩) hS.2.2 dX4_piece_71
      refine lv_tableOut (tgt := 72) hx hb dX4_piece_15 (by have := lv_neT s_15_0 (a := 0) rfl; have := lv_neT s_15_1 (a := 1) rfl; have := lv_neT s_15_2 (a := 2) rfl; have := lv_neT s_15_3 (a := 3) rfl; omega) (by decide) ?_
      refine lv_iconst (v := (-1)) hx hb dX4_piece_72 (by decide) ?_
      have hP9 := hP.sub (ws' := [(mh, .inr (4, [.ref m_te, .int m_size, .ref m_re, .int m_len, .int m_pieces, .ref m_kn, .ref m_bg, .ref m_en, .ref m_dp, .int m_open, .ref m_nm, .ref m_sz, .int m_attrs, .ref m_aa, .ref m_asz, .int m_elements, .int m_most, .int m_values, .int m_place, .int m_phase, .int m_state, .int m_at, .int m_begin, .int m_name, .int m_refr, .int m_tag, .int m_tagsz, .int m_quote, .int m_chars, .int m_brackets, .int m_matched, .long m_number, .int m_fault])), (m_kn, .inl (cI, 150, .inl k1)), (m_bg, .inl (cI, 150, .inl k2)), (m_en, .inl (cI, 150, .inl k3)), (m_dp, .inl (cI, 150, .inl k4))]) [0, 1, 2, 3, 4] rfl
      have hD9 := hD.sub (ws' := [(mh, .inr (4, [.ref m_te, .int m_size, .ref m_re, .int m_len, .int m_pieces, .ref m_kn, .ref m_bg, .ref m_en, .ref m_dp, .int m_open, .ref m_nm, .ref m_sz, .int m_attrs, .ref m_aa, .ref m_asz, .int m_elements, .int m_most, .int m_values, .int m_place, .int m_phase, .int m_state, .int m_at, .int m_begin, .int m_name, .int m_refr, .int m_tag, .int m_tagsz, .int m_quote, .int m_chars, .int m_brackets, .int m_matched, .long m_number, .int m_fault])), (m_kn, .inl (cI, 150, .inl k1)), (m_bg, .inl (cI, 150, .inl k2)), (m_en, .inl (cI, 150, .inl k3)), (m_dp, .inl (cI, 150, .inl k4))]) [0, 1, 2, 3, 4] (by decide) rfl
      exact W.iret (v := (-1)) hx hb hr (fun t ht hW => ⟨⟨(-1), (), rfl, fun _ => rfl, by rw [ht]; exact hP9, va_K.moved hW.alike hK, hD9⟩, hS.F ht⟩) hS.2.2 dX4_piece_73
    · skip
      refine lv_iconst (v := (-1)) hx hb dX4_piece_12 (by decide) ?_
      have hP9 := hP.sub (ws' := [(mh, .inr (4, [.ref m_te, .int m_size, .ref m_re, .int m_len, .int m_pieces, .ref m_kn, .ref m_bg, .ref m_en, .ref m_dp, .int m_open, .ref m_nm, .ref m_sz, .int m_attrs, .ref m_aa, .ref m_asz, .int m_elements, .int m_most, .int m_values, .int m_place, .int m_phase, .int m_state, .int m_at, .int m_begin, .int m_name, .int m_refr, .int m_tag, .int m_tagsz, .int m_quote, .int m_chars, .int m_brackets, .int m_matched, .long m_number, .int m_fault])), (m_kn, .inl (cI, 150, .inl k1)), (m_bg, .inl (cI, 150, .inl k2)), (m_en, .inl (cI, 150, .inl k3)), (m_dp, .inl (cI, 150, .inl k4))]) [0, 1, 2, 3, 4] rfl
      have hD9 := hD.sub (ws' := [(mh, .inr (4, [.ref m_te, .int m_size, .ref m_re, .int m_len, .int m_pieces, .ref m_kn, .ref m_bg, .ref m_en, .ref m_dp, .int m_open, .ref m_nm, .ref m_sz, .int m_attrs, .ref m_aa, .ref m_asz, .int m_elements, .int m_most, .int m_values, .int m_place, .int m_phase, .int m_state, .int m_at, .int m_begin, .int m_name, .int m_refr, .int m_tag, .int m_tagsz, .int m_quote, .int m_chars, .int m_brackets, .int m_matched, .long m_number, .int m_fault])), (m_kn, .inl (cI, 150, .inl k1)), (m_bg, .inl (cI, 150, .inl k2)), (m_en, .inl (cI, 150, .inl k3)), (m_dp, .inl (cI, 150, .inl k4))]) [0, 1, 2, 3, 4] (by decide) rfl
      exact W.iret (v := (-1)) hx hb hr (fun t ht hW => ⟨⟨(-1), (), rfl, fun _ => rfl, by rw [ht]; exact hP9, va_K.moved hW.alike hK, hD9⟩, hS.F ht⟩) hS.2.2 dX4_piece_13

set_option maxHeartbeats 4000000 in
set_option maxRecDepth 100000 in
/-- byteOf; in range as length ≤ 500 -/
theorem c_X4_byteOf (l : Launch) (D : va_G) (cI : ClassId) (mh : Nat) (m_te : Nat) (m_size : Int32) (m_re : Nat) (m_len : Int32) (m_pieces : Int32) (m_kn : Nat) (m_bg : Nat) (m_en : Nat) (m_dp : Nat) (m_open : Int32) (m_nm : Nat) (m_sz : Nat) (m_attrs : Int32) (m_aa : Nat) (m_asz : Nat) (m_elements : Int32) (m_most : Int32) (m_values : Int32) (m_place : Int32) (m_phase : Int32) (m_state : Int32) (m_at : Int32) (m_begin : Int32) (m_name : Int32) (m_refr : Int32) (m_tag : Int32) (m_tagsz : Int32) (m_quote : Int32) (m_chars : Int32) (m_brackets : Int32) (m_matched : Int32) (m_number : Int64) (m_fault : Int32) (g : Nat → Int32) (sz : Nat) (p1 : Int32) (hl5 : m_len ≤ 500) : Met l yX4_byteOf (.code yX4_byteOf cX4_byteOf 2 (some .int) :: tbW) ({ frames := 0, cells := 0, slots := 0, locals := 0 }) (va_Pc [.ref mh, .int p1] (gP D cI [(mh, .inr (4, [.ref m_te, .int m_size, .ref m_re, .int m_len, .int m_pieces, .ref m_kn, .ref m_bg, .ref m_en, .ref m_dp, .int m_open, .ref m_nm, .ref m_sz, .int m_attrs, .ref m_aa, .ref m_asz, .int m_elements, .int m_most, .int m_values, .int m_place, .int m_phase, .int m_state, .int m_at, .int m_begin, .int m_name, .int m_refr, .int m_tag, .int m_tagsz, .int m_quote, .int m_chars, .int m_brackets, .int m_matched, .long m_number, .int m_fault])), (m_re, .inl (cI, 500, .inl g))] sz)) (va_Qi (fun (r : Int32) (u : Unit) => r = byteAt g m_len p1) (fun u => gB D cI (va_A [(mh, .inr (4, [.ref m_te, .int m_size, .ref m_re, .int m_len, .int m_pieces, .ref m_kn, .ref m_bg, .ref m_en, .ref m_dp, .int m_open, .ref m_nm, .ref m_sz, .int m_attrs, .ref m_aa, .ref m_asz, .int m_elements, .int m_most, .int m_values, .int m_place, .int m_phase, .int m_state, .int m_at, .int m_begin, .int m_name, .int m_refr, .int m_tag, .int m_tagsz, .int m_quote, .int m_chars, .int m_brackets, .int m_matched, .long m_number, .int m_fault])), (m_re, .inl (cI, 500, .inl g))] sz) [(mh, .inr (4, [.ref m_te, .int m_size, .ref m_re, .int m_len, .int m_pieces, .ref m_kn, .ref m_bg, .ref m_en, .ref m_dp, .int m_open, .ref m_nm, .ref m_sz, .int m_attrs, .ref m_aa, .ref m_asz, .int m_elements, .int m_most, .int m_values, .int m_place, .int m_phase, .int m_state, .int m_at, .int m_begin, .int m_name, .int m_refr, .int m_tag, .int m_tagsz, .int m_quote, .int m_chars, .int m_brackets, .int m_matched, .long m_number, .int m_fault])), (m_re, .inl (cI, 500, .inl g))]) (va_A [(mh, .inr (4, [.ref m_te, .int m_size, .ref m_re, .int m_len, .int m_pieces, .ref m_kn, .ref m_bg, .ref m_en, .ref m_dp, .int m_open, .ref m_nm, .ref m_sz, .int m_attrs, .ref m_aa, .ref m_asz, .int m_elements, .int m_most, .int m_values, .int m_place, .int m_phase, .int m_state, .int m_at, .int m_begin, .int m_name, .int m_refr, .int m_tag, .int m_tagsz, .int m_quote, .int m_chars, .int m_brackets, .int m_matched, .long m_number, .int m_fault])), (m_re, .inl (cI, 500, .inl g))] sz)) 0 0 (va_A [(mh, .inr (4, [.ref m_te, .int m_size, .ref m_re, .int m_len, .int m_pieces, .ref m_kn, .ref m_bg, .ref m_en, .ref m_dp, .int m_open, .ref m_nm, .ref m_sz, .int m_attrs, .ref m_aa, .ref m_asz, .int m_elements, .int m_most, .int m_values, .int m_place, .int m_phase, .int m_state, .int m_at, .int m_begin, .int m_name, .int m_refr, .int m_tag, .int m_tagsz, .int m_quote, .int m_chars, .int m_brackets, .int m_matched, .long m_number, .int m_fault])), (m_re, .inl (cI, 500, .inl g))] sz) := by
  refine Met.ofW (cc := cX4_byteOf) (maxL := 2) (ret := (some .int)) (by decide) rfl ?_
  intro p e s m args below meth c s₁ B hml hv
  obtain ⟨rfl, hsz, hP, hK, hD0, hN⟩ := hv
  have hx := B.exec
  have hb := B.bytes
  have hr := B.returns
  have hts := tb_hts (atoms_spec (ws := .code yX4_byteOf cX4_byteOf 2 (some .int) :: tbW) B.pre)
  have hown : s.vm.findClass RX4 = some m.cls := findClass_of_methodNamed B.named
  have hlocks := B.notSynchronized
  subst hsz
  have hD := hD0.self (sz := s.heap.size)
  generalize hAe : va_A [(mh, .inr (4, [.ref m_te, .int m_size, .ref m_re, .int m_len, .int m_pieces, .ref m_kn, .ref m_bg, .ref m_en, .ref m_dp, .int m_open, .ref m_nm, .ref m_sz, .int m_attrs, .ref m_aa, .ref m_asz, .int m_elements, .int m_most, .int m_values, .int m_place, .int m_phase, .int m_state, .int m_at, .int m_begin, .int m_name, .int m_refr, .int m_tag, .int m_tagsz, .int m_quote, .int m_chars, .int m_brackets, .int m_matched, .long m_number, .int m_fault])), (m_re, .inl (cI, 500, .inl g))] s.heap.size = A at hD ⊢
  have hA : ∀ q : Nat, s.heap.size ≤ q → A q := fun q h => by rw [← hAe]; exact Or.inr h
  have hS : va_S A s.heap s.heap [] := va_S.rf
  have hP : va_P D classes [(mh, .inr (4, [.ref m_te, .int m_size, .ref m_re, .int m_len, .int m_pieces, .ref m_kn, .ref m_bg, .ref m_en, .ref m_dp, .int m_open, .ref m_nm, .ref m_sz, .int m_attrs, .ref m_aa, .ref m_asz, .int m_elements, .int m_most, .int m_values, .int m_place, .int m_phase, .int m_state, .int m_at, .int m_begin, .int m_name, .int m_refr, .int m_tag, .int m_tagsz, .int m_quote, .int m_chars, .int m_brackets, .int m_matched, .long m_number, .int m_fault])), (m_re, .inl (cI, 500, .inl g))] s.heap := hP
  have hl := lv_entry ([.ref mh, .int p1]) (n := 2) (Nat.le_of_ble_eq_true rfl)
  rw [lg_entry_eq]
  generalize (lg_sl ([.ref mh, .int p1]) ++ List.replicate (2 - (lg_sl ([.ref mh, .int p1])).length) Slot.unset).toArray = ls at hl ⊢
  have hl : lv_has ls 2 [(0, .ref mh), (1, .int p1)] := hl
  refine lv_iload_n hx hb dX4_byteOf_0 rfl (lv_at hl 1 rfl) ?_
  refine lv_if_lt (tgt := 21) hx hb dX4_byteOf_1 (by decide) (fun c_1 => ?_) (fun c_1 => ?_)
  · skip
    refine lv_iconst (v := (-1)) hx hb dX4_byteOf_21 (by decide) ?_
    have hP9 := hP.sub (ws' := [(mh, .inr (4, [.ref m_te, .int m_size, .ref m_re, .int m_len, .int m_pieces, .ref m_kn, .ref m_bg, .ref m_en, .ref m_dp, .int m_open, .ref m_nm, .ref m_sz, .int m_attrs, .ref m_aa, .ref m_asz, .int m_elements, .int m_most, .int m_values, .int m_place, .int m_phase, .int m_state, .int m_at, .int m_begin, .int m_name, .int m_refr, .int m_tag, .int m_tagsz, .int m_quote, .int m_chars, .int m_brackets, .int m_matched, .long m_number, .int m_fault])), (m_re, .inl (cI, 500, .inl g))]) [0, 1] rfl
    have hD9 := hD.sub (ws' := [(mh, .inr (4, [.ref m_te, .int m_size, .ref m_re, .int m_len, .int m_pieces, .ref m_kn, .ref m_bg, .ref m_en, .ref m_dp, .int m_open, .ref m_nm, .ref m_sz, .int m_attrs, .ref m_aa, .ref m_asz, .int m_elements, .int m_most, .int m_values, .int m_place, .int m_phase, .int m_state, .int m_at, .int m_begin, .int m_name, .int m_refr, .int m_tag, .int m_tagsz, .int m_quote, .int m_chars, .int m_brackets, .int m_matched, .long m_number, .int m_fault])), (m_re, .inl (cI, 500, .inl g))]) [0, 1] (by decide) rfl
    exact W.iret (v := (-1)) hx hb hr (fun t ht hW => ⟨⟨(-1), (), rfl, (byteAt_a c_1).symm, by rw [ht]; exact hP9, va_K.moved hW.alike hK, hD9⟩, hS.F ht⟩) hS.2.2 dX4_byteOf_22
  · skip
    refine lv_iload_n hx hb dX4_byteOf_4 rfl (lv_at hl 1 rfl) ?_
    refine lv_aload_n hx hb dX4_byteOf_5 rfl (lv_at hl 0 rfl) ?_
    refine va_get (D := D) (ci := 4) (v := .int m_len) (C := RX4) (T := TX4) (N := 33) hx hb hts inX4 hown hK hP 0 rfl rfl 3 (by decide) (hts (Cond.fieldLink "NestedTagsModel" 234 "NestedTagsModel" "length" "I") kk_2_215) (fun _ h9 => h9) rfl dX4_byteOf_6 ?_
    refine lv_icmp_ge (tgt := 21) hx hb dX4_byteOf_9 (by decide) (fun c_9 => ?_) (fun c_9 => ?_)
    · skip
      refine lv_iconst (v := (-1)) hx hb dX4_byteOf_21 (by decide) ?_
      have hP9 := hP.sub (ws' := [(mh, .inr (4, [.ref m_te, .int m_size, .ref m_re, .int m_len, .int m_pieces, .ref m_kn, .ref m_bg, .ref m_en, .ref m_dp, .int m_open, .ref m_nm, .ref m_sz, .int m_attrs, .ref m_aa, .ref m_asz, .int m_elements, .int m_most, .int m_values, .int m_place, .int m_phase, .int m_state, .int m_at, .int m_begin, .int m_name, .int m_refr, .int m_tag, .int m_tagsz, .int m_quote, .int m_chars, .int m_brackets, .int m_matched, .long m_number, .int m_fault])), (m_re, .inl (cI, 500, .inl g))]) [0, 1] rfl
      have hD9 := hD.sub (ws' := [(mh, .inr (4, [.ref m_te, .int m_size, .ref m_re, .int m_len, .int m_pieces, .ref m_kn, .ref m_bg, .ref m_en, .ref m_dp, .int m_open, .ref m_nm, .ref m_sz, .int m_attrs, .ref m_aa, .ref m_asz, .int m_elements, .int m_most, .int m_values, .int m_place, .int m_phase, .int m_state, .int m_at, .int m_begin, .int m_name, .int m_refr, .int m_tag, .int m_tagsz, .int m_quote, .int m_chars, .int m_brackets, .int m_matched, .long m_number, .int m_fault])), (m_re, .inl (cI, 500, .inl g))]) [0, 1] (by decide) rfl
      exact W.iret (v := (-1)) hx hb hr (fun t ht hW => ⟨⟨(-1), (), rfl, (byteAt_b c_9).symm, by rw [ht]; exact hP9, va_K.moved hW.alike hK, hD9⟩, hS.F ht⟩) hS.2.2 dX4_byteOf_22
    · skip
      refine lv_aload_n hx hb dX4_byteOf_12 rfl (lv_at hl 0 rfl) ?_
      refine va_get (D := D) (ci := 4) (v := .ref m_re) (C := RX4) (T := TX4) (N := 33) hx hb hts inX4 hown hK hP 0 rfl rfl 2 (by decide) (hts (Cond.fieldLink "NestedTagsModel" 13 "NestedTagsModel" "read" "[I") kk_2_214) (fun _ h9 => h9) rfl dX4_byteOf_13 ?_
      refine lv_iload_n hx hb dX4_byteOf_16 rfl (lv_at hl 1 rfl) ?_
      refine va_iald hx hb hK hP 1 0 rfl rfl (vin_of c_1 (bin c_9 hl5) (by decide)) dX4_byteOf_17 ?_
      refine lv_topi (fun x_1 ex_1 => ?_)
      refine lv_goto (tgt := 22) hx hb dX4_byteOf_18 (by decide) ?_
      have hP9 := hP.sub (ws' := [(mh, .inr (4, [.ref m_te, .int m_size, .ref m_re, .int m_len, .int m_pieces, .ref m_kn, .ref m_bg, .ref m_en, .ref m_dp, .int m_open, .ref m_nm, .ref m_sz, .int m_attrs, .ref m_aa, .ref m_asz, .int m_elements, .int m_most, .int m_values, .int m_place, .int m_phase, .int m_state, .int m_at, .int m_begin, .int m_name, .int m_refr, .int m_tag, .int m_tagsz, .int m_quote, .int m_chars, .int m_brackets, .int m_matched, .long m_number, .int m_fault])), (m_re, .inl (cI, 500, .inl g))]) [0, 1] rfl
      have hD9 := hD.sub (ws' := [(mh, .inr (4, [.ref m_te, .int m_size, .ref m_re, .int m_len, .int m_pieces, .ref m_kn, .ref m_bg, .ref m_en, .ref m_dp, .int m_open, .ref m_nm, .ref m_sz, .int m_attrs, .ref m_aa, .ref m_asz, .int m_elements, .int m_most, .int m_values, .int m_place, .int m_phase, .int m_state, .int m_at, .int m_begin, .int m_name, .int m_refr, .int m_tag, .int m_tagsz, .int m_quote, .int m_chars, .int m_brackets, .int m_matched, .long m_number, .int m_fault])), (m_re, .inl (cI, 500, .inl g))]) [0, 1] (by decide) rfl
      exact W.iret (v := x_1) hx hb hr (fun t ht hW => ⟨⟨x_1, (), rfl, by rw [ex_1]; exact (byteAt_in c_1 c_9 (bin c_9 hl5)).symm, by rw [ht]; exact hP9, va_K.moved hW.alike hK, hD9⟩, hS.F ht⟩) hS.2.2 dX4_byteOf_22

set_option maxHeartbeats 4000000 in
set_option maxRecDepth 100000 in
/-- X4_count -/
theorem c_X4_count (l : Launch) (D : va_G) (cI : ClassId) (mh : Nat) (m_te : Nat) (m_size : Int32) (m_re : Nat) (m_len : Int32) (m_pieces : Int32) (m_kn : Nat) (m_bg : Nat) (m_en : Nat) (m_dp : Nat) (m_open : Int32) (m_nm : Nat) (m_sz : Nat) (m_attrs : Int32) (m_aa : Nat) (m_asz : Nat) (m_elements : Int32) (m_most : Int32) (m_values : Int32) (m_place : Int32) (m_phase : Int32) (m_state : Int32) (m_at : Int32) (m_begin : Int32) (m_name : Int32) (m_refr : Int32) (m_tag : Int32) (m_tagsz : Int32) (m_quote : Int32) (m_chars : Int32) (m_brackets : Int32) (m_matched : Int32) (m_number : Int64) (m_fault : Int32) (sz : Nat) (p1 : Int32)  : Met l yX4_count (.code yX4_count cX4_count 2 (some .int) :: tbW) ({ frames := 0, cells := 0, slots := 0, locals := 0 }) (va_Pc [.ref mh, .int p1] (gP D cI [(mh, .inr (4, [.ref m_te, .int m_size, .ref m_re, .int m_len, .int m_pieces, .ref m_kn, .ref m_bg, .ref m_en, .ref m_dp, .int m_open, .ref m_nm, .ref m_sz, .int m_attrs, .ref m_aa, .ref m_asz, .int m_elements, .int m_most, .int m_values, .int m_place, .int m_phase, .int m_state, .int m_at, .int m_begin, .int m_name, .int m_refr, .int m_tag, .int m_tagsz, .int m_quote, .int m_chars, .int m_brackets, .int m_matched, .long m_number, .int m_fault]))] sz)) (va_Qi (fun (r : Int32) (u : Unit) => r = if p1 = 0 then m_pieces else if p1 = 1 then m_elements else if p1 = 2 then m_most else if p1 = 3 then m_size else if p1 = 4 then m_values else -1) (fun u => gB D cI (va_A [(mh, .inr (4, [.ref m_te, .int m_size, .ref m_re, .int m_len, .int m_pieces, .ref m_kn, .ref m_bg, .ref m_en, .ref m_dp, .int m_open, .ref m_nm, .ref m_sz, .int m_attrs, .ref m_aa, .ref m_asz, .int m_elements, .int m_most, .int m_values, .int m_place, .int m_phase, .int m_state, .int m_at, .int m_begin, .int m_name, .int m_refr, .int m_tag, .int m_tagsz, .int m_quote, .int m_chars, .int m_brackets, .int m_matched, .long m_number, .int m_fault]))] sz) [(mh, .inr (4, [.ref m_te, .int m_size, .ref m_re, .int m_len, .int m_pieces, .ref m_kn, .ref m_bg, .ref m_en, .ref m_dp, .int m_open, .ref m_nm, .ref m_sz, .int m_attrs, .ref m_aa, .ref m_asz, .int m_elements, .int m_most, .int m_values, .int m_place, .int m_phase, .int m_state, .int m_at, .int m_begin, .int m_name, .int m_refr, .int m_tag, .int m_tagsz, .int m_quote, .int m_chars, .int m_brackets, .int m_matched, .long m_number, .int m_fault]))]) (va_A [(mh, .inr (4, [.ref m_te, .int m_size, .ref m_re, .int m_len, .int m_pieces, .ref m_kn, .ref m_bg, .ref m_en, .ref m_dp, .int m_open, .ref m_nm, .ref m_sz, .int m_attrs, .ref m_aa, .ref m_asz, .int m_elements, .int m_most, .int m_values, .int m_place, .int m_phase, .int m_state, .int m_at, .int m_begin, .int m_name, .int m_refr, .int m_tag, .int m_tagsz, .int m_quote, .int m_chars, .int m_brackets, .int m_matched, .long m_number, .int m_fault]))] sz)) 0 0 (va_A [(mh, .inr (4, [.ref m_te, .int m_size, .ref m_re, .int m_len, .int m_pieces, .ref m_kn, .ref m_bg, .ref m_en, .ref m_dp, .int m_open, .ref m_nm, .ref m_sz, .int m_attrs, .ref m_aa, .ref m_asz, .int m_elements, .int m_most, .int m_values, .int m_place, .int m_phase, .int m_state, .int m_at, .int m_begin, .int m_name, .int m_refr, .int m_tag, .int m_tagsz, .int m_quote, .int m_chars, .int m_brackets, .int m_matched, .long m_number, .int m_fault]))] sz) := by
  refine Met.ofW (cc := cX4_count) (maxL := 2) (ret := (some .int)) (by decide) rfl ?_
  intro p e s m args below meth c s₁ B hml hv
  obtain ⟨rfl, hsz, hP, hK, hD0, hN⟩ := hv
  have hx := B.exec
  have hb := B.bytes
  have hr := B.returns
  have hts := tb_hts (atoms_spec (ws := .code yX4_count cX4_count 2 (some .int) :: tbW) B.pre)
  have hown : s.vm.findClass RX4 = some m.cls := findClass_of_methodNamed B.named
  have hlocks := B.notSynchronized
  subst hsz
  have hD := hD0.self (sz := s.heap.size)
  generalize hAe : va_A [(mh, .inr (4, [.ref m_te, .int m_size, .ref m_re, .int m_len, .int m_pieces, .ref m_kn, .ref m_bg, .ref m_en, .ref m_dp, .int m_open, .ref m_nm, .ref m_sz, .int m_attrs, .ref m_aa, .ref m_asz, .int m_elements, .int m_most, .int m_values, .int m_place, .int m_phase, .int m_state, .int m_at, .int m_begin, .int m_name, .int m_refr, .int m_tag, .int m_tagsz, .int m_quote, .int m_chars, .int m_brackets, .int m_matched, .long m_number, .int m_fault]))] s.heap.size = A at hD ⊢
  have hA : ∀ q : Nat, s.heap.size ≤ q → A q := fun q h => by rw [← hAe]; exact Or.inr h
  have hS : va_S A s.heap s.heap [] := va_S.rf
  have hP : va_P D classes [(mh, .inr (4, [.ref m_te, .int m_size, .ref m_re, .int m_len, .int m_pieces, .ref m_kn, .ref m_bg, .ref m_en, .ref m_dp, .int m_open, .ref m_nm, .ref m_sz, .int m_attrs, .ref m_aa, .ref m_asz, .int m_elements, .int m_most, .int m_values, .int m_place, .int m_phase, .int m_state, .int m_at, .int m_begin, .int m_name, .int m_refr, .int m_tag, .int m_tagsz, .int m_quote, .int m_chars, .int m_brackets, .int m_matched, .long m_number, .int m_fault]))] s.heap := hP
  have hl := lv_entry ([.ref mh, .int p1]) (n := 2) (Nat.le_of_ble_eq_true rfl)
  rw [lg_entry_eq]
  generalize (lg_sl ([.ref mh, .int p1]) ++ List.replicate (2 - (lg_sl ([.ref mh, .int p1])).length) Slot.unset).toArray = ls at hl ⊢
  have hl : lv_has ls 2 [(0, .ref mh), (1, .int p1)] := hl
  refine lv_iload_n hx hb dX4_count_0 rfl (lv_at hl 1 rfl) ?_
  by_cases s_1_0 : p1 = 0
  · refine lv_tableIn (off := 35) (tgt := 36) hx hb dX4_count_1 (by rw [s_1_0]; decide) (by rw [s_1_0]; decide) (by rw [s_1_0]; decide) (by decide) ?_
    refine lv_aload_n hx hb dX4_count_36 rfl (lv_at hl 0 rfl) ?_
    refine va_get (D := D) (ci := 4) (v := .int m_pieces) (C := RX4) (T := TX4) (N := 33) hx hb hts inX4 hown hK hP 0 rfl rfl 4 (by decide) (hts (Cond.fieldLink "NestedTagsModel" 66 "NestedTagsModel" "pieces" "I") kk_2_216) (fun _ h9 => h9) rfl dX4_count_37 ?_
    have hP9 := hP.sub (ws' := [(mh, .inr (4, [.ref m_te, .int m_size, .ref m_re, .int m_len, .int m_pieces, .ref m_kn, .ref m_bg, .ref m_en, .ref m_dp, .int m_open, .ref m_nm, .ref m_sz, .int m_attrs, .ref m_aa, .ref m_asz, .int m_elements, .int m_most, .int m_values, .int m_place, .int m_phase, .int m_state, .int m_at, .int m_begin, .int m_name, .int m_refr, .int m_tag, .int m_tagsz, .int m_quote, .int m_chars, .int m_brackets, .int m_matched, .long m_number, .int m_fault]))]) [0] rfl
    have hD9 := hD.sub (ws' := [(mh, .inr (4, [.ref m_te, .int m_size, .ref m_re, .int m_len, .int m_pieces, .ref m_kn, .ref m_bg, .ref m_en, .ref m_dp, .int m_open, .ref m_nm, .ref m_sz, .int m_attrs, .ref m_aa, .ref m_asz, .int m_elements, .int m_most, .int m_values, .int m_place, .int m_phase, .int m_state, .int m_at, .int m_begin, .int m_name, .int m_refr, .int m_tag, .int m_tagsz, .int m_quote, .int m_chars, .int m_brackets, .int m_matched, .long m_number, .int m_fault]))]) [0] (by decide) rfl
    exact W.iret (v := m_pieces) hx hb hr (fun t ht hW => ⟨⟨m_pieces, (), rfl, by rw [if_pos s_1_0], by rw [ht]; exact hP9, va_K.moved hW.alike hK, hD9⟩, hS.F ht⟩) hS.2.2 dX4_count_40
  by_cases s_1_1 : p1 = 1
  · refine lv_tableIn (off := 40) (tgt := 41) hx hb dX4_count_1 (by rw [s_1_1]; decide) (by rw [s_1_1]; decide) (by rw [s_1_1]; decide) (by decide) ?_
    refine lv_aload_n hx hb dX4_count_41 rfl (lv_at hl 0 rfl) ?_
    refine va_get (D := D) (ci := 4) (v := .int m_elements) (C := RX4) (T := TX4) (N := 33) hx hb hts inX4 hown hK hP 0 rfl rfl 15 (by decide) (hts (Cond.fieldLink "NestedTagsModel" 118 "NestedTagsModel" "elements" "I") kk_2_227) (fun _ h9 => h9) rfl dX4_count_42 ?_
    have hP9 := hP.sub (ws' := [(mh, .inr (4, [.ref m_te, .int m_size, .ref m_re, .int m_len, .int m_pieces, .ref m_kn, .ref m_bg, .ref m_en, .ref m_dp, .int m_open, .ref m_nm, .ref m_sz, .int m_attrs, .ref m_aa, .ref m_asz, .int m_elements, .int m_most, .int m_values, .int m_place, .int m_phase, .int m_state, .int m_at, .int m_begin, .int m_name, .int m_refr, .int m_tag, .int m_tagsz, .int m_quote, .int m_chars, .int m_brackets, .int m_matched, .long m_number, .int m_fault]))]) [0] rfl
    have hD9 := hD.sub (ws' := [(mh, .inr (4, [.ref m_te, .int m_size, .ref m_re, .int m_len, .int m_pieces, .ref m_kn, .ref m_bg, .ref m_en, .ref m_dp, .int m_open, .ref m_nm, .ref m_sz, .int m_attrs, .ref m_aa, .ref m_asz, .int m_elements, .int m_most, .int m_values, .int m_place, .int m_phase, .int m_state, .int m_at, .int m_begin, .int m_name, .int m_refr, .int m_tag, .int m_tagsz, .int m_quote, .int m_chars, .int m_brackets, .int m_matched, .long m_number, .int m_fault]))]) [0] (by decide) rfl
    exact W.iret (v := m_elements) hx hb hr (fun t ht hW => ⟨⟨m_elements, (), rfl, by rw [if_neg s_1_0, if_pos s_1_1], by rw [ht]; exact hP9, va_K.moved hW.alike hK, hD9⟩, hS.F ht⟩) hS.2.2 dX4_count_45
  by_cases s_1_2 : p1 = 2
  · refine lv_tableIn (off := 45) (tgt := 46) hx hb dX4_count_1 (by rw [s_1_2]; decide) (by rw [s_1_2]; decide) (by rw [s_1_2]; decide) (by decide) ?_
    refine lv_aload_n hx hb dX4_count_46 rfl (lv_at hl 0 rfl) ?_
    refine va_get (D := D) (ci := 4) (v := .int m_most) (C := RX4) (T := TX4) (N := 33) hx hb hts inX4 hown hK hP 0 rfl rfl 16 (by decide) (hts (Cond.fieldLink "NestedTagsModel" 102 "NestedTagsModel" "most" "I") kk_2_228) (fun _ h9 => h9) rfl dX4_count_47 ?_
    have hP9 := hP.sub (ws' := [(mh, .inr (4, [.ref m_te, .int m_size, .ref m_re, .int m_len, .int m_pieces, .ref m_kn, .ref m_bg, .ref m_en, .ref m_dp, .int m_open, .ref m_nm, .ref m_sz, .int m_attrs, .ref m_aa, .ref m_asz, .int m_elements, .int m_most, .int m_values, .int m_place, .int m_phase, .int m_state, .int m_at, .int m_begin, .int m_name, .int m_refr, .int m_tag, .int m_tagsz, .int m_quote, .int m_chars, .int m_brackets, .int m_matched, .long m_number, .int m_fault]))]) [0] rfl
    have hD9 := hD.sub (ws' := [(mh, .inr (4, [.ref m_te, .int m_size, .ref m_re, .int m_len, .int m_pieces, .ref m_kn, .ref m_bg, .ref m_en, .ref m_dp, .int m_open, .ref m_nm, .ref m_sz, .int m_attrs, .ref m_aa, .ref m_asz, .int m_elements, .int m_most, .int m_values, .int m_place, .int m_phase, .int m_state, .int m_at, .int m_begin, .int m_name, .int m_refr, .int m_tag, .int m_tagsz, .int m_quote, .int m_chars, .int m_brackets, .int m_matched, .long m_number, .int m_fault]))]) [0] (by decide) rfl
    exact W.iret (v := m_most) hx hb hr (fun t ht hW => ⟨⟨m_most, (), rfl, by rw [if_neg s_1_0, if_neg s_1_1, if_pos s_1_2], by rw [ht]; exact hP9, va_K.moved hW.alike hK, hD9⟩, hS.F ht⟩) hS.2.2 dX4_count_50
  by_cases s_1_3 : p1 = 3
  · refine lv_tableIn (off := 50) (tgt := 51) hx hb dX4_count_1 (by rw [s_1_3]; decide) (by rw [s_1_3]; decide) (by rw [s_1_3]; decide) (by decide) ?_
    refine lv_aload_n hx hb dX4_count_51 rfl (lv_at hl 0 rfl) ?_
    refine va_get (D := D) (ci := 4) (v := .int m_size) (C := RX4) (T := TX4) (N := 33) hx hb hts inX4 hown hK hP 0 rfl rfl 1 (by decide) (hts (Cond.fieldLink "NestedTagsModel" 44 "NestedTagsModel" "size" "I") kk_2_213) (fun _ h9 => h9) rfl dX4_count_52 ?_
    have hP9 := hP.sub (ws' := [(mh, .inr (4, [.ref m_te, .int m_size, .ref m_re, .int m_len, .int m_pieces, .ref m_kn, .ref m_bg, .ref m_en, .ref m_dp, .int m_open, .ref m_nm, .ref m_sz, .int m_attrs, .ref m_aa, .ref m_asz, .int m_elements, .int m_most, .int m_values, .int m_place, .int m_phase, .int m_state, .int m_at, .int m_begin, .int m_name, .int m_refr, .int m_tag, .int m_tagsz, .int m_quote, .int m_chars, .int m_brackets, .int m_matched, .long m_number, .int m_fault]))]) [0] rfl
    have hD9 := hD.sub (ws' := [(mh, .inr (4, [.ref m_te, .int m_size, .ref m_re, .int m_len, .int m_pieces, .ref m_kn, .ref m_bg, .ref m_en, .ref m_dp, .int m_open, .ref m_nm, .ref m_sz, .int m_attrs, .ref m_aa, .ref m_asz, .int m_elements, .int m_most, .int m_values, .int m_place, .int m_phase, .int m_state, .int m_at, .int m_begin, .int m_name, .int m_refr, .int m_tag, .int m_tagsz, .int m_quote, .int m_chars, .int m_brackets, .int m_matched, .long m_number, .int m_fault]))]) [0] (by decide) rfl
    exact W.iret (v := m_size) hx hb hr (fun t ht hW => ⟨⟨m_size, (), rfl, by rw [if_neg s_1_0, if_neg s_1_1, if_neg s_1_2, if_pos s_1_3], by rw [ht]; exact hP9, va_K.moved hW.alike hK, hD9⟩, hS.F ht⟩) hS.2.2 dX4_count_55
  by_cases s_1_4 : p1 = 4
  · refine lv_tableIn (off := 55) (tgt := 56) hx hb dX4_count_1 (by rw [s_1_4]; decide) (by rw [s_1_4]; decide) (by rw [s_1_4]; decide) (by decide) ?_
    refine lv_aload_n hx hb dX4_count_56 rfl (lv_at hl 0 rfl) ?_
    refine va_get (D := D) (ci := 4) (v := .int m_values) (C := RX4) (T := TX4) (N := 33) hx hb hts inX4 hown hK hP 0 rfl rfl 17 (by decide) (hts (Cond.fieldLink "NestedTagsModel" 133 "NestedTagsModel" "values" "I") kk_2_229) (fun _ h9 => h9) rfl dX4_count_57 ?_
    have hP9 := hP.sub (ws' := [(mh, .inr (4, [.ref m_te, .int m_size, .ref m_re, .int m_len, .int m_pieces, .ref m_kn, .ref m_bg, .ref m_en, .ref m_dp, .int m_open, .ref m_nm, .ref m_sz, .int m_attrs, .ref m_aa, .ref m_asz, .int m_elements, .int m_most, .int m_values, .int m_place, .int m_phase, .int m_state, .int m_at, .int m_begin, .int m_name, .int m_refr, .int m_tag, .int m_tagsz, .int m_quote, .int m_chars, .int m_brackets, .int m_matched, .long m_number, .int m_fault]))]) [0] rfl
    have hD9 := hD.sub (ws' := [(mh, .inr (4, [.ref m_te, .int m_size, .ref m_re, .int m_len, .int m_pieces, .ref m_kn, .ref m_bg, .ref m_en, .ref m_dp, .int m_open, .ref m_nm, .ref m_sz, .int m_attrs, .ref m_aa, .ref m_asz, .int m_elements, .int m_most, .int m_values, .int m_place, .int m_phase, .int m_state, .int m_at, .int m_begin, .int m_name, .int m_refr, .int m_tag, .int m_tagsz, .int m_quote, .int m_chars, .int m_brackets, .int m_matched, .long m_number, .int m_fault]))]) [0] (by decide) rfl
    exact W.iret (v := m_values) hx hb hr (fun t ht hW => ⟨⟨m_values, (), rfl, by rw [if_neg s_1_0, if_neg s_1_1, if_neg s_1_2, if_neg s_1_3, if_pos s_1_4], by rw [ht]; exact hP9, va_K.moved hW.alike hK, hD9⟩, hS.F ht⟩) hS.2.2 dX4_count_60
  refine lv_tableOut (tgt := 61) hx hb dX4_count_1 (by have := lv_neT s_1_0 (a := 0) rfl; have := lv_neT s_1_1 (a := 1) rfl; have := lv_neT s_1_2 (a := 2) rfl; have := lv_neT s_1_3 (a := 3) rfl; have := lv_neT s_1_4 (a := 4) rfl; omega) (by decide) ?_
  refine lv_iconst (v := (-1)) hx hb dX4_count_61 (by decide) ?_
  have hP9 := hP.sub (ws' := [(mh, .inr (4, [.ref m_te, .int m_size, .ref m_re, .int m_len, .int m_pieces, .ref m_kn, .ref m_bg, .ref m_en, .ref m_dp, .int m_open, .ref m_nm, .ref m_sz, .int m_attrs, .ref m_aa, .ref m_asz, .int m_elements, .int m_most, .int m_values, .int m_place, .int m_phase, .int m_state, .int m_at, .int m_begin, .int m_name, .int m_refr, .int m_tag, .int m_tagsz, .int m_quote, .int m_chars, .int m_brackets, .int m_matched, .long m_number, .int m_fault]))]) [0] rfl
  have hD9 := hD.sub (ws' := [(mh, .inr (4, [.ref m_te, .int m_size, .ref m_re, .int m_len, .int m_pieces, .ref m_kn, .ref m_bg, .ref m_en, .ref m_dp, .int m_open, .ref m_nm, .ref m_sz, .int m_attrs, .ref m_aa, .ref m_asz, .int m_elements, .int m_most, .int m_values, .int m_place, .int m_phase, .int m_state, .int m_at, .int m_begin, .int m_name, .int m_refr, .int m_tag, .int m_tagsz, .int m_quote, .int m_chars, .int m_brackets, .int m_matched, .long m_number, .int m_fault]))]) [0] (by decide) rfl
  exact W.iret (v := (-1)) hx hb hr (fun t ht hW => ⟨⟨(-1), (), rfl, by rw [if_neg s_1_0, if_neg s_1_1, if_neg s_1_2, if_neg s_1_3, if_neg s_1_4], by rw [ht]; exact hP9, va_K.moved hW.alike hK, hD9⟩, hS.F ht⟩) hS.2.2 dX4_count_62

set_option maxHeartbeats 4000000 in
set_option maxRecDepth 100000 in
/-- put, accepted (what it writes is left open) -/
theorem c_X4_put_yes (l : Launch) (D : va_G) (cI : ClassId) (mh : Nat) (m_te : Nat) (m_re : Nat) (m_len : Int32) (m_pieces : Int32) (m_kn : Nat) (m_bg : Nat) (m_en : Nat) (m_dp : Nat) (m_open : Int32) (m_nm : Nat) (m_sz : Nat) (m_attrs : Int32) (m_aa : Nat) (m_asz : Nat) (m_elements : Int32) (m_most : Int32) (m_values : Int32) (m_place : Int32) (m_phase : Int32) (m_state : Int32) (m_at : Int32) (m_begin : Int32) (m_name : Int32) (m_refr : Int32) (m_tag : Int32) (m_tagsz : Int32) (m_quote : Int32) (m_chars : Int32) (m_brackets : Int32) (m_matched : Int32) (m_number : Int64) (m_fault : Int32) (k0 : Nat) (f0 : Nat → Int32) (j0 : Nat) (sz : Nat) (p1 : Int64) (p2 : Int32) (ep2 : p2 = nI (j0 + 1)) (hj : j0 < 8) (hk0 : k0 + j0 + 1 ≤ 500) : Met l yX4_put (.code yX4_put cX4_put 5 (some .boolean) :: tbW) ({ frames := 0, cells := 0, slots := 0, locals := 0 }) (va_Pc [.ref mh, .long p1, .int p2] (gP D cI [(mh, .inr (4, [.ref m_te, .int (nI k0), .ref m_re, .int m_len, .int m_pieces, .ref m_kn, .ref m_bg, .ref m_en, .ref m_dp, .int m_open, .ref m_nm, .ref m_sz, .int m_attrs, .ref m_aa, .ref m_asz, .int m_elements, .int m_most, .int m_values, .int m_place, .int m_phase, .int m_state, .int m_at, .int m_begin, .int m_name, .int m_refr, .int m_tag, .int m_tagsz, .int m_quote, .int m_chars, .int m_brackets, .int m_matched, .long m_number, .int m_fault])), (m_te, .inl (cI, 500, .inl f0))] sz)) (va_Qi (fun (r : Int32) (u : Int32 × (Nat → Int32)) => r = 1 ∧ u.1 = nI (k0 + j0 + 1)) (fun u => gB D cI (va_A [(mh, .inr (4, [.ref m_te, .int (nI k0), .ref m_re, .int m_len, .int m_pieces, .ref m_kn, .ref m_bg, .ref m_en, .ref m_dp, .int m_open, .ref m_nm, .ref m_sz, .int m_attrs, .ref m_aa, .ref m_asz, .int m_elements, .int m_most, .int m_values, .int m_place, .int m_phase, .int m_state, .int m_at, .int m_begin, .int m_name, .int m_refr, .int m_tag, .int m_tagsz, .int m_quote, .int m_chars, .int m_brackets, .int m_matched, .long m_number, .int m_fault])), (m_te, .inl (cI, 500, .inl f0))] sz) [(mh, .inr (4, [.ref m_te, .int u.1, .ref m_re, .int m_len, .int m_pieces, .ref m_kn, .ref m_bg, .ref m_en, .ref m_dp, .int m_open, .ref m_nm, .ref m_sz, .int m_attrs, .ref m_aa, .ref m_asz, .int m_elements, .int m_most, .int m_values, .int m_place, .int m_phase, .int m_state, .int m_at, .int m_begin, .int m_name, .int m_refr, .int m_tag, .int m_tagsz, .int m_quote, .int m_chars, .int m_brackets, .int m_matched, .long m_number, .int m_fault])), (m_te, .inl (cI, 500, .inl u.2))]) (va_A [(mh, .inr (4, [.ref m_te, .int (nI k0), .ref m_re, .int m_len, .int m_pieces, .ref m_kn, .ref m_bg, .ref m_en, .ref m_dp, .int m_open, .ref m_nm, .ref m_sz, .int m_attrs, .ref m_aa, .ref m_asz, .int m_elements, .int m_most, .int m_values, .int m_place, .int m_phase, .int m_state, .int m_at, .int m_begin, .int m_name, .int m_refr, .int m_tag, .int m_tagsz, .int m_quote, .int m_chars, .int m_brackets, .int m_matched, .long m_number, .int m_fault])), (m_te, .inl (cI, 500, .inl f0))] sz)) 0 0 (va_A [(mh, .inr (4, [.ref m_te, .int (nI k0), .ref m_re, .int m_len, .int m_pieces, .ref m_kn, .ref m_bg, .ref m_en, .ref m_dp, .int m_open, .ref m_nm, .ref m_sz, .int m_attrs, .ref m_aa, .ref m_asz, .int m_elements, .int m_most, .int m_values, .int m_place, .int m_phase, .int m_state, .int m_at, .int m_begin, .int m_name, .int m_refr, .int m_tag, .int m_tagsz, .int m_quote, .int m_chars, .int m_brackets, .int m_matched, .long m_number, .int m_fault])), (m_te, .inl (cI, 500, .inl f0))] sz) := by
  refine Met.ofW (cc := cX4_put) (maxL := 5) (ret := (some .boolean)) (by decide) rfl ?_
  intro p e s m args below meth c s₁ B hml hv
  obtain ⟨rfl, hsz, hP, hK, hD0, hN⟩ := hv
  have hx := B.exec
  have hb := B.bytes
  have hr := B.returns
  have hts := tb_hts (atoms_spec (ws := .code yX4_put cX4_put 5 (some .boolean) :: tbW) B.pre)
  have hown : s.vm.findClass RX4 = some m.cls := findClass_of_methodNamed B.named
  have hlocks := B.notSynchronized
  subst hsz
  have hD := hD0.self (sz := s.heap.size)
  generalize hAe : va_A [(mh, .inr (4, [.ref m_te, .int (nI k0), .ref m_re, .int m_len, .int m_pieces, .ref m_kn, .ref m_bg, .ref m_en, .ref m_dp, .int m_open, .ref m_nm, .ref m_sz, .int m_attrs, .ref m_aa, .ref m_asz, .int m_elements, .int m_most, .int m_values, .int m_place, .int m_phase, .int m_state, .int m_at, .int m_begin, .int m_name, .int m_refr, .int m_tag, .int m_tagsz, .int m_quote, .int m_chars, .int m_brackets, .int m_matched, .long m_number, .int m_fault])), (m_te, .inl (cI, 500, .inl f0))] s.heap.size = A at hD ⊢
  have hA : ∀ q : Nat, s.heap.size ≤ q → A q := fun q h => by rw [← hAe]; exact Or.inr h
  have hS : va_S A s.heap s.heap [] := va_S.rf
  have hP : va_P D classes [(mh, .inr (4, [.ref m_te, .int (nI k0), .ref m_re, .int m_len, .int m_pieces, .ref m_kn, .ref m_bg, .ref m_en, .ref m_dp, .int m_open, .ref m_nm, .ref m_sz, .int m_attrs, .ref m_aa, .ref m_asz, .int m_elements, .int m_most, .int m_values, .int m_place, .int m_phase, .int m_state, .int m_at, .int m_begin, .int m_name, .int m_refr, .int m_tag, .int m_tagsz, .int m_quote, .int m_chars, .int m_brackets, .int m_matched, .long m_number, .int m_fault])), (m_te, .inl (cI, 500, .inl f0))] s.heap := hP
  have hl := lv_entry ([.ref mh, .long p1, .int p2]) (n := 5) (Nat.le_of_ble_eq_true rfl)
  rw [lg_entry_eq]
  generalize (lg_sl ([.ref mh, .long p1, .int p2]) ++ List.replicate (5 - (lg_sl ([.ref mh, .long p1, .int p2])).length) Slot.unset).toArray = ls at hl ⊢
  have hl : lv_has ls 5 [(0, .ref mh), (1, .long p1), (3, .int p2)] := hl
  generalize hQ : MQ below (va_Qi (fun (r : Int32) (u : Int32 × (Nat → Int32)) => r = 1 ∧ u.1 = nI (k0 + j0 + 1)) (fun u => gB D cI A [(mh, .inr (4, [.ref m_te, .int u.1, .ref m_re, .int m_len, .int m_pieces, .ref m_kn, .ref m_bg, .ref m_en, .ref m_dp, .int m_open, .ref m_nm, .ref m_sz, .int m_attrs, .ref m_aa, .ref m_asz, .int m_elements, .int m_most, .int m_values, .int m_place, .int m_phase, .int m_state, .int m_at, .int m_begin, .int m_name, .int m_refr, .int m_tag, .int m_tagsz, .int m_quote, .int m_chars, .int m_brackets, .int m_matched, .long m_number, .int m_fault])), (m_te, .inl (cI, 500, .inl u.2))]) A) (([.ref mh, .long p1, .int p2] : List Value).toArray) s 0 0 A = Q
  refine lv_iload_n hx hb dX4_put_0 rfl (lv_at hl 2 rfl) ?_
  refine lv_iconst (v := 1) hx hb dX4_put_1 (by decide) ?_
  refine lv_icmp_lt (tgt := 23) hx hb dX4_put_2 (by decide) (fun c_2 => ?_) (fun c_2 => ?_)
  · skip
    exact absurd c_2 (by rw [ep2]; exact nI_nlt (a := j0 + 1) (b := 1) (by omega) (by omega))
  · skip
    refine lv_iload_n hx hb dX4_put_5 rfl (lv_at hl 2 rfl) ?_
    refine lv_bipush (v := 8) hx hb dX4_put_6 (by decide) ?_
    refine lv_icmp_gt (tgt := 23) hx hb dX4_put_8 (by decide) (fun c_8 => ?_) (fun c_8 => ?_)
    · skip
      exact absurd c_8 (by rw [ep2]; exact nI_nlt (a := 8) (b := j0 + 1) (by omega) (by omega))
    · skip
      refine lv_aload_n hx hb dX4_put_11 rfl (lv_at hl 0 rfl) ?_
      refine va_get (D := D) (ci := 4) (v := .int (nI k0)) (C := RX4) (T := TX4) (N := 33) hx hb hts inX4 hown hK hP 0 rfl rfl 1 (by decide) (hts (Cond.fieldLink "NestedTagsModel" 44 "NestedTagsModel" "size" "I") kk_2_213) (fun _ h9 => h9) rfl dX4_put_12 ?_
      refine lv_iload_n hx hb dX4_put_15 rfl (lv_at hl 2 rfl) ?_
      refine lv_iadd hx hb dX4_put_16 ?_
      refine lv_topi (fun x_1 ex_1 => ?_)
      refine lv_sipush (v := 500) hx hb dX4_put_17 (by decide) ?_
      refine lv_icmp_le (tgt := 25) hx hb dX4_put_20 (by decide) (fun c_20 => ?_) (fun c_20 => ?_)
      · skip
        refine lv_iconst (v := 0) hx hb dX4_put_25 (by decide) ?_
        refine lv_istore (lv' := [(4, .int 0), (0, .ref mh), (1, .long p1), (3, .int p2)]) hx hb dX4_put_26 hl (by decide) rfl (fun ls hl => ?_)
        have loop : ∀ (n i : Nat) (x4 : Int32) (f : Nat → Int32) (H : Heap) (locs : List Loc), i + n = j0 + 1 → x4 = nI i → va_P D classes [(mh, .inr (4, [.ref m_te, .int (nI k0), .ref m_re, .int m_len, .int m_pieces, .ref m_kn, .ref m_bg, .ref m_en, .ref m_dp, .int m_open, .ref m_nm, .ref m_sz, .int m_attrs, .ref m_aa, .ref m_asz, .int m_elements, .int m_most, .int m_values, .int m_place, .int m_phase, .int m_state, .int m_at, .int m_begin, .int m_name, .int m_refr, .int m_tag, .int m_tagsz, .int m_quote, .int m_chars, .int m_brackets, .int m_matched, .long m_number, .int m_fault])), (m_te, .inl (cI, 500, .inl f))] H → va_D A [(mh, .inr (4, [.ref m_te, .int (nI k0), .ref m_re, .int m_len, .int m_pieces, .ref m_kn, .ref m_bg, .ref m_en, .ref m_dp, .int m_open, .ref m_nm, .ref m_sz, .int m_attrs, .ref m_aa, .ref m_asz, .int m_elements, .int m_most, .int m_values, .int m_place, .int m_phase, .int m_state, .int m_at, .int m_begin, .int m_name, .int m_refr, .int m_tag, .int m_tagsz, .int m_quote, .int m_chars, .int m_brackets, .int m_matched, .long m_number, .int m_fault])), (m_te, .inl (cI, 500, .inl f))] → va_S A s.heap H locs → ∀ (ls : Array Slot), lv_has ls 5 [(4, .int x4), (0, .ref mh), (1, .long p1), (3, .int p2)] → W p l e (headSpec (.code yX4_put cX4_put 5 (some .boolean) :: tbW) { frames := 0, cells := 0, slots := 0, locals := 0 }).room s m (([.ref mh, .long p1, .int p2] : List Value).toArray) below meth c H locs 0 0 Q (F0 m 28 ls []) := by
          intro n
          induction n with
          | zero =>
            intro i x4 f H locs hi ex4 hP hD hS ls hl
            refine lv_iload hx hb dX4_put_28 (lv_at hl 0 rfl) ?_
            refine lv_iload_n hx hb dX4_put_30 rfl (lv_at hl 3 rfl) ?_
            refine lv_icmp_ge (tgt := 68) hx hb dX4_put_31 (by decide) (fun c_31 => ?_) (fun c_31 => ?_)
            · skip
              refine lv_aload_n hx hb dX4_put_68 rfl (lv_at hl 1 rfl) ?_
              refine lv_aload_n hx hb dX4_put_69 rfl (lv_at hl 1 rfl) ?_
              refine va_get (D := D) (ci := 4) (v := .int (nI k0)) (C := RX4) (T := TX4) (N := 33) hx hb hts inX4 hown hK hP 0 rfl rfl 1 (by decide) (hts (Cond.fieldLink "NestedTagsModel" 44 "NestedTagsModel" "size" "I") kk_2_213) (fun _ h9 => h9) rfl dX4_put_70 ?_
              refine lv_iload_n hx hb dX4_put_73 rfl (lv_at hl 3 rfl) ?_
              refine lv_iadd hx hb dX4_put_74 ?_
              refine lv_topi (fun x_2 ex_2 => ?_)
              refine va_put (D := D) (ci := 4) (v := .int x_2) (ty := .int) (C := RX4) (T := TX4) (N := 33) hx hb hts inX4 tyX4 tyX4_ok nmX4 hown hK hP hD hS 0 rfl rfl 1 (by decide) (hts (Cond.fieldLink "NestedTagsModel" 44 "NestedTagsModel" "size" "I") kk_2_213) (fun _ h9 => h9) rfl (by decide +kernel) rfl rfl (Nat.le_of_ble_eq_true rfl) dX4_put_75 (fun H locs hP hD hS => ?_)
              have hP : va_P D classes [(mh, .inr (4, [.ref m_te, .int x_2, .ref m_re, .int m_len, .int m_pieces, .ref m_kn, .ref m_bg, .ref m_en, .ref m_dp, .int m_open, .ref m_nm, .ref m_sz, .int m_attrs, .ref m_aa, .ref m_asz, .int m_elements, .int m_most, .int m_values, .int m_place, .int m_phase, .int m_state, .int m_at, .int m_begin, .int m_name, .int m_refr, .int m_tag, .int m_tagsz, .int m_quote, .int m_chars, .int m_brackets, .int m_matched, .long m_number, .int m_fault])), (m_te, .inl (cI, 500, .inl f))] H := hP
              have hD : va_D A [(mh, .inr (4, [.ref m_te, .int x_2, .ref m_re, .int m_len, .int m_pieces, .ref m_kn, .ref m_bg, .ref m_en, .ref m_dp, .int m_open, .ref m_nm, .ref m_sz, .int m_attrs, .ref m_aa, .ref m_asz, .int m_elements, .int m_most, .int m_values, .int m_place, .int m_phase, .int m_state, .int m_at, .int m_begin, .int m_name, .int m_refr, .int m_tag, .int m_tagsz, .int m_quote, .int m_chars, .int m_brackets, .int m_matched, .long m_number, .int m_fault])), (m_te, .inl (cI, 500, .inl f))] := hD
              refine lv_iconst (v := 1) hx hb dX4_put_78 (by decide) ?_
              have hP9 := hP.sub (ws' := [(mh, .inr (4, [.ref m_te, .int x_2, .ref m_re, .int m_len, .int m_pieces, .ref m_kn, .ref m_bg, .ref m_en, .ref m_dp, .int m_open, .ref m_nm, .ref m_sz, .int m_attrs, .ref m_aa, .ref m_asz, .int m_elements, .int m_most, .int m_values, .int m_place, .int m_phase, .int m_state, .int m_at, .int m_begin, .int m_name, .int m_refr, .int m_tag, .int m_tagsz, .int m_quote, .int m_chars, .int m_brackets, .int m_matched, .long m_number, .int m_fault])), (m_te, .inl (cI, 500, .inl f))]) [0, 1] rfl
              have hD9 := hD.sub (ws' := [(mh, .inr (4, [.ref m_te, .int x_2, .ref m_re, .int m_len, .int m_pieces, .ref m_kn, .ref m_bg, .ref m_en, .ref m_dp, .int m_open, .ref m_nm, .ref m_sz, .int m_attrs, .ref m_aa, .ref m_asz, .int m_elements, .int m_most, .int m_values, .int m_place, .int m_phase, .int m_state, .int m_at, .int m_begin, .int m_name, .int m_refr, .int m_tag, .int m_tagsz, .int m_quote, .int m_chars, .int m_brackets, .int m_matched, .long m_number, .int m_fault])), (m_te, .inl (cI, 500, .inl f))]) [0, 1] (by decide) rfl
              rw [← hQ]
              exact W.zret (v := 1) (ty := .boolean) hx hb hr rfl (fun t ht hW => ⟨⟨1, (x_2, f), rfl, ⟨rfl, by rw [show x_2 = nI k0 + p2 from ex_2, ep2, nI_add]; rfl⟩, by rw [ht]; exact hP9, va_K.moved hW.alike hK, hD9⟩, hS.F ht⟩) hS.2.2 dX4_put_79
            · skip
              exact absurd (show p2 ≤ x4 by rw [ex4, ep2, show i = j0 + 1 by omega]; exact Int32.le_refl _) c_31
          | succ n ih =>
            intro i x4 f H locs hi ex4 hP hD hS ls hl
            refine lv_iload hx hb dX4_put_28 (lv_at hl 0 rfl) ?_
            refine lv_iload_n hx hb dX4_put_30 rfl (lv_at hl 3 rfl) ?_
            refine lv_icmp_ge (tgt := 68) hx hb dX4_put_31 (by decide) (fun c_31 => ?_) (fun c_31 => ?_)
            · skip
              exact absurd c_31 (by rw [ex4, ep2]; exact nI_ge (by omega) (by omega))
            · skip
              refine lv_aload_n hx hb dX4_put_34 rfl (lv_at hl 1 rfl) ?_
              refine va_get (D := D) (ci := 4) (v := .ref m_te) (C := RX4) (T := TX4) (N := 33) hx hb hts inX4 hown hK hP 0 rfl rfl 0 (by decide) (hts (Cond.fieldLink "NestedTagsModel" 7 "NestedTagsModel" "text" "[I") kk_2_212) (fun _ h9 => h9) rfl dX4_put_35 ?_
              refine lv_aload_n hx hb dX4_put_38 rfl (lv_at hl 1 rfl) ?_
              refine va_get (D := D) (ci := 4) (v := .int (nI k0)) (C := RX4) (T := TX4) (N := 33) hx hb hts inX4 hown hK hP 0 rfl rfl 1 (by decide) (hts (Cond.fieldLink "NestedTagsModel" 44 "NestedTagsModel" "size" "I") kk_2_213) (fun _ h9 => h9) rfl dX4_put_39 ?_
              refine lv_iload hx hb dX4_put_42 (lv_at hl 0 rfl) ?_
              refine lv_iadd hx hb dX4_put_44 ?_
              refine lv_topi (fun x_3 ex_3 => ?_)
              refine lv_lload_n hx hb dX4_put_45 rfl (lv_at hl 2 rfl) ?_
              refine lv_bipush (v := 8) hx hb dX4_put_46 (by decide) ?_
              refine lv_iload_n hx hb dX4_put_48 rfl (lv_at hl 3 rfl) ?_
              refine lv_iconst (v := 1) hx hb dX4_put_49 (by decide) ?_
              refine lv_isub hx hb dX4_put_50 ?_
              refine lv_topi (fun x_4 ex_4 => ?_)
              refine lv_iload hx hb dX4_put_51 (lv_at hl 0 rfl) ?_
              refine lv_isub hx hb dX4_put_53 ?_
              refine lv_topi (fun x_5 ex_5 => ?_)
              refine lv_imul hx hb dX4_put_54 ?_
              refine lv_topi (fun x_6 ex_6 => ?_)
              refine lv_lshr hx hb dX4_put_55 rfl ?_
              refine lv_topl (fun y_7 ey_7 => ?_)
              refine lv_ldc2 hx hb hown (hts (Cond.constantLong "NestedTagsModel" 47 255) kk_3_76) dX4_put_56 ?_
              refine lv_land hx hb dX4_put_59 ?_
              refine lv_topl (fun y_8 ey_8 => ?_)
              refine lv_l2i hx hb dX4_put_60 rfl ?_
              refine lv_topi (fun x_9 ex_9 => ?_)
              refine va_iast hx hb hK hP hD hS 1 0 rfl rfl (by rw [ex_3, ex4, nI_add]; exact vp_in_nI (by omega) (by decide)) dX4_put_61 (fun H locs hP hD hS => ?_)
              have hP : va_P D classes [(mh, .inr (4, [.ref m_te, .int (nI k0), .ref m_re, .int m_len, .int m_pieces, .ref m_kn, .ref m_bg, .ref m_en, .ref m_dp, .int m_open, .ref m_nm, .ref m_sz, .int m_attrs, .ref m_aa, .ref m_asz, .int m_elements, .int m_most, .int m_values, .int m_place, .int m_phase, .int m_state, .int m_at, .int m_begin, .int m_name, .int m_refr, .int m_tag, .int m_tagsz, .int m_quote, .int m_chars, .int m_brackets, .int m_matched, .long m_number, .int m_fault])), (m_te, .inl (cI, 500, .inl (upd f x_3.toNatClampNeg x_9)))] H := hP
              have hD : va_D A [(mh, .inr (4, [.ref m_te, .int (nI k0), .ref m_re, .int m_len, .int m_pieces, .ref m_kn, .ref m_bg, .ref m_en, .ref m_dp, .int m_open, .ref m_nm, .ref m_sz, .int m_attrs, .ref m_aa, .ref m_asz, .int m_elements, .int m_most, .int m_values, .int m_place, .int m_phase, .int m_state, .int m_at, .int m_begin, .int m_name, .int m_refr, .int m_tag, .int m_tagsz, .int m_quote, .int m_chars, .int m_brackets, .int m_matched, .long m_number, .int m_fault])), (m_te, .inl (cI, 500, .inl (upd f x_3.toNatClampNeg x_9)))] := hD
              obtain ⟨f_10, ef_10⟩ : ∃ z, z = (upd f x_3.toNatClampNeg x_9) := ⟨_, rfl⟩
              rw [← ef_10] at hP hD
              obtain ⟨x_11, ex_11⟩ : ∃ y : Int32, y = x4 + 1 := ⟨_, rfl⟩
              refine lv_iinc (v := x_11) (lv' := [(4, .int x_11), (0, .ref mh), (1, .long p1), (3, .int p2)]) hx hb dX4_put_62 hl (k := 0) rfl (by rw [ex_11]; rfl) (by decide) rfl (fun ls hl => ?_)
              refine lv_goto (tgt := 28) hx hb dX4_put_65 (by decide) ?_
              exact ih (i + 1) x_11 f_10 _ _ (by omega) (by rw [ex_11, ex4]; exact nI_1 i) hP hD hS ls hl
        exact loop (j0 + 1) 0 0 f0 _ _ (by omega) rfl hP hD hS ls hl
      · skip
        exact absurd (put_m20 ep2 hj hk0 ex_1) c_20

set_option maxHeartbeats 4000000 in
set_option maxRecDepth 100000 in
/-- put, refused: nothing changes -/
theorem c_X4_put_no (l : Launch) (D : va_G) (cI : ClassId) (mh : Nat) (m_te : Nat) (m_re : Nat) (m_len : Int32) (m_pieces : Int32) (m_kn : Nat) (m_bg : Nat) (m_en : Nat) (m_dp : Nat) (m_open : Int32) (m_nm : Nat) (m_sz : Nat) (m_attrs : Int32) (m_aa : Nat) (m_asz : Nat) (m_elements : Int32) (m_most : Int32) (m_values : Int32) (m_place : Int32) (m_phase : Int32) (m_state : Int32) (m_at : Int32) (m_begin : Int32) (m_name : Int32) (m_refr : Int32) (m_tag : Int32) (m_tagsz : Int32) (m_quote : Int32) (m_chars : Int32) (m_brackets : Int32) (m_matched : Int32) (m_number : Int64) (m_fault : Int32) (k0 : Nat) (f0 : Nat → Int32) (sz : Nat) (p1 : Int64) (p2 : Int32) (hk0 : k0 ≤ 500) (hno : ∀ j : Nat, j < 8 → p2 = nI (j + 1) → 500 < k0 + j + 1) : Met l yX4_put (.code yX4_put cX4_put 5 (some .boolean) :: tbW) ({ frames := 0, cells := 0, slots := 0, locals := 0 }) (va_Pc [.ref mh, .long p1, .int p2] (gP D cI [(mh, .inr (4, [.ref m_te, .int (nI k0), .ref m_re, .int m_len, .int m_pieces, .ref m_kn, .ref m_bg, .ref m_en, .ref m_dp, .int m_open, .ref m_nm, .ref m_sz, .int m_attrs, .ref m_aa, .ref m_asz, .int m_elements, .int m_most, .int m_values, .int m_place, .int m_phase, .int m_state, .int m_at, .int m_begin, .int m_name, .int m_refr, .int m_tag, .int m_tagsz, .int m_quote, .int m_chars, .int m_brackets, .int m_matched, .long m_number, .int m_fault])), (m_te, .inl (cI, 500, .inl f0))] sz)) (va_Qi (fun (r : Int32) (u : Unit) => r = 0) (fun u => gB D cI (va_A [(mh, .inr (4, [.ref m_te, .int (nI k0), .ref m_re, .int m_len, .int m_pieces, .ref m_kn, .ref m_bg, .ref m_en, .ref m_dp, .int m_open, .ref m_nm, .ref m_sz, .int m_attrs, .ref m_aa, .ref m_asz, .int m_elements, .int m_most, .int m_values, .int m_place, .int m_phase, .int m_state, .int m_at, .int m_begin, .int m_name, .int m_refr, .int m_tag, .int m_tagsz, .int m_quote, .int m_chars, .int m_brackets, .int m_matched, .long m_number, .int m_fault])), (m_te, .inl (cI, 500, .inl f0))] sz) [(mh, .inr (4, [.ref m_te, .int (nI k0), .ref m_re, .int m_len, .int m_pieces, .ref m_kn, .ref m_bg, .ref m_en, .ref m_dp, .int m_open, .ref m_nm, .ref m_sz, .int m_attrs, .ref m_aa, .ref m_asz, .int m_elements, .int m_most, .int m_values, .int m_place, .int m_phase, .int m_state, .int m_at, .int m_begin, .int m_name, .int m_refr, .int m_tag, .int m_tagsz, .int m_quote, .int m_chars, .int m_brackets, .int m_matched, .long m_number, .int m_fault])), (m_te, .inl (cI, 500, .inl f0))]) (va_A [(mh, .inr (4, [.ref m_te, .int (nI k0), .ref m_re, .int m_len, .int m_pieces, .ref m_kn, .ref m_bg, .ref m_en, .ref m_dp, .int m_open, .ref m_nm, .ref m_sz, .int m_attrs, .ref m_aa, .ref m_asz, .int m_elements, .int m_most, .int m_values, .int m_place, .int m_phase, .int m_state, .int m_at, .int m_begin, .int m_name, .int m_refr, .int m_tag, .int m_tagsz, .int m_quote, .int m_chars, .int m_brackets, .int m_matched, .long m_number, .int m_fault])), (m_te, .inl (cI, 500, .inl f0))] sz)) 0 0 (va_A [(mh, .inr (4, [.ref m_te, .int (nI k0), .ref m_re, .int m_len, .int m_pieces, .ref m_kn, .ref m_bg, .ref m_en, .ref m_dp, .int m_open, .ref m_nm, .ref m_sz, .int m_attrs, .ref m_aa, .ref m_asz, .int m_elements, .int m_most, .int m_values, .int m_place, .int m_phase, .int m_state, .int m_at, .int m_begin, .int m_name, .int m_refr, .int m_tag, .int m_tagsz, .int m_quote, .int m_chars, .int m_brackets, .int m_matched, .long m_number, .int m_fault])), (m_te, .inl (cI, 500, .inl f0))] sz) := by
  refine Met.ofW (cc := cX4_put) (maxL := 5) (ret := (some .boolean)) (by decide) rfl ?_
  intro p e s m args below meth c s₁ B hml hv
  obtain ⟨rfl, hsz, hP, hK, hD0, hN⟩ := hv
  have hx := B.exec
  have hb := B.bytes
  have hr := B.returns
  have hts := tb_hts (atoms_spec (ws := .code yX4_put cX4_put 5 (some .boolean) :: tbW) B.pre)
  have hown : s.vm.findClass RX4 = some m.cls := findClass_of_methodNamed B.named
  have hlocks := B.notSynchronized
  subst hsz
  have hD := hD0.self (sz := s.heap.size)
  generalize hAe : va_A [(mh, .inr (4, [.ref m_te, .int (nI k0), .ref m_re, .int m_len, .int m_pieces, .ref m_kn, .ref m_bg, .ref m_en, .ref m_dp, .int m_open, .ref m_nm, .ref m_sz, .int m_attrs, .ref m_aa, .ref m_asz, .int m_elements, .int m_most, .int m_values, .int m_place, .int m_phase, .int m_state, .int m_at, .int m_begin, .int m_name, .int m_refr, .int m_tag, .int m_tagsz, .int m_quote, .int m_chars, .int m_brackets, .int m_matched, .long m_number, .int m_fault])), (m_te, .inl (cI, 500, .inl f0))] s.heap.size = A at hD ⊢
  have hA : ∀ q : Nat, s.heap.size ≤ q → A q := fun q h => by rw [← hAe]; exact Or.inr h
  have hS : va_S A s.heap s.heap [] := va_S.rf
  have hP : va_P D classes [(mh, .inr (4, [.ref m_te, .int (nI k0), .ref m_re, .int m_len, .int m_pieces, .ref m_kn, .ref m_bg, .ref m_en, .ref m_dp, .int m_open, .ref m_nm, .ref m_sz, .int m_attrs, .ref m_aa, .ref m_asz, .int m_elements, .int m_most, .int m_values, .int m_place, .int m_phase, .int m_state, .int m_at, .int m_begin, .int m_name, .int m_refr, .int m_tag, .int m_tagsz, .int m_quote, .int m_chars, .int m_brackets, .int m_matched, .long m_number, .int m_fault])), (m_te, .inl (cI, 500, .inl f0))] s.heap := hP
  have hl := lv_entry ([.ref mh, .long p1, .int p2]) (n := 5) (Nat.le_of_ble_eq_true rfl)
  rw [lg_entry_eq]
  generalize (lg_sl ([.ref mh, .long p1, .int p2]) ++ List.replicate (5 - (lg_sl ([.ref mh, .long p1, .int p2])).length) Slot.unset).toArray = ls at hl ⊢
  have hl : lv_has ls 5 [(0, .ref mh), (1, .long p1), (3, .int p2)] := hl
  refine lv_iload_n hx hb dX4_put_0 rfl (lv_at hl 2 rfl) ?_
  refine lv_iconst (v := 1) hx hb dX4_put_1 (by decide) ?_
  refine lv_icmp_lt (tgt := 23) hx hb dX4_put_2 (by decide) (fun c_2 => ?_) (fun c_2 => ?_)
  · skip
    refine lv_iconst (v := 0) hx hb dX4_put_23 (by decide) ?_
    have hP9 := hP.sub (ws' := [(mh, .inr (4, [.ref m_te, .int (nI k0), .ref m_re, .int m_len, .int m_pieces, .ref m_kn, .ref m_bg, .ref m_en, .ref m_dp, .int m_open, .ref m_nm, .ref m_sz, .int m_attrs, .ref m_aa, .ref m_asz, .int m_elements, .int m_most, .int m_values, .int m_place, .int m_phase, .int m_state, .int m_at, .int m_begin, .int m_name, .int m_refr, .int m_tag, .int m_tagsz, .int m_quote, .int m_chars, .int m_brackets, .int m_matched, .long m_number, .int m_fault])), (m_te, .inl (cI, 500, .inl f0))]) [0, 1] rfl
    have hD9 := hD.sub (ws' := [(mh, .inr (4, [.ref m_te, .int (nI k0), .ref m_re, .int m_len, .int m_pieces, .ref m_kn, .ref m_bg, .ref m_en, .ref m_dp, .int m_open, .ref m_nm, .ref m_sz, .int m_attrs, .ref m_aa, .ref m_asz, .int m_elements, .int m_most, .int m_values, .int m_place, .int m_phase, .int m_state, .int m_at, .int m_begin, .int m_name, .int m_refr, .int m_tag, .int m_tagsz, .int m_quote, .int m_chars, .int m_brackets, .int m_matched, .long m_number, .int m_fault])), (m_te, .inl (cI, 500, .inl f0))]) [0, 1] (by decide) rfl
    exact W.zret (v := 0) (ty := .boolean) hx hb hr rfl (fun t ht hW => ⟨⟨0, (), rfl, rfl, by rw [ht]; exact hP9, va_K.moved hW.alike hK, hD9⟩, hS.F ht⟩) hS.2.2 dX4_put_24
  · skip
    refine lv_iload_n hx hb dX4_put_5 rfl (lv_at hl 2 rfl) ?_
    refine lv_bipush (v := 8) hx hb dX4_put_6 (by decide) ?_
    refine lv_icmp_gt (tgt := 23) hx hb dX4_put_8 (by decide) (fun c_8 => ?_) (fun c_8 => ?_)
    · skip
      refine lv_iconst (v := 0) hx hb dX4_put_23 (by decide) ?_
      have hP9 := hP.sub (ws' := [(mh, .inr (4, [.ref m_te, .int (nI k0), .ref m_re, .int m_len, .int m_pieces, .ref m_kn, .ref m_bg, .ref m_en, .ref m_dp, .int m_open, .ref m_nm, .ref m_sz, .int m_attrs, .ref m_aa, .ref m_asz, .int m_elements, .int m_most, .int m_values, .int m_place, .int m_phase, .int m_state, .int m_at, .int m_begin, .int m_name, .int m_refr, .int m_tag, .int m_tagsz, .int m_quote, .int m_chars, .int m_brackets, .int m_matched, .long m_number, .int m_fault])), (m_te, .inl (cI, 500, .inl f0))]) [0, 1] rfl
      have hD9 := hD.sub (ws' := [(mh, .inr (4, [.ref m_te, .int (nI k0), .ref m_re, .int m_len, .int m_pieces, .ref m_kn, .ref m_bg, .ref m_en, .ref m_dp, .int m_open, .ref m_nm, .ref m_sz, .int m_attrs, .ref m_aa, .ref m_asz, .int m_elements, .int m_most, .int m_values, .int m_place, .int m_phase, .int m_state, .int m_at, .int m_begin, .int m_name, .int m_refr, .int m_tag, .int m_tagsz, .int m_quote, .int m_chars, .int m_brackets, .int m_matched, .long m_number, .int m_fault])), (m_te, .inl (cI, 500, .inl f0))]) [0, 1] (by decide) rfl
      exact W.zret (v := 0) (ty := .boolean) hx hb hr rfl (fun t ht hW => ⟨⟨0, (), rfl, rfl, by rw [ht]; exact hP9, va_K.moved hW.alike hK, hD9⟩, hS.F ht⟩) hS.2.2 dX4_put_24
    · skip
      refine lv_aload_n hx hb dX4_put_11 rfl (lv_at hl 0 rfl) ?_
      refine va_get (D := D) (ci := 4) (v := .int (nI k0)) (C := RX4) (T := TX4) (N := 33) hx hb hts inX4 hown hK hP 0 rfl rfl 1 (by decide) (hts (Cond.fieldLink "NestedTagsModel" 44 "NestedTagsModel" "size" "I") kk_2_213) (fun _ h9 => h9) rfl dX4_put_12 ?_
      refine lv_iload_n hx hb dX4_put_15 rfl (lv_at hl 2 rfl) ?_
      refine lv_iadd hx hb dX4_put_16 ?_
      refine lv_topi (fun x_1 ex_1 => ?_)
      refine lv_sipush (v := 500) hx hb dX4_put_17 (by decide) ?_
      refine lv_icmp_le (tgt := 25) hx hb dX4_put_20 (by decide) (fun c_20 => ?_) (fun c_20 => ?_)
      · skip
        exact (put_nom c_2 c_8 ex_1 c_20 hno hk0).elim
      · skip
        refine lv_iconst (v := 0) hx hb dX4_put_23 (by decide) ?_
        have hP9 := hP.sub (ws' := [(mh, .inr (4, [.ref m_te, .int (nI k0), .ref m_re, .int m_len, .int m_pieces, .ref m_kn, .ref m_bg, .ref m_en, .ref m_dp, .int m_open, .ref m_nm, .ref m_sz, .int m_attrs, .ref m_aa, .ref m_asz, .int m_elements, .int m_most, .int m_values, .int m_place, .int m_phase, .int m_state, .int m_at, .int m_begin, .int m_name, .int m_refr, .int m_tag, .int m_tagsz, .int m_quote, .int m_chars, .int m_brackets, .int m_matched, .long m_number, .int m_fault])), (m_te, .inl (cI, 500, .inl f0))]) [0, 1] rfl
        have hD9 := hD.sub (ws' := [(mh, .inr (4, [.ref m_te, .int (nI k0), .ref m_re, .int m_len, .int m_pieces, .ref m_kn, .ref m_bg, .ref m_en, .ref m_dp, .int m_open, .ref m_nm, .ref m_sz, .int m_attrs, .ref m_aa, .ref m_asz, .int m_elements, .int m_most, .int m_values, .int m_place, .int m_phase, .int m_state, .int m_at, .int m_begin, .int m_name, .int m_refr, .int m_tag, .int m_tagsz, .int m_quote, .int m_chars, .int m_brackets, .int m_matched, .long m_number, .int m_fault])), (m_te, .inl (cI, 500, .inl f0))]) [0, 1] (by decide) rfl
        exact W.zret (v := 0) (ty := .boolean) hx hb hr rfl (fun t ht hW => ⟨⟨0, (), rfl, rfl, by rw [ht]; exact hP9, va_K.moved hW.alike hK, hD9⟩, hS.F ht⟩) hS.2.2 dX4_put_24

set_option maxHeartbeats 4000000 in
set_option maxRecDepth 100000 in
/-- read of an empty text -/
theorem c_X4_read_0 (l : Launch) (D : va_G) (cI : ClassId) (mh : Nat) (m_te : Nat) (m_re : Nat) (m_len : Int32) (m_pieces : Int32) (m_kn : Nat) (m_bg : Nat) (m_en : Nat) (m_dp : Nat) (m_open : Int32) (m_nm : Nat) (m_sz : Nat) (m_attrs : Int32) (m_aa : Nat) (m_asz : Nat) (m_elements : Int32) (m_most : Int32) (m_values : Int32) (m_place : Int32) (m_phase : Int32) (m_state : Int32) (m_at : Int32) (m_begin : Int32) (m_name : Int32) (m_refr : Int32) (m_tag : Int32) (m_tagsz : Int32) (m_quote : Int32) (m_chars : Int32) (m_brackets : Int32) (m_matched : Int32) (m_number : Int64) (m_fault : Int32) (sz : Nat)   : Met l yX4_read (.code yX4_read cX4_read 2 (some .int) :: tbW) ({ frames := 2, cells := 0, slots := 0, locals := 42 }) (va_Pc [.ref mh] (gP D cI [(mh, .inr (4, [.ref m_te, .int 0, .ref m_re, .int m_len, .int m_pieces, .ref m_kn, .ref m_bg, .ref m_en, .ref m_dp, .int m_open, .ref m_nm, .ref m_sz, .int m_attrs, .ref m_aa, .ref m_asz, .int m_elements, .int m_most, .int m_values, .int m_place, .int m_phase, .int m_state, .int m_at, .int m_begin, .int m_name, .int m_refr, .int m_tag, .int m_tagsz, .int m_quote, .int m_chars, .int m_brackets, .int m_matched, .long m_number, .int m_fault]))] sz)) (va_Qi (fun (r : Int32) (u : Unit) => r = -3) (fun u => gB D cI (va_A [(mh, .inr (4, [.ref m_te, .int 0, .ref m_re, .int m_len, .int m_pieces, .ref m_kn, .ref m_bg, .ref m_en, .ref m_dp, .int m_open, .ref m_nm, .ref m_sz, .int m_attrs, .ref m_aa, .ref m_asz, .int m_elements, .int m_most, .int m_values, .int m_place, .int m_phase, .int m_state, .int m_at, .int m_begin, .int m_name, .int m_refr, .int m_tag, .int m_tagsz, .int m_quote, .int m_chars, .int m_brackets, .int m_matched, .long m_number, .int m_fault]))] sz) [(mh, .inr (4, [.ref m_te, .int 0, .ref m_re, .int 0, .int 0, .ref m_kn, .ref m_bg, .ref m_en, .ref m_dp, .int 0, .ref m_nm, .ref m_sz, .int 0, .ref m_aa, .ref m_asz, .int 0, .int 0, .int 0, .int 0, .int 0, .int 0, .int 0, .int m_begin, .int m_name, .int m_refr, .int m_tag, .int m_tagsz, .int 0, .int (-1), .int 0, .int m_matched, .long m_number, .int 2]))]) (va_A [(mh, .inr (4, [.ref m_te, .int 0, .ref m_re, .int m_len, .int m_pieces, .ref m_kn, .ref m_bg, .ref m_en, .ref m_dp, .int m_open, .ref m_nm, .ref m_sz, .int m_attrs, .ref m_aa, .ref m_asz, .int m_elements, .int m_most, .int m_values, .int m_place, .int m_phase, .int m_state, .int m_at, .int m_begin, .int m_name, .int m_refr, .int m_tag, .int m_tagsz, .int m_quote, .int m_chars, .int m_brackets, .int m_matched, .long m_number, .int m_fault]))] sz)) 0 0 (va_A [(mh, .inr (4, [.ref m_te, .int 0, .ref m_re, .int m_len, .int m_pieces, .ref m_kn, .ref m_bg, .ref m_en, .ref m_dp, .int m_open, .ref m_nm, .ref m_sz, .int m_attrs, .ref m_aa, .ref m_asz, .int m_elements, .int m_most, .int m_values, .int m_place, .int m_phase, .int m_state, .int m_at, .int m_begin, .int m_name, .int m_refr, .int m_tag, .int m_tagsz, .int m_quote, .int m_chars, .int m_brackets, .int m_matched, .long m_number, .int m_fault]))] sz) := by
  refine Met.ofW (cc := cX4_read) (maxL := 2) (ret := (some .int)) (by decide) rfl ?_
  intro p e s m args below meth c s₁ B hml hv
  obtain ⟨rfl, hsz, hP, hK, hD0, hN⟩ := hv
  have hx := B.exec
  have hb := B.bytes
  have hr := B.returns
  have hts := tb_hts (atoms_spec (ws := .code yX4_read cX4_read 2 (some .int) :: tbW) B.pre)
  have hown : s.vm.findClass RX4 = some m.cls := findClass_of_methodNamed B.named
  have hlocks := B.notSynchronized
  subst hsz
  have hD := hD0.self (sz := s.heap.size)
  generalize hAe : va_A [(mh, .inr (4, [.ref m_te, .int 0, .ref m_re, .int m_len, .int m_pieces, .ref m_kn, .ref m_bg, .ref m_en, .ref m_dp, .int m_open, .ref m_nm, .ref m_sz, .int m_attrs, .ref m_aa, .ref m_asz, .int m_elements, .int m_most, .int m_values, .int m_place, .int m_phase, .int m_state, .int m_at, .int m_begin, .int m_name, .int m_refr, .int m_tag, .int m_tagsz, .int m_quote, .int m_chars, .int m_brackets, .int m_matched, .long m_number, .int m_fault]))] s.heap.size = A at hD ⊢
  have hA : ∀ q : Nat, s.heap.size ≤ q → A q := fun q h => by rw [← hAe]; exact Or.inr h
  have hS : va_S A s.heap s.heap [] := va_S.rf
  have hP : va_P D classes [(mh, .inr (4, [.ref m_te, .int 0, .ref m_re, .int m_len, .int m_pieces, .ref m_kn, .ref m_bg, .ref m_en, .ref m_dp, .int m_open, .ref m_nm, .ref m_sz, .int m_attrs, .ref m_aa, .ref m_asz, .int m_elements, .int m_most, .int m_values, .int m_place, .int m_phase, .int m_state, .int m_at, .int m_begin, .int m_name, .int m_refr, .int m_tag, .int m_tagsz, .int m_quote, .int m_chars, .int m_brackets, .int m_matched, .long m_number, .int m_fault]))] s.heap := hP
  have hl := lv_entry ([.ref mh]) (n := 2) (Nat.le_of_ble_eq_true rfl)
  rw [lg_entry_eq]
  generalize (lg_sl ([.ref mh]) ++ List.replicate (2 - (lg_sl ([.ref mh])).length) Slot.unset).toArray = ls at hl ⊢
  have hl : lv_has ls 2 [(0, .ref mh)] := hl
  refine lv_iconst (v := 0) hx hb dX4_read_0 (by decide) ?_
  refine lv_istore_n (lv' := [(1, .int 0), (0, .ref mh)]) hx hb dX4_read_1 rfl hl (by decide) rfl (fun ls hl => ?_)
  refine lv_iload_n hx hb dX4_read_2 rfl (lv_at hl 0 rfl) ?_
  refine lv_aload_n hx hb dX4_read_3 rfl (lv_at hl 1 rfl) ?_
  refine va_get (D := D) (ci := 4) (v := .int 0) (C := RX4) (T := TX4) (N := 33) hx hb hts inX4 hown hK hP 0 rfl rfl 1 (by decide) (hts (Cond.fieldLink "NestedTagsModel" 44 "NestedTagsModel" "size" "I") kk_2_213) (fun _ h9 => h9) rfl dX4_read_4 ?_
  refine lv_icmp_ge (tgt := 28) hx hb dX4_read_7 (by decide) (fun c_7 => ?_) (fun c_7 => ?_)
  · skip
    refine lv_aload_n hx hb dX4_read_28 rfl (lv_at hl 1 rfl) ?_
    refine lv_aload_n hx hb dX4_read_29 rfl (lv_at hl 1 rfl) ?_
    refine va_get (D := D) (ci := 4) (v := .int 0) (C := RX4) (T := TX4) (N := 33) hx hb hts inX4 hown hK hP 0 rfl rfl 1 (by decide) (hts (Cond.fieldLink "NestedTagsModel" 44 "NestedTagsModel" "size" "I") kk_2_213) (fun _ h9 => h9) rfl dX4_read_30 ?_
    refine va_put (D := D) (ci := 4) (v := .int 0) (ty := .int) (C := RX4) (T := TX4) (N := 33) hx hb hts inX4 tyX4 tyX4_ok nmX4 hown hK hP hD hS 0 rfl rfl 3 (by decide) (hts (Cond.fieldLink "NestedTagsModel" 234 "NestedTagsModel" "length" "I") kk_2_215) (fun _ h9 => h9) rfl (by decide +kernel) rfl rfl (Nat.le_of_ble_eq_true rfl) dX4_read_33 (fun H locs hP hD hS => ?_)
    have hP : va_P D classes [(mh, .inr (4, [.ref m_te, .int 0, .ref m_re, .int 0, .int m_pieces, .ref m_kn, .ref m_bg, .ref m_en, .ref m_dp, .int m_open, .ref m_nm, .ref m_sz, .int m_attrs, .ref m_aa, .ref m_asz, .int m_elements, .int m_most, .int m_values, .int m_place, .int m_phase, .int m_state, .int m_at, .int m_begin, .int m_name, .int m_refr, .int m_tag, .int m_tagsz, .int m_quote, .int m_chars, .int m_brackets, .int m_matched, .long m_number, .int m_fault]))] H := hP
    have hD : va_D A [(mh, .inr (4, [.ref m_te, .int 0, .ref m_re, .int 0, .int m_pieces, .ref m_kn, .ref m_bg, .ref m_en, .ref m_dp, .int m_open, .ref m_nm, .ref m_sz, .int m_attrs, .ref m_aa, .ref m_asz, .int m_elements, .int m_most, .int m_values, .int m_place, .int m_phase, .int m_state, .int m_at, .int m_begin, .int m_name, .int m_refr, .int m_tag, .int m_tagsz, .int m_quote, .int m_chars, .int m_brackets, .int m_matched, .long m_number, .int m_fault]))] := hD
    refine lv_aload_n hx hb dX4_read_36 rfl (lv_at hl 1 rfl) ?_
    refine lv_iconst (v := 0) hx hb dX4_read_37 (by decide) ?_
    refine va_put (D := D) (ci := 4) (v := .int 0) (ty := .int) (C := RX4) (T := TX4) (N := 33) hx hb hts inX4 tyX4 tyX4_ok nmX4 hown hK hP hD hS 0 rfl rfl 1 (by decide) (hts (Cond.fieldLink "NestedTagsModel" 44 "NestedTagsModel" "size" "I") kk_2_213) (fun _ h9 => h9) rfl (by decide +kernel) rfl rfl (Nat.le_of_ble_eq_true rfl) dX4_read_38 (fun H locs hP hD hS => ?_)
    have hP : va_P D classes [(mh, .inr (4, [.ref m_te, .int 0, .ref m_re, .int 0, .int m_pieces, .ref m_kn, .ref m_bg, .ref m_en, .ref m_dp, .int m_open, .ref m_nm, .ref m_sz, .int m_attrs, .ref m_aa, .ref m_asz, .int m_elements, .int m_most, .int m_values, .int m_place, .int m_phase, .int m_state, .int m_at, .int m_begin, .int m_name, .int m_refr, .int m_tag, .int m_tagsz, .int m_quote, .int m_chars, .int m_brackets, .int m_matched, .long m_number, .int m_fault]))] H := hP
    have hD : va_D A [(mh, .inr (4, [.ref m_te, .int 0, .ref m_re, .int 0, .int m_pieces, .ref m_kn, .ref m_bg, .ref m_en, .ref m_dp, .int m_open, .ref m_nm, .ref m_sz, .int m_attrs, .ref m_aa, .ref m_asz, .int m_elements, .int m_most, .int m_values, .int m_place, .int m_phase, .int m_state, .int m_at, .int m_begin, .int m_name, .int m_refr, .int m_tag, .int m_tagsz, .int m_quote, .int m_chars, .int m_brackets, .int m_matched, .long m_number, .int m_fault]))] := hD
    refine lv_aload_n hx hb dX4_read_41 rfl (lv_at hl 1 rfl) ?_
    refine lv_iconst (v := 0) hx hb dX4_read_42 (by decide) ?_
    refine va_put (D := D) (ci := 4) (v := .int 0) (ty := .int) (C := RX4) (T := TX4) (N := 33) hx hb hts inX4 tyX4 tyX4_ok nmX4 hown hK hP hD hS 0 rfl rfl 4 (by decide) (hts (Cond.fieldLink "NestedTagsModel" 66 "NestedTagsModel" "pieces" "I") kk_2_216) (fun _ h9 => h9) rfl (by decide +kernel) rfl rfl (Nat.le_of_ble_eq_true rfl) dX4_read_43 (fun H locs hP hD hS => ?_)
    have hP : va_P D classes [(mh, .inr (4, [.ref m_te, .int 0, .ref m_re, .int 0, .int 0, .ref m_kn, .ref m_bg, .ref m_en, .ref m_dp, .int m_open, .ref m_nm, .ref m_sz, .int m_attrs, .ref m_aa, .ref m_asz, .int m_elements, .int m_most, .int m_values, .int m_place, .int m_phase, .int m_state, .int m_at, .int m_begin, .int m_name, .int m_refr, .int m_tag, .int m_tagsz, .int m_quote, .int m_chars, .int m_brackets, .int m_matched, .long m_number, .int m_fault]))] H := hP
    have hD : va_D A [(mh, .inr (4, [.ref m_te, .int 0, .ref m_re, .int 0, .int 0, .ref m_kn, .ref m_bg, .ref m_en, .ref m_dp, .int m_open, .ref m_nm, .ref m_sz, .int m_attrs, .ref m_aa, .ref m_asz, .int m_elements, .int m_most, .int m_values, .int m_place, .int m_phase, .int m_state, .int m_at, .int m_begin, .int m_name, .int m_refr, .int m_tag, .int m_tagsz, .int m_quote, .int m_chars, .int m_brackets, .int m_matched, .long m_number, .int m_fault]))] := hD
    refine lv_aload_n hx hb dX4_read_46 rfl (lv_at hl 1 rfl) ?_
    refine lv_iconst (v := 0) hx hb dX4_read_47 (by decide) ?_
    refine va_put (D := D) (ci := 4) (v := .int 0) (ty := .int) (C := RX4) (T := TX4) (N := 33) hx hb hts inX4 tyX4 tyX4_ok nmX4 hown hK hP hD hS 0 rfl rfl 9 (by decide) (hts (Cond.fieldLink "NestedTagsModel" 72 "NestedTagsModel" "open" "I") kk_2_221) (fun _ h9 => h9) rfl (by decide +kernel) rfl rfl (Nat.le_of_ble_eq_true rfl) dX4_read_48 (fun H locs hP hD hS => ?_)
    have hP : va_P D classes [(mh, .inr (4, [.ref m_te, .int 0, .ref m_re, .int 0, .int 0, .ref m_kn, .ref m_bg, .ref m_en, .ref m_dp, .int 0, .ref m_nm, .ref m_sz, .int m_attrs, .ref m_aa, .ref m_asz, .int m_elements, .int m_most, .int m_values, .int m_place, .int m_phase, .int m_state, .int m_at, .int m_begin, .int m_name, .int m_refr, .int m_tag, .int m_tagsz, .int m_quote, .int m_chars, .int m_brackets, .int m_matched, .long m_number, .int m_fault]))] H := hP
    have hD : va_D A [(mh, .inr (4, [.ref m_te, .int 0, .ref m_re, .int 0, .int 0, .ref m_kn, .ref m_bg, .ref m_en, .ref m_dp, .int 0, .ref m_nm, .ref m_sz, .int m_attrs, .ref m_aa, .ref m_asz, .int m_elements, .int m_most, .int m_values, .int m_place, .int m_phase, .int m_state, .int m_at, .int m_begin, .int m_name, .int m_refr, .int m_tag, .int m_tagsz, .int m_quote, .int m_chars, .int m_brackets, .int m_matched, .long m_number, .int m_fault]))] := hD
    refine lv_aload_n hx hb dX4_read_51 rfl (lv_at hl 1 rfl) ?_
    refine lv_iconst (v := 0) hx hb dX4_read_52 (by decide) ?_
    refine va_put (D := D) (ci := 4) (v := .int 0) (ty := .int) (C := RX4) (T := TX4) (N := 33) hx hb hts inX4 tyX4 tyX4_ok nmX4 hown hK hP hD hS 0 rfl rfl 12 (by decide) (hts (Cond.fieldLink "NestedTagsModel" 121 "NestedTagsModel" "attributes" "I") kk_2_224) (fun _ h9 => h9) rfl (by decide +kernel) rfl rfl (Nat.le_of_ble_eq_true rfl) dX4_read_53 (fun H locs hP hD hS => ?_)
    have hP : va_P D classes [(mh, .inr (4, [.ref m_te, .int 0, .ref m_re, .int 0, .int 0, .ref m_kn, .ref m_bg, .ref m_en, .ref m_dp, .int 0, .ref m_nm, .ref m_sz, .int 0, .ref m_aa, .ref m_asz, .int m_elements, .int m_most, .int m_values, .int m_place, .int m_phase, .int m_state, .int m_at, .int m_begin, .int m_name, .int m_refr, .int m_tag, .int m_tagsz, .int m_quote, .int m_chars, .int m_brackets, .int m_matched, .long m_number, .int m_fault]))] H := hP
    have hD : va_D A [(mh, .inr (4, [.ref m_te, .int 0, .ref m_re, .int 0, .int 0, .ref m_kn, .ref m_bg, .ref m_en, .ref m_dp, .int 0, .ref m_nm, .ref m_sz, .int 0, .ref m_aa, .ref m_asz, .int m_elements, .int m_most, .int m_values, .int m_place, .int m_phase, .int m_state, .int m_at, .int m_begin, .int m_name, .int m_refr, .int m_tag, .int m_tagsz, .int m_quote, .int m_chars, .int m_brackets, .int m_matched, .long m_number, .int m_fault]))] := hD
    refine lv_aload_n hx hb dX4_read_56 rfl (lv_at hl 1 rfl) ?_
    refine lv_iconst (v := 0) hx hb dX4_read_57 (by decide) ?_
    refine va_put (D := D) (ci := 4) (v := .int 0) (ty := .int) (C := RX4) (T := TX4) (N := 33) hx hb hts inX4 tyX4 tyX4_ok nmX4 hown hK hP hD hS 0 rfl rfl 15 (by decide) (hts (Cond.fieldLink "NestedTagsModel" 118 "NestedTagsModel" "elements" "I") kk_2_227) (fun _ h9 => h9) rfl (by decide +kernel) rfl rfl (Nat.le_of_ble_eq_true rfl) dX4_read_58 (fun H locs hP hD hS => ?_)
    have hP : va_P D classes [(mh, .inr (4, [.ref m_te, .int 0, .ref m_re, .int 0, .int 0, .ref m_kn, .ref m_bg, .ref m_en, .ref m_dp, .int 0, .ref m_nm, .ref m_sz, .int 0, .ref m_aa, .ref m_asz, .int 0, .int m_most, .int m_values, .int m_place, .int m_phase, .int m_state, .int m_at, .int m_begin, .int m_name, .int m_refr, .int m_tag, .int m_tagsz, .int m_quote, .int m_chars, .int m_brackets, .int m_matched, .long m_number, .int m_fault]))] H := hP
    have hD : va_D A [(mh, .inr (4, [.ref m_te, .int 0, .ref m_re, .int 0, .int 0, .ref m_kn, .ref m_bg, .ref m_en, .ref m_dp, .int 0, .ref m_nm, .ref m_sz, .int 0, .ref m_aa, .ref m_asz, .int 0, .int m_most, .int m_values, .int m_place, .int m_phase, .int m_state, .int m_at, .int m_begin, .int m_name, .int m_refr, .int m_tag, .int m_tagsz, .int m_quote, .int m_chars, .int m_brackets, .int m_matched, .long m_number, .int m_fault]))] := hD
    refine lv_aload_n hx hb dX4_read_61 rfl (lv_at hl 1 rfl) ?_
    refine lv_iconst (v := 0) hx hb dX4_read_62 (by decide) ?_
    refine va_put (D := D) (ci := 4) (v := .int 0) (ty := .int) (C := RX4) (T := TX4) (N := 33) hx hb hts inX4 tyX4 tyX4_ok nmX4 hown hK hP hD hS 0 rfl rfl 16 (by decide) (hts (Cond.fieldLink "NestedTagsModel" 102 "NestedTagsModel" "most" "I") kk_2_228) (fun _ h9 => h9) rfl (by decide +kernel) rfl rfl (Nat.le_of_ble_eq_true rfl) dX4_read_63 (fun H locs hP hD hS => ?_)
    have hP : va_P D classes [(mh, .inr (4, [.ref m_te, .int 0, .ref m_re, .int 0, .int 0, .ref m_kn, .ref m_bg, .ref m_en, .ref m_dp, .int 0, .ref m_nm, .ref m_sz, .int 0, .ref m_aa, .ref m_asz, .int 0, .int 0, .int m_values, .int m_place, .int m_phase, .int m_state, .int m_at, .int m_begin, .int m_name, .int m_refr, .int m_tag, .int m_tagsz, .int m_quote, .int m_chars, .int m_brackets, .int m_matched, .long m_number, .int m_fault]))] H := hP
    have hD : va_D A [(mh, .inr (4, [.ref m_te, .int 0, .ref m_re, .int 0, .int 0, .ref m_kn, .ref m_bg, .ref m_en, .ref m_dp, .int 0, .ref m_nm, .ref m_sz, .int 0, .ref m_aa, .ref m_asz, .int 0, .int 0, .int m_values, .int m_place, .int m_phase, .int m_state, .int m_at, .int m_begin, .int m_name, .int m_refr, .int m_tag, .int m_tagsz, .int m_quote, .int m_chars, .int m_brackets, .int m_matched, .long m_number, .int m_fault]))] := hD
    refine lv_aload_n hx hb dX4_read_66 rfl (lv_at hl 1 rfl) ?_
    refine lv_iconst (v := 0) hx hb dX4_read_67 (by decide) ?_
    refine va_put (D := D) (ci := 4) (v := .int 0) (ty := .int) (C := RX4) (T := TX4) (N := 33) hx hb hts inX4 tyX4 tyX4_ok nmX4 hown hK hP hD hS 0 rfl rfl 17 (by decide) (hts (Cond.fieldLink "NestedTagsModel" 133 "NestedTagsModel" "values" "I") kk_2_229) (fun _ h9 => h9) rfl (by decide +kernel) rfl rfl (Nat.le_of_ble_eq_true rfl) dX4_read_68 (fun H locs hP hD hS => ?_)
    have hP : va_P D classes [(mh, .inr (4, [.ref m_te, .int 0, .ref m_re, .int 0, .int 0, .ref m_kn, .ref m_bg, .ref m_en, .ref m_dp, .int 0, .ref m_nm, .ref m_sz, .int 0, .ref m_aa, .ref m_asz, .int 0, .int 0, .int 0, .int m_place, .int m_phase, .int m_state, .int m_at, .int m_begin, .int m_name, .int m_refr, .int m_tag, .int m_tagsz, .int m_quote, .int m_chars, .int m_brackets, .int m_matched, .long m_number, .int m_fault]))] H := hP
    have hD : va_D A [(mh, .inr (4, [.ref m_te, .int 0, .ref m_re, .int 0, .int 0, .ref m_kn, .ref m_bg, .ref m_en, .ref m_dp, .int 0, .ref m_nm, .ref m_sz, .int 0, .ref m_aa, .ref m_asz, .int 0, .int 0, .int 0, .int m_place, .int m_phase, .int m_state, .int m_at, .int m_begin, .int m_name, .int m_refr, .int m_tag, .int m_tagsz, .int m_quote, .int m_chars, .int m_brackets, .int m_matched, .long m_number, .int m_fault]))] := hD
    refine lv_aload_n hx hb dX4_read_71 rfl (lv_at hl 1 rfl) ?_
    refine lv_iconst (v := (-1)) hx hb dX4_read_72 (by decide) ?_
    refine va_put (D := D) (ci := 4) (v := .int (-1)) (ty := .int) (C := RX4) (T := TX4) (N := 33) hx hb hts inX4 tyX4 tyX4_ok nmX4 hown hK hP hD hS 0 rfl rfl 18 (by decide) (hts (Cond.fieldLink "NestedTagsModel" 40 "NestedTagsModel" "place" "I") kk_2_230) (fun _ h9 => h9) rfl (by decide +kernel) rfl rfl (Nat.le_of_ble_eq_true rfl) dX4_read_73 (fun H locs hP hD hS => ?_)
    have hP : va_P D classes [(mh, .inr (4, [.ref m_te, .int 0, .ref m_re, .int 0, .int 0, .ref m_kn, .ref m_bg, .ref m_en, .ref m_dp, .int 0, .ref m_nm, .ref m_sz, .int 0, .ref m_aa, .ref m_asz, .int 0, .int 0, .int 0, .int (-1), .int m_phase, .int m_state, .int m_at, .int m_begin, .int m_name, .int m_refr, .int m_tag, .int m_tagsz, .int m_quote, .int m_chars, .int m_brackets, .int m_matched, .long m_number, .int m_fault]))] H := hP
    have hD : va_D A [(mh, .inr (4, [.ref m_te, .int 0, .ref m_re, .int 0, .int 0, .ref m_kn, .ref m_bg, .ref m_en, .ref m_dp, .int 0, .ref m_nm, .ref m_sz, .int 0, .ref m_aa, .ref m_asz, .int 0, .int 0, .int 0, .int (-1), .int m_phase, .int m_state, .int m_at, .int m_begin, .int m_name, .int m_refr, .int m_tag, .int m_tagsz, .int m_quote, .int m_chars, .int m_brackets, .int m_matched, .long m_number, .int m_fault]))] := hD
    refine lv_aload_n hx hb dX4_read_76 rfl (lv_at hl 1 rfl) ?_
    refine lv_iconst (v := 0) hx hb dX4_read_77 (by decide) ?_
    refine va_put (D := D) (ci := 4) (v := .int 0) (ty := .int) (C := RX4) (T := TX4) (N := 33) hx hb hts inX4 tyX4 tyX4_ok nmX4 hown hK hP hD hS 0 rfl rfl 19 (by decide) (hts (Cond.fieldLink "NestedTagsModel" 79 "NestedTagsModel" "phase" "I") kk_2_231) (fun _ h9 => h9) rfl (by decide +kernel) rfl rfl (Nat.le_of_ble_eq_true rfl) dX4_read_78 (fun H locs hP hD hS => ?_)
    have hP : va_P D classes [(mh, .inr (4, [.ref m_te, .int 0, .ref m_re, .int 0, .int 0, .ref m_kn, .ref m_bg, .ref m_en, .ref m_dp, .int 0, .ref m_nm, .ref m_sz, .int 0, .ref m_aa, .ref m_asz, .int 0, .int 0, .int 0, .int (-1), .int 0, .int m_state, .int m_at, .int m_begin, .int m_name, .int m_refr, .int m_tag, .int m_tagsz, .int m_quote, .int m_chars, .int m_brackets, .int m_matched, .long m_number, .int m_fault]))] H := hP
    have hD : va_D A [(mh, .inr (4, [.ref m_te, .int 0, .ref m_re, .int 0, .int 0, .ref m_kn, .ref m_bg, .ref m_en, .ref m_dp, .int 0, .ref m_nm, .ref m_sz, .int 0, .ref m_aa, .ref m_asz, .int 0, .int 0, .int 0, .int (-1), .int 0, .int m_state, .int m_at, .int m_begin, .int m_name, .int m_refr, .int m_tag, .int m_tagsz, .int m_quote, .int m_chars, .int m_brackets, .int m_matched, .long m_number, .int m_fault]))] := hD
    refine lv_aload_n hx hb dX4_read_81 rfl (lv_at hl 1 rfl) ?_
    refine lv_iconst (v := 0) hx hb dX4_read_82 (by decide) ?_
    refine va_put (D := D) (ci := 4) (v := .int 0) (ty := .int) (C := RX4) (T := TX4) (N := 33) hx hb hts inX4 tyX4 tyX4_ok nmX4 hown hK hP hD hS 0 rfl rfl 20 (by decide) (hts (Cond.fieldLink "NestedTagsModel" 56 "NestedTagsModel" "state" "I") kk_2_232) (fun _ h9 => h9) rfl (by decide +kernel) rfl rfl (Nat.le_of_ble_eq_true rfl) dX4_read_83 (fun H locs hP hD hS => ?_)
    have hP : va_P D classes [(mh, .inr (4, [.ref m_te, .int 0, .ref m_re, .int 0, .int 0, .ref m_kn, .ref m_bg, .ref m_en, .ref m_dp, .int 0, .ref m_nm, .ref m_sz, .int 0, .ref m_aa, .ref m_asz, .int 0, .int 0, .int 0, .int (-1), .int 0, .int 0, .int m_at, .int m_begin, .int m_name, .int m_refr, .int m_tag, .int m_tagsz, .int m_quote, .int m_chars, .int m_brackets, .int m_matched, .long m_number, .int m_fault]))] H := hP
    have hD : va_D A [(mh, .inr (4, [.ref m_te, .int 0, .ref m_re, .int 0, .int 0, .ref m_kn, .ref m_bg, .ref m_en, .ref m_dp, .int 0, .ref m_nm, .ref m_sz, .int 0, .ref m_aa, .ref m_asz, .int 0, .int 0, .int 0, .int (-1), .int 0, .int 0, .int m_at, .int m_begin, .int m_name, .int m_refr, .int m_tag, .int m_tagsz, .int m_quote, .int m_chars, .int m_brackets, .int m_matched, .long m_number, .int m_fault]))] := hD
    refine lv_aload_n hx hb dX4_read_86 rfl (lv_at hl 1 rfl) ?_
    refine lv_iconst (v := 0) hx hb dX4_read_87 (by decide) ?_
    refine va_put (D := D) (ci := 4) (v := .int 0) (ty := .int) (C := RX4) (T := TX4) (N := 33) hx hb hts inX4 tyX4 tyX4_ok nmX4 hown hK hP hD hS 0 rfl rfl 21 (by decide) (hts (Cond.fieldLink "NestedTagsModel" 59 "NestedTagsModel" "at" "I") kk_2_233) (fun _ h9 => h9) rfl (by decide +kernel) rfl rfl (Nat.le_of_ble_eq_true rfl) dX4_read_88 (fun H locs hP hD hS => ?_)
    have hP : va_P D classes [(mh, .inr (4, [.ref m_te, .int 0, .ref m_re, .int 0, .int 0, .ref m_kn, .ref m_bg, .ref m_en, .ref m_dp, .int 0, .ref m_nm, .ref m_sz, .int 0, .ref m_aa, .ref m_asz, .int 0, .int 0, .int 0, .int (-1), .int 0, .int 0, .int 0, .int m_begin, .int m_name, .int m_refr, .int m_tag, .int m_tagsz, .int m_quote, .int m_chars, .int m_brackets, .int m_matched, .long m_number, .int m_fault]))] H := hP
    have hD : va_D A [(mh, .inr (4, [.ref m_te, .int 0, .ref m_re, .int 0, .int 0, .ref m_kn, .ref m_bg, .ref m_en, .ref m_dp, .int 0, .ref m_nm, .ref m_sz, .int 0, .ref m_aa, .ref m_asz, .int 0, .int 0, .int 0, .int (-1), .int 0, .int 0, .int 0, .int m_begin, .int m_name, .int m_refr, .int m_tag, .int m_tagsz, .int m_quote, .int m_chars, .int m_brackets, .int m_matched, .long m_number, .int m_fault]))] := hD
    refine lv_aload_n hx hb dX4_read_91 rfl (lv_at hl 1 rfl) ?_
    refine lv_iconst (v := 0) hx hb dX4_read_92 (by decide) ?_
    refine va_put (D := D) (ci := 4) (v := .int 0) (ty := .int) (C := RX4) (T := TX4) (N := 33) hx hb hts inX4 tyX4 tyX4_ok nmX4 hown hK hP hD hS 0 rfl rfl 27 (by decide) (hts (Cond.fieldLink "NestedTagsModel" 130 "NestedTagsModel" "quote" "I") kk_2_239) (fun _ h9 => h9) rfl (by decide +kernel) rfl rfl (Nat.le_of_ble_eq_true rfl) dX4_read_93 (fun H locs hP hD hS => ?_)
    have hP : va_P D classes [(mh, .inr (4, [.ref m_te, .int 0, .ref m_re, .int 0, .int 0, .ref m_kn, .ref m_bg, .ref m_en, .ref m_dp, .int 0, .ref m_nm, .ref m_sz, .int 0, .ref m_aa, .ref m_asz, .int 0, .int 0, .int 0, .int (-1), .int 0, .int 0, .int 0, .int m_begin, .int m_name, .int m_refr, .int m_tag, .int m_tagsz, .int 0, .int m_chars, .int m_brackets, .int m_matched, .long m_number, .int m_fault]))] H := hP
    have hD : va_D A [(mh, .inr (4, [.ref m_te, .int 0, .ref m_re, .int 0, .int 0, .ref m_kn, .ref m_bg, .ref m_en, .ref m_dp, .int 0, .ref m_nm, .ref m_sz, .int 0, .ref m_aa, .ref m_asz, .int 0, .int 0, .int 0, .int (-1), .int 0, .int 0, .int 0, .int m_begin, .int m_name, .int m_refr, .int m_tag, .int m_tagsz, .int 0, .int m_chars, .int m_brackets, .int m_matched, .long m_number, .int m_fault]))] := hD
    refine lv_aload_n hx hb dX4_read_96 rfl (lv_at hl 1 rfl) ?_
    refine lv_iconst (v := (-1)) hx hb dX4_read_97 (by decide) ?_
    refine va_put (D := D) (ci := 4) (v := .int (-1)) (ty := .int) (C := RX4) (T := TX4) (N := 33) hx hb hts inX4 tyX4 tyX4_ok nmX4 hown hK hP hD hS 0 rfl rfl 28 (by decide) (hts (Cond.fieldLink "NestedTagsModel" 149 "NestedTagsModel" "characters" "I") kk_3_0) (fun _ h9 => h9) rfl (by decide +kernel) rfl rfl (Nat.le_of_ble_eq_true rfl) dX4_read_98 (fun H locs hP hD hS => ?_)
    have hP : va_P D classes [(mh, .inr (4, [.ref m_te, .int 0, .ref m_re, .int 0, .int 0, .ref m_kn, .ref m_bg, .ref m_en, .ref m_dp, .int 0, .ref m_nm, .ref m_sz, .int 0, .ref m_aa, .ref m_asz, .int 0, .int 0, .int 0, .int (-1), .int 0, .int 0, .int 0, .int m_begin, .int m_name, .int m_refr, .int m_tag, .int m_tagsz, .int 0, .int (-1), .int m_brackets, .int m_matched, .long m_number, .int m_fault]))] H := hP
    have hD : va_D A [(mh, .inr (4, [.ref m_te, .int 0, .ref m_re, .int 0, .int 0, .ref m_kn, .ref m_bg, .ref m_en, .ref m_dp, .int 0, .ref m_nm, .ref m_sz, .int 0, .ref m_aa, .ref m_asz, .int 0, .int 0, .int 0, .int (-1), .int 0, .int 0, .int 0, .int m_begin, .int m_name, .int m_refr, .int m_tag, .int m_tagsz, .int 0, .int (-1), .int m_brackets, .int m_matched, .long m_number, .int m_fault]))] := hD
    refine lv_aload_n hx hb dX4_read_101 rfl (lv_at hl 1 rfl) ?_
    refine lv_iconst (v := 0) hx hb dX4_read_102 (by decide) ?_
    refine va_put (D := D) (ci := 4) (v := .int 0) (ty := .int) (C := RX4) (T := TX4) (N := 33) hx hb hts inX4 tyX4 tyX4_ok nmX4 hown hK hP hD hS 0 rfl rfl 29 (by decide) (hts (Cond.fieldLink "NestedTagsModel" 152 "NestedTagsModel" "brackets" "I") kk_3_1) (fun _ h9 => h9) rfl (by decide +kernel) rfl rfl (Nat.le_of_ble_eq_true rfl) dX4_read_103 (fun H locs hP hD hS => ?_)
    have hP : va_P D classes [(mh, .inr (4, [.ref m_te, .int 0, .ref m_re, .int 0, .int 0, .ref m_kn, .ref m_bg, .ref m_en, .ref m_dp, .int 0, .ref m_nm, .ref m_sz, .int 0, .ref m_aa, .ref m_asz, .int 0, .int 0, .int 0, .int (-1), .int 0, .int 0, .int 0, .int m_begin, .int m_name, .int m_refr, .int m_tag, .int m_tagsz, .int 0, .int (-1), .int 0, .int m_matched, .long m_number, .int m_fault]))] H := hP
    have hD : va_D A [(mh, .inr (4, [.ref m_te, .int 0, .ref m_re, .int 0, .int 0, .ref m_kn, .ref m_bg, .ref m_en, .ref m_dp, .int 0, .ref m_nm, .ref m_sz, .int 0, .ref m_aa, .ref m_asz, .int 0, .int 0, .int 0, .int (-1), .int 0, .int 0, .int 0, .int m_begin, .int m_name, .int m_refr, .int m_tag, .int m_tagsz, .int 0, .int (-1), .int 0, .int m_matched, .long m_number, .int m_fault]))] := hD
    refine lv_iconst (v := 0) hx hb dX4_read_106 (by decide) ?_
    refine lv_istore_n (lv' := [(1, .int 0), (0, .ref mh)]) hx hb dX4_read_107 rfl hl (by decide) rfl (fun ls hl => ?_)
    refine lv_aload_n hx hb dX4_read_108 rfl (lv_at hl 1 rfl) ?_
    refine va_get (D := D) (ci := 4) (v := .int 0) (C := RX4) (T := TX4) (N := 33) hx hb hts inX4 hown hK hP 0 rfl rfl 21 (by decide) (hts (Cond.fieldLink "NestedTagsModel" 59 "NestedTagsModel" "at" "I") kk_2_233) (fun _ h9 => h9) rfl dX4_read_109 ?_
    refine lv_aload_n hx hb dX4_read_112 rfl (lv_at hl 1 rfl) ?_
    refine va_get (D := D) (ci := 4) (v := .int 0) (C := RX4) (T := TX4) (N := 33) hx hb hts inX4 hown hK hP 0 rfl rfl 3 (by decide) (hts (Cond.fieldLink "NestedTagsModel" 234 "NestedTagsModel" "length" "I") kk_2_215) (fun _ h9 => h9) rfl dX4_read_113 ?_
    refine lv_icmp_ge (tgt := 161) hx hb dX4_read_116 (by decide) (fun c_116 => ?_) (fun c_116 => ?_)
    · skip
      refine lv_iload_n hx hb dX4_read_161 rfl (lv_at hl 0 rfl) ?_
      refine lv_if_ne (tgt := 207) hx hb dX4_read_162 (by decide) (fun c_162 => ?_) (fun c_162 => ?_)
      · skip
        exact absurd c_162 (by decide)
      · skip
        refine lv_aload_n hx hb dX4_read_165 rfl (lv_at hl 1 rfl) ?_
        refine va_get (D := D) (ci := 4) (v := .int 0) (C := RX4) (T := TX4) (N := 33) hx hb hts inX4 hown hK hP 0 rfl rfl 20 (by decide) (hts (Cond.fieldLink "NestedTagsModel" 56 "NestedTagsModel" "state" "I") kk_2_232) (fun _ h9 => h9) rfl dX4_read_166 ?_
        refine lv_bipush (v := 11) hx hb dX4_read_169 (by decide) ?_
        refine lv_icmp_eq (tgt := 201) hx hb dX4_read_171 (by decide) (fun c_171 => ?_) (fun c_171 => ?_)
        · skip
          exact absurd c_171 (by decide)
        · skip
          refine lv_aload_n hx hb dX4_read_174 rfl (lv_at hl 1 rfl) ?_
          refine va_get (D := D) (ci := 4) (v := .int 0) (C := RX4) (T := TX4) (N := 33) hx hb hts inX4 hown hK hP 0 rfl rfl 20 (by decide) (hts (Cond.fieldLink "NestedTagsModel" 56 "NestedTagsModel" "state" "I") kk_2_232) (fun _ h9 => h9) rfl dX4_read_175 ?_
          refine lv_bipush (v := 21) hx hb dX4_read_178 (by decide) ?_
          refine lv_icmp_eq (tgt := 201) hx hb dX4_read_180 (by decide) (fun c_180 => ?_) (fun c_180 => ?_)
          · skip
            exact absurd c_180 (by decide)
          · skip
            refine lv_aload_n hx hb dX4_read_183 rfl (lv_at hl 1 rfl) ?_
            refine va_get (D := D) (ci := 4) (v := .int 0) (C := RX4) (T := TX4) (N := 33) hx hb hts inX4 hown hK hP 0 rfl rfl 20 (by decide) (hts (Cond.fieldLink "NestedTagsModel" 56 "NestedTagsModel" "state" "I") kk_2_232) (fun _ h9 => h9) rfl dX4_read_184 ?_
            refine lv_bipush (v := 30) hx hb dX4_read_187 (by decide) ?_
            refine lv_icmp_eq (tgt := 201) hx hb dX4_read_189 (by decide) (fun c_189 => ?_) (fun c_189 => ?_)
            · skip
              exact absurd c_189 (by decide)
            · skip
              refine lv_aload_n hx hb dX4_read_192 rfl (lv_at hl 1 rfl) ?_
              refine va_get (D := D) (ci := 4) (v := .int 0) (C := RX4) (T := TX4) (N := 33) hx hb hts inX4 hown hK hP 0 rfl rfl 20 (by decide) (hts (Cond.fieldLink "NestedTagsModel" 56 "NestedTagsModel" "state" "I") kk_2_232) (fun _ h9 => h9) rfl dX4_read_193 ?_
              refine lv_bipush (v := 33) hx hb dX4_read_196 (by decide) ?_
              refine lv_icmp_ne (tgt := 207) hx hb dX4_read_198 (by decide) (fun c_198 => ?_) (fun c_198 => ?_)
              · skip
                refine lv_iload_n hx hb dX4_read_207 rfl (lv_at hl 0 rfl) ?_
                refine lv_if_ne (tgt := 231) hx hb dX4_read_208 (by decide) (fun c_208 => ?_) (fun c_208 => ?_)
                · skip
                  exact absurd c_208 (by decide)
                · skip
                  refine lv_aload_n hx hb dX4_read_211 rfl (lv_at hl 1 rfl) ?_
                  refine va_get (D := D) (ci := 4) (v := .int 0) (C := RX4) (T := TX4) (N := 33) hx hb hts inX4 hown hK hP 0 rfl rfl 19 (by decide) (hts (Cond.fieldLink "NestedTagsModel" 79 "NestedTagsModel" "phase" "I") kk_2_231) (fun _ h9 => h9) rfl dX4_read_212 ?_
                  refine lv_iconst (v := 2) hx hb dX4_read_215 (by decide) ?_
                  refine lv_icmp_ne (tgt := 226) hx hb dX4_read_216 (by decide) (fun c_216 => ?_) (fun c_216 => ?_)
                  · skip
                    refine lv_aload_n hx hb dX4_read_226 rfl (lv_at hl 1 rfl) ?_
                    refine gcall_i (va_runV (As := []) (rest := []) ⟨hx, hb, hml, hown, hts⟩ (c_X4_wrong l D cI mh m_te 0 m_re 0 0 m_kn m_bg m_en m_dp 0 m_nm m_sz 0 m_aa m_asz 0 0 0 (-1) 0 0 0 m_begin m_name m_refr m_tag m_tagsz 0 (-1) 0 m_matched m_number m_fault H.size ) (cwV 0 hts (tb_goodV kk_3_92 kk_3_94 kk_0_25 kk_1_6 kk_3_95) rfl rfl rfl (by decide +kernel) ⟨Nat.le_of_ble_eq_true rfl, Nat.le_of_ble_eq_true rfl⟩) (gpreV hK hN (hP.sub [0] rfl) (hD.sub [0] (by decide) rfl) (va_recv hK hP (ci := 4) (q0 := 0) rfl rfl)) rfl rfl hl.1 rfl (lv_room (Nat.le_of_ble_eq_true rfl)) dX4_read_227 ⟨Nat.le_of_ble_eq_true rfl, Nat.le_of_ble_eq_true rfl⟩) hP hD hS hA [0] [] (wr := []) rfl rfl (by decide) (by decide) (fun r_1 u_2 H locs hw_227 hP hD hS => ?_)
                    try dsimp only at hw_227
                    have hP : va_P D classes [(mh, .inr (4, [.ref m_te, .int 0, .ref m_re, .int 0, .int 0, .ref m_kn, .ref m_bg, .ref m_en, .ref m_dp, .int 0, .ref m_nm, .ref m_sz, .int 0, .ref m_aa, .ref m_asz, .int 0, .int 0, .int 0, .int 0, .int 0, .int 0, .int 0, .int m_begin, .int m_name, .int m_refr, .int m_tag, .int m_tagsz, .int 0, .int (-1), .int 0, .int m_matched, .long m_number, .int 2]))] H := hP
                    have hD : va_D A [(mh, .inr (4, [.ref m_te, .int 0, .ref m_re, .int 0, .int 0, .ref m_kn, .ref m_bg, .ref m_en, .ref m_dp, .int 0, .ref m_nm, .ref m_sz, .int 0, .ref m_aa, .ref m_asz, .int 0, .int 0, .int 0, .int 0, .int 0, .int 0, .int 0, .int m_begin, .int m_name, .int m_refr, .int m_tag, .int m_tagsz, .int 0, .int (-1), .int 0, .int m_matched, .long m_number, .int 2]))] := hD
                    refine lv_istore_n (lv' := [(1, .int r_1), (0, .ref mh)]) hx hb dX4_read_230 rfl hl (by decide) rfl (fun ls hl => ?_)
                    refine lv_iload_n hx hb dX4_read_231 rfl (lv_at hl 0 rfl) ?_
                    refine lv_if_ne (tgt := 242) hx hb dX4_read_232 (by decide) (fun c_232 => ?_) (fun c_232 => ?_)
                    · skip
                      refine lv_iconst (v := (-1)) hx hb dX4_read_242 (by decide) ?_
                      refine lv_aload_n hx hb dX4_read_243 rfl (lv_at hl 1 rfl) ?_
                      refine va_get (D := D) (ci := 4) (v := .int 2) (C := RX4) (T := TX4) (N := 33) hx hb hts inX4 hown hK hP 0 rfl rfl 32 (by decide) (hts (Cond.fieldLink "NestedTagsModel" 53 "NestedTagsModel" "fault" "I") kk_3_4) (fun _ h9 => h9) rfl dX4_read_244 ?_
                      refine lv_isub hx hb dX4_read_247 ?_
                      refine lv_topi (fun x_3 ex_3 => ?_)
                      have hP9 := hP.sub (ws' := [(mh, .inr (4, [.ref m_te, .int 0, .ref m_re, .int 0, .int 0, .ref m_kn, .ref m_bg, .ref m_en, .ref m_dp, .int 0, .ref m_nm, .ref m_sz, .int 0, .ref m_aa, .ref m_asz, .int 0, .int 0, .int 0, .int 0, .int 0, .int 0, .int 0, .int m_begin, .int m_name, .int m_refr, .int m_tag, .int m_tagsz, .int 0, .int (-1), .int 0, .int m_matched, .long m_number, .int 2]))]) [0] rfl
                      have hD9 := hD.sub (ws' := [(mh, .inr (4, [.ref m_te, .int 0, .ref m_re, .int 0, .int 0, .ref m_kn, .ref m_bg, .ref m_en, .ref m_dp, .int 0, .ref m_nm, .ref m_sz, .int 0, .ref m_aa, .ref m_asz, .int 0, .int 0, .int 0, .int 0, .int 0, .int 0, .int 0, .int m_begin, .int m_name, .int m_refr, .int m_tag, .int m_tagsz, .int 0, .int (-1), .int 0, .int m_matched, .long m_number, .int 2]))]) [0] (by decide) rfl
                      exact W.iret (v := x_3) hx hb hr (fun t ht hW => ⟨⟨x_3, (), rfl, (show x_3 = -3 by rw [ex_3]; decide), by rw [ht]; exact hP9, va_K.moved hW.alike hK, hD9⟩, hS.F ht⟩) hS.2.2 dX4_read_248
                    · skip
                      exact absurd (hw_227.symm.trans c_232) (by decide)
                  · skip
                    exact absurd c_216 (by decide)
              · skip
                exact absurd c_198 (by decide)
    · skip
      exact absurd c_116 (by decide)
  · skip
    exact absurd c_7 (by decide)
end
section
/-! THE CLAIM OUT OF ONE WALK OF THE LAW'S BODY. Your part is whole_start (and what it stands on); all else here is the same for every law, but numbers. -/
def R_law : String := "NestedTagsLaw"
def lw_P (b : Addr) (xs : List Int32) (args : Array Value) (s : State) : Prop := args = #[.ref b] ∧ s.IntsAt b xs ∧ xs.length ≤ 4 ∧ (Jvm.Cond.and given_1 narrow_1).before args s = true
def lw_Q (_ : Array Value) (s : State) (o : Outcome) (t : State) : Prop := o = .returned (some (.int 1)) ∧ Framed s o t [] 600000 7302250
def lw_Z (below : List Frame) (a : Array Value) (s : State) : State → Prop := fun t => ∃ o, t.status = .running ∧ Ended t below o ∧ lw_Q a s o t
/-- the law's own end, with 1 on the stack, nothing written that was there before, its room as the claim has it -/
theorem lw_ret {p : Program} {l : Launch} {e : Env} {s : State} {m : MethodId} {below : List Frame} {meth : Method} {c : Code} {b : Nat} (hx : p.tables.exec = Jvm.exec) (hb : c.code = code) (hr : meth.sig.returnType = ret) (hlocks : meth.locks = false) {pc : Nat} {H : Heap} {ls : Array Slot} (hdg : decode code pc = .ok (.ireturn, 1)) : W p l e room_1 s m #[Value.ref b] below meth c H [] 600000 7302250 (lw_Z below #[Value.ref b] s) (F0 m pc ls [.int 1]) := by
  intro T hT X
  obtain ⟨fs, hret, hrun, hended, hW, hframe⟩ := X.leave (v := some (.int 1)) (hlocks := hlocks) (fun h => by rw [hr] at h; cases h)
  have hmeth' : T.vm.method? m = some meth := X.method'
  refine ⟨T.setFrames fs, ?_, .returned (some (.int 1)), hrun, hended, rfl, ⟨_, rfl⟩, hW, hframe⟩
  jvm_step X.here [X.here.top, hx, hb, hdg, hmeth', hr, ret, narrow_b1]
  (try refine ⟨rfl, ?_⟩); (try refine ⟨rfl, ?_⟩)
  first | (intro acts; rw [hret _ acts rfl rfl rfl]) | rw [hret _ _ rfl rfl rfl]
  exact Steps.refl _
/-- what holds at the law's entry: the machine, the code, the tables' words (any of lw_tbl by 'hts w (by decide +kernel)'), the script of L ints xs at the cell b, what the Statement gives of the start (any of its parts by flat_of_before) -/
def lw_At (p : Program) (s : State) (m : MethodId) (meth : Method) (c : Code) (b L : Nat) (xs : Nat → Int32) : Prop :=
  p.tables.exec = Jvm.exec ∧ c.code = code ∧ meth.sig.returnType = ret ∧ c.maxLocals = 4 ∧ s.vm.findClass R_law = some m.cls ∧ (∀ w ∈ lw_tbl, w.before #[Value.ref b] s = true) ∧ va_X b L xs s s.heap ∧ b < s.heap.size ∧ meth.locks = false ∧ (Jvm.Cond.and given_1 narrow_1).before #[Value.ref b] s = true

set_option maxHeartbeats 4000000 in
set_option maxRecDepth 100000 in
/-- behind the one call: the law's end -/
theorem law_tail {p : Program} {l : Launch} {e : Env} {s : State} {m : MethodId} {below : List Frame} {meth : Method} {c : Code} {b L : Nat} {xs : Nat → Int32} (hL : L ≤ 4) (C0 : lw_At p s m meth c b L xs) {H : Heap} {locs : List Loc} {k n : Nat} (hk : k ≤ 600000) (hn : n ≤ 7302250)
    (hS : va_S (fun q : Nat => s.heap.size ≤ q) s.heap H locs) (x3 : Int32) (h3 : x3 = 0 ∧ L < 4 ∨ x3 = 4) (ls : Array Slot) (hl : lv_has ls 4 [(3, .int x3), (0, .ref b)]) : W p l e room_1 s m #[Value.ref b] below meth c H locs k n (lw_Z below #[Value.ref b] s) (F0 m 18 ls []) := by
  obtain ⟨hx, hb, hr, hml, hown, hts, hX, hbl, hlocks, hgv⟩ := C0
  have hbA : ¬ (fun q : Nat => s.heap.size ≤ q) b := Nat.not_le.mpr hbl
  refine lv_iload_n hx hb dL_law_18 rfl (lv_at hl 0 rfl) ?_
  refine lv_aload_n hx hb dL_law_19 rfl (lv_at hl 1 rfl) ?_
  refine va_slen hx hb hX hbl hbA hS dL_law_20 ?_
  refine lv_iconst (v := 4) hx hb dL_law_21 (by decide) ?_
  refine lv_isub hx hb dL_law_22 ?_
  refine lv_icmp_gt (tgt := 246) hx hb dL_law_23 (by decide) (fun c_23 => ?_) (fun c_23 => ?_)
  · refine lv_iconst (v := 1) hx hb dL_law_246 (by decide) ?_
    refine va_forget (fun q hq => hS.2.2 q hq) ?_
    refine W.widen (k := 600000) (n := 7302250) hk hn ?_
    exact lw_ret hx hb hr hlocks dL_law_247
  · refine absurd ?_ c_23
    have e4 : (4 : Int32).toInt = 4 := by decide
    have e0 : (0 : Int32).toInt = 0 := by decide
    show Int32.ofNat L - 4 < x3
    rw [show Int32.ofNat L - 4 = nI L - nI 4 from rfl, Int32.lt_iff_toInt_lt, pk_sub_toInt (by omega) (by omega)]
    rcases h3 with ⟨h3, h4⟩ | h3 <;> rw [h3] <;> simp only [e4, e0] <;> omega
set_option maxHeartbeats 4000000 in
set_option maxRecDepth 100000 in
theorem whole_start {p : Program} {e : Env} {s : State} {m : MethodId} {below : List Frame} {meth : Method} {c : Code} (l : Launch) {b L : Nat} {xs : Nat → Int32} (hL : L ≤ 4) (C0 : lw_At p s m meth c b L xs) : W p l e room_1 s m #[Value.ref b] below meth c s.heap [] 0 0 (lw_Z below #[Value.ref b] s) (entryFrame m ([Value.ref b] : List Value).toArray 4) := by
  obtain ⟨hx, hb, hr, hml, hown, htl, hX, hbl, hlocks, hgv⟩ := id C0
  have hts : ∀ w ∈ tbW, w.before #[Value.ref b] s = true := fun w h => htl w (tb_in h)
  have hN : nv s := nv_of htl
  have hA : ∀ q : Nat, s.heap.size ≤ q → (fun q : Nat => s.heap.size ≤ q) q := fun _ h => h
  have hbA : ¬ (fun q : Nat => s.heap.size ≤ q) b := Nat.not_le.mpr hbl
  obtain ⟨D, cI, hK⟩ := k_start hts
  have hS : va_S (fun q : Nat => s.heap.size ≤ q) s.heap s.heap [] := va_S.rf
  have hP : va_P D classes [] s.heap := fun k q h => by simp at h
  have hD : va_D (fun q : Nat => s.heap.size ≤ q) [] := ⟨fun i j p q h => by simp at h, fun k q h => by simp at h⟩
  have hl := lv_entry ([.ref b]) (n := 4) (Nat.le_of_ble_eq_true rfl)
  rw [lg_entry_eq]
  generalize (lg_sl ([.ref b]) ++ List.replicate (4 - (lg_sl ([.ref b])).length) Slot.unset).toArray = ls at hl ⊢
  have hl : lv_has ls 4 [(0, .ref b)] := hl
  refine va_new (D := D) (ci := 3) (fs := [.null, .int 0, .null, .null, .null, .null, .int 0, .int 0, .int 0, .int 0, .int 0, .int 0, .int 0, .int 0]) (C := RX3) (T := TX3) (N := 14) hx hb hts inX3 tyX3 tyX3_ok hown (hts (Cond.classLink "NestedTagsLaw" 7 "NestedTags") kk_1_11) (hts (Cond.instantiable "NestedTags" 14) kk_1_12) (hts (Cond.initialized "NestedTags") kk_1_1) hK hP hD hS hA rfl (fun j hj => by rcases (show j = 0 ∨ j = 1 ∨ j = 2 ∨ j = 3 ∨ j = 4 ∨ j = 5 ∨ j = 6 ∨ j = 7 ∨ j = 8 ∨ j = 9 ∨ j = 10 ∨ j = 11 ∨ j = 12 ∨ j = 13 by omega) with rfl | rfl | rfl | rfl | rfl | rfl | rfl | rfl | rfl | rfl | rfl | rfl | rfl | rfl <;> rfl) (Nat.le_of_ble_eq_true rfl) (Nat.le_of_ble_eq_true rfl) dL_law_0 (fun q_1 H hP hD hS => ?_)
  have hP : va_P D classes [(q_1, .inr (3, [.null, .int 0, .null, .null, .null, .null, .int 0, .int 0, .int 0, .int 0, .int 0, .int 0, .int 0, .int 0]))] H := hP
  have hD : va_D (fun q : Nat => s.heap.size ≤ q) [(q_1, .inr (3, [.null, .int 0, .null, .null, .null, .null, .int 0, .int 0, .int 0, .int 0, .int 0, .int 0, .int 0, .int 0]))] := hD
  refine W.widen (k := 1) (n := 14) (by decide) (by decide) ?_
  refine lv_dup hx hb dL_law_3 rfl ?_
  refine gcall_v (va_runI (As := []) (rest := [.ref q_1]) ⟨hx, hb, hml, hown, hts⟩ (c_X3_init l D cI q_1 H.size ) (cwI 0 hts (tb_good kk_1_15) rfl rfl rfl (hts (Cond.initialized "NestedTags") kk_1_1) (hts (Cond.methodLink "NestedTagsLaw" 9 yX3_init) kk_1_13) (hts (Cond.instanceMethod yX3_init) kk_1_14) rfl (by decide +kernel) ⟨Nat.le_of_ble_eq_true rfl, Nat.le_of_ble_eq_true rfl⟩) (gpreS hK hN (hP.sub [0] rfl) (hD.sub [0] (by decide) rfl)) rfl rfl hl.1 rfl (lv_room (Nat.le_of_ble_eq_true rfl)) dL_law_4 ⟨Nat.le_of_ble_eq_true rfl, Nat.le_of_ble_eq_true rfl⟩) hP hD hS hA [0] [] (wr := []) rfl rfl (by decide) (by decide) (fun u_3 H locs hw_4 hP hD hS => ?_)
  obtain ⟨cm_4, cu_5, b_6, pc_7, pk_8, pb_9, pe_10, pd_11, oe_12, ob_13, on_14, ta_15, tj_16, tl_17⟩ := u_3
  try dsimp only at hw_4
  have hP : va_P D classes [(q_1, .inr (3, [.ref cm_4, .int 0, .ref cu_5, .ref pc_7, .ref oe_12, .ref ta_15, .int 0, .int 0, .int 0, .int 0, .int 0, .int 0, .int 0, .int (-1)])), (cm_4, .inl (cI, 500, .inl (fun _ => 0))), (cu_5, .inr (0, [.ref b_6, .int 0, .int 0, .int 0, .int (-1)])), (b_6, .inl (cI, 500, .inl (fun _ => 0))), (pc_7, .inr (2, [.ref pk_8, .ref pb_9, .ref pe_10, .ref pd_11, .int 0, .int 0])), (pk_8, .inl (cI, 150, .inl (fun _ => 0))), (pb_9, .inl (cI, 150, .inl (fun _ => 0))), (pe_10, .inl (cI, 150, .inl (fun _ => 0))), (pd_11, .inl (cI, 150, .inl (fun _ => 0))), (oe_12, .inr (1, [.ref ob_13, .ref on_14, .int 20, .int 0])), (ob_13, .inl (cI, 20, .inl (fun _ => 0))), (on_14, .inl (cI, 20, .inl (fun _ => 0))), (ta_15, .inr (1, [.ref tj_16, .ref tl_17, .int 8, .int 0])), (tj_16, .inl (cI, 8, .inl (fun _ => 0))), (tl_17, .inl (cI, 8, .inl (fun _ => 0)))] H := hP
  have hD : va_D (fun q : Nat => s.heap.size ≤ q) [(q_1, .inr (3, [.ref cm_4, .int 0, .ref cu_5, .ref pc_7, .ref oe_12, .ref ta_15, .int 0, .int 0, .int 0, .int 0, .int 0, .int 0, .int 0, .int (-1)])), (cm_4, .inl (cI, 500, .inl (fun _ => 0))), (cu_5, .inr (0, [.ref b_6, .int 0, .int 0, .int 0, .int (-1)])), (b_6, .inl (cI, 500, .inl (fun _ => 0))), (pc_7, .inr (2, [.ref pk_8, .ref pb_9, .ref pe_10, .ref pd_11, .int 0, .int 0])), (pk_8, .inl (cI, 150, .inl (fun _ => 0))), (pb_9, .inl (cI, 150, .inl (fun _ => 0))), (pe_10, .inl (cI, 150, .inl (fun _ => 0))), (pd_11, .inl (cI, 150, .inl (fun _ => 0))), (oe_12, .inr (1, [.ref ob_13, .ref on_14, .int 20, .int 0])), (ob_13, .inl (cI, 20, .inl (fun _ => 0))), (on_14, .inl (cI, 20, .inl (fun _ => 0))), (ta_15, .inr (1, [.ref tj_16, .ref tl_17, .int 8, .int 0])), (tj_16, .inl (cI, 8, .inl (fun _ => 0))), (tl_17, .inl (cI, 8, .inl (fun _ => 0)))] := hD
  refine W.widen (k := 15) (n := 1689) (by decide) (by decide) ?_
  refine lv_astore_n (lv' := [(1, .ref q_1), (0, .ref b)]) hx hb dL_law_7 rfl hl (by decide) rfl (fun ls hl => ?_)
  refine va_new (D := D) (ci := 4) (fs := [.null, .int 0, .null, .int 0, .int 0, .null, .null, .null, .null, .int 0, .null, .null, .int 0, .null, .null, .int 0, .int 0, .int 0, .int 0, .int 0, .int 0, .int 0, .int 0, .int 0, .int 0, .int 0, .int 0, .int 0, .int 0, .int 0, .int 0, .long 0, .int 0]) (C := RX4) (T := TX4) (N := 33) hx hb hts inX4 tyX4 tyX4_ok hown (hts (Cond.classLink "NestedTagsLaw" 10 "NestedTagsModel") kk_2_206) (hts (Cond.instantiable "NestedTagsModel" 33) kk_2_207) (hts (Cond.initialized "NestedTagsModel") kk_1_6) hK hP hD hS hA rfl (fun j hj => by rcases (show j = 0 ∨ j = 1 ∨ j = 2 ∨ j = 3 ∨ j = 4 ∨ j = 5 ∨ j = 6 ∨ j = 7 ∨ j = 8 ∨ j = 9 ∨ j = 10 ∨ j = 11 ∨ j = 12 ∨ j = 13 ∨ j = 14 ∨ j = 15 ∨ j = 16 ∨ j = 17 ∨ j = 18 ∨ j = 19 ∨ j = 20 ∨ j = 21 ∨ j = 22 ∨ j = 23 ∨ j = 24 ∨ j = 25 ∨ j = 26 ∨ j = 27 ∨ j = 28 ∨ j = 29 ∨ j = 30 ∨ j = 31 ∨ j = 32 by omega) with rfl | rfl | rfl | rfl | rfl | rfl | rfl | rfl | rfl | rfl | rfl | rfl | rfl | rfl | rfl | rfl | rfl | rfl | rfl | rfl | rfl | rfl | rfl | rfl | rfl | rfl | rfl | rfl | rfl | rfl | rfl | rfl | rfl <;> rfl) (Nat.le_of_ble_eq_true rfl) (Nat.le_of_ble_eq_true rfl) dL_law_8 (fun q_18 H hP hD hS => ?_)
  have hP : va_P D classes [(q_1, .inr (3, [.ref cm_4, .int 0, .ref cu_5, .ref pc_7, .ref oe_12, .ref ta_15, .int 0, .int 0, .int 0, .int 0, .int 0, .int 0, .int 0, .int (-1)])), (cm_4, .inl (cI, 500, .inl (fun _ => 0))), (cu_5, .inr (0, [.ref b_6, .int 0, .int 0, .int 0, .int (-1)])), (b_6, .inl (cI, 500, .inl (fun _ => 0))), (pc_7, .inr (2, [.ref pk_8, .ref pb_9, .ref pe_10, .ref pd_11, .int 0, .int 0])), (pk_8, .inl (cI, 150, .inl (fun _ => 0))), (pb_9, .inl (cI, 150, .inl (fun _ => 0))), (pe_10, .inl (cI, 150, .inl (fun _ => 0))), (pd_11, .inl (cI, 150, .inl (fun _ => 0))), (oe_12, .inr (1, [.ref ob_13, .ref on_14, .int 20, .int 0])), (ob_13, .inl (cI, 20, .inl (fun _ => 0))), (on_14, .inl (cI, 20, .inl (fun _ => 0))), (ta_15, .inr (1, [.ref tj_16, .ref tl_17, .int 8, .int 0])), (tj_16, .inl (cI, 8, .inl (fun _ => 0))), (tl_17, .inl (cI, 8, .inl (fun _ => 0))), (q_18, .inr (4, [.null, .int 0, .null, .int 0, .int 0, .null, .null, .null, .null, .int 0, .null, .null, .int 0, .null, .null, .int 0, .int 0, .int 0, .int 0, .int 0, .int 0, .int 0, .int 0, .int 0, .int 0, .int 0, .int 0, .int 0, .int 0, .int 0, .int 0, .long 0, .int 0]))] H := hP
  have hD : va_D (fun q : Nat => s.heap.size ≤ q) [(q_1, .inr (3, [.ref cm_4, .int 0, .ref cu_5, .ref pc_7, .ref oe_12, .ref ta_15, .int 0, .int 0, .int 0, .int 0, .int 0, .int 0, .int 0, .int (-1)])), (cm_4, .inl (cI, 500, .inl (fun _ => 0))), (cu_5, .inr (0, [.ref b_6, .int 0, .int 0, .int 0, .int (-1)])), (b_6, .inl (cI, 500, .inl (fun _ => 0))), (pc_7, .inr (2, [.ref pk_8, .ref pb_9, .ref pe_10, .ref pd_11, .int 0, .int 0])), (pk_8, .inl (cI, 150, .inl (fun _ => 0))), (pb_9, .inl (cI, 150, .inl (fun _ => 0))), (pe_10, .inl (cI, 150, .inl (fun _ => 0))), (pd_11, .inl (cI, 150, .inl (fun _ => 0))), (oe_12, .inr (1, [.ref ob_13, .ref on_14, .int 20, .int 0])), (ob_13, .inl (cI, 20, .inl (fun _ => 0))), (on_14, .inl (cI, 20, .inl (fun _ => 0))), (ta_15, .inr (1, [.ref tj_16, .ref tl_17, .int 8, .int 0])), (tj_16, .inl (cI, 8, .inl (fun _ => 0))), (tl_17, .inl (cI, 8, .inl (fun _ => 0))), (q_18, .inr (4, [.null, .int 0, .null, .int 0, .int 0, .null, .null, .null, .null, .int 0, .null, .null, .int 0, .null, .null, .int 0, .int 0, .int 0, .int 0, .int 0, .int 0, .int 0, .int 0, .int 0, .int 0, .int 0, .int 0, .int 0, .int 0, .int 0, .int 0, .long 0, .int 0]))] := hD
  refine W.widen (k := 16) (n := 1722) (by decide) (by decide) ?_
  refine lv_dup hx hb dL_law_11 rfl ?_
  refine gcall_v (va_runI (As := []) (rest := [.ref q_18]) ⟨hx, hb, hml, hown, hts⟩ (c_X4_init l D cI q_18 H.size ) (cwI 0 hts (tb_good kk_2_210) rfl rfl rfl (hts (Cond.initialized "NestedTagsModel") kk_1_6) (hts (Cond.methodLink "NestedTagsLaw" 12 yX4_init) kk_2_208) (hts (Cond.instanceMethod yX4_init) kk_2_209) rfl (by decide +kernel) ⟨Nat.le_of_ble_eq_true rfl, Nat.le_of_ble_eq_true rfl⟩) (gpreS hK hN (hP.sub [15] rfl) (hD.sub [15] (by decide) rfl)) rfl rfl hl.1 rfl (lv_room (Nat.le_of_ble_eq_true rfl)) dL_law_12 ⟨Nat.le_of_ble_eq_true rfl, Nat.le_of_ble_eq_true rfl⟩) hP hD hS hA [15] [0, 1, 2, 3, 4, 5, 6, 7, 8, 9, 10, 11, 12, 13, 14] (wr := [(q_1, .inr (3, [.ref cm_4, .int 0, .ref cu_5, .ref pc_7, .ref oe_12, .ref ta_15, .int 0, .int 0, .int 0, .int 0, .int 0, .int 0, .int 0, .int (-1)])), (cm_4, .inl (cI, 500, .inl (fun _ => 0))), (cu_5, .inr (0, [.ref b_6, .int 0, .int 0, .int 0, .int (-1)])), (b_6, .inl (cI, 500, .inl (fun _ => 0))), (pc_7, .inr (2, [.ref pk_8, .ref pb_9, .ref pe_10, .ref pd_11, .int 0, .int 0])), (pk_8, .inl (cI, 150, .inl (fun _ => 0))), (pb_9, .inl (cI, 150, .inl (fun _ => 0))), (pe_10, .inl (cI, 150, .inl (fun _ => 0))), (pd_11, .inl (cI, 150, .inl (fun _ => 0))), (oe_12, .inr (1, [.ref ob_13, .ref on_14, .int 20, .int 0])), (ob_13, .inl (cI, 20, .inl (fun _ => 0))), (on_14, .inl (cI, 20, .inl (fun _ => 0))), (ta_15, .inr (1, [.ref tj_16, .ref tl_17, .int 8, .int 0])), (tj_16, .inl (cI, 8, .inl (fun _ => 0))), (tl_17, .inl (cI, 8, .inl (fun _ => 0)))]) rfl rfl (by decide) (by decide) (fun u_20 H locs hw_12 hP hD hS => ?_)
  obtain ⟨m_te_21, m_re_22, m_kn_23, m_bg_24, m_en_25, m_dp_26, m_nm_27, m_sz_28, m_aa_29, m_asz_30⟩ := u_20
  try dsimp only at hw_12
  have hP : va_P D classes [(q_1, .inr (3, [.ref cm_4, .int 0, .ref cu_5, .ref pc_7, .ref oe_12, .ref ta_15, .int 0, .int 0, .int 0, .int 0, .int 0, .int 0, .int 0, .int (-1)])), (cm_4, .inl (cI, 500, .inl (fun _ => 0))), (cu_5, .inr (0, [.ref b_6, .int 0, .int 0, .int 0, .int (-1)])), (b_6, .inl (cI, 500, .inl (fun _ => 0))), (pc_7, .inr (2, [.ref pk_8, .ref pb_9, .ref pe_10, .ref pd_11, .int 0, .int 0])), (pk_8, .inl (cI, 150, .inl (fun _ => 0))), (pb_9, .inl (cI, 150, .inl (fun _ => 0))), (pe_10, .inl (cI, 150, .inl (fun _ => 0))), (pd_11, .inl (cI, 150, .inl (fun _ => 0))), (oe_12, .inr (1, [.ref ob_13, .ref on_14, .int 20, .int 0])), (ob_13, .inl (cI, 20, .inl (fun _ => 0))), (on_14, .inl (cI, 20, .inl (fun _ => 0))), (ta_15, .inr (1, [.ref tj_16, .ref tl_17, .int 8, .int 0])), (tj_16, .inl (cI, 8, .inl (fun _ => 0))), (tl_17, .inl (cI, 8, .inl (fun _ => 0))), (q_18, .inr (4, [.ref m_te_21, .int 0, .ref m_re_22, .int 0, .int 0, .ref m_kn_23, .ref m_bg_24, .ref m_en_25, .ref m_dp_26, .int 0, .ref m_nm_27, .ref m_sz_28, .int 0, .ref m_aa_29, .ref m_asz_30, .int 0, .int 0, .int 0, .int (-1), .int 0, .int 0, .int 0, .int 0, .int 0, .int 0, .int 0, .int 0, .int 0, .int 0, .int 0, .int 0, .long 0, .int 0])), (m_te_21, .inl (cI, 500, .inl (fun _ => 0))), (m_re_22, .inl (cI, 500, .inl (fun _ => 0))), (m_kn_23, .inl (cI, 150, .inl (fun _ => 0))), (m_bg_24, .inl (cI, 150, .inl (fun _ => 0))), (m_en_25, .inl (cI, 150, .inl (fun _ => 0))), (m_dp_26, .inl (cI, 150, .inl (fun _ => 0))), (m_nm_27, .inl (cI, 20, .inl (fun _ => 0))), (m_sz_28, .inl (cI, 20, .inl (fun _ => 0))), (m_aa_29, .inl (cI, 8, .inl (fun _ => 0))), (m_asz_30, .inl (cI, 8, .inl (fun _ => 0)))] H := hP
  have hD : va_D (fun q : Nat => s.heap.size ≤ q) [(q_1, .inr (3, [.ref cm_4, .int 0, .ref cu_5, .ref pc_7, .ref oe_12, .ref ta_15, .int 0, .int 0, .int 0, .int 0, .int 0, .int 0, .int 0, .int (-1)])), (cm_4, .inl (cI, 500, .inl (fun _ => 0))), (cu_5, .inr (0, [.ref b_6, .int 0, .int 0, .int 0, .int (-1)])), (b_6, .inl (cI, 500, .inl (fun _ => 0))), (pc_7, .inr (2, [.ref pk_8, .ref pb_9, .ref pe_10, .ref pd_11, .int 0, .int 0])), (pk_8, .inl (cI, 150, .inl (fun _ => 0))), (pb_9, .inl (cI, 150, .inl (fun _ => 0))), (pe_10, .inl (cI, 150, .inl (fun _ => 0))), (pd_11, .inl (cI, 150, .inl (fun _ => 0))), (oe_12, .inr (1, [.ref ob_13, .ref on_14, .int 20, .int 0])), (ob_13, .inl (cI, 20, .inl (fun _ => 0))), (on_14, .inl (cI, 20, .inl (fun _ => 0))), (ta_15, .inr (1, [.ref tj_16, .ref tl_17, .int 8, .int 0])), (tj_16, .inl (cI, 8, .inl (fun _ => 0))), (tl_17, .inl (cI, 8, .inl (fun _ => 0))), (q_18, .inr (4, [.ref m_te_21, .int 0, .ref m_re_22, .int 0, .int 0, .ref m_kn_23, .ref m_bg_24, .ref m_en_25, .ref m_dp_26, .int 0, .ref m_nm_27, .ref m_sz_28, .int 0, .ref m_aa_29, .ref m_asz_30, .int 0, .int 0, .int 0, .int (-1), .int 0, .int 0, .int 0, .int 0, .int 0, .int 0, .int 0, .int 0, .int 0, .int 0, .int 0, .int 0, .long 0, .int 0])), (m_te_21, .inl (cI, 500, .inl (fun _ => 0))), (m_re_22, .inl (cI, 500, .inl (fun _ => 0))), (m_kn_23, .inl (cI, 150, .inl (fun _ => 0))), (m_bg_24, .inl (cI, 150, .inl (fun _ => 0))), (m_en_25, .inl (cI, 150, .inl (fun _ => 0))), (m_dp_26, .inl (cI, 150, .inl (fun _ => 0))), (m_nm_27, .inl (cI, 20, .inl (fun _ => 0))), (m_sz_28, .inl (cI, 20, .inl (fun _ => 0))), (m_aa_29, .inl (cI, 8, .inl (fun _ => 0))), (m_asz_30, .inl (cI, 8, .inl (fun _ => 0)))] := hD
  refine W.widen (k := 26) (n := 3378) (by decide) (by decide) ?_
  refine lv_astore_n (lv' := [(2, .ref q_18), (1, .ref q_1), (0, .ref b)]) hx hb dL_law_15 rfl hl (by decide) rfl (fun ls hl => ?_)
  refine lv_iconst (v := 0) hx hb dL_law_16 (by decide) ?_
  refine lv_istore_n (lv' := [(3, .int 0), (2, .ref q_18), (1, .ref q_1), (0, .ref b)]) hx hb dL_law_17 rfl hl (by decide) rfl (fun ls hl => ?_)
  by_cases h4 : L < 4
  · exact law_tail (by omega) C0 (by decide) (by decide) hS 0 (Or.inl ⟨rfl, h4⟩) ls (lv_sub hl [0, 3] rfl)
  obtain rfl : L = 4 := by omega
  refine lv_iload_n hx hb dL_law_18 rfl (lv_at hl 0 rfl) ?_
  refine lv_aload_n hx hb dL_law_19 rfl (lv_at hl 3 rfl) ?_
  refine va_slen hx hb hX hbl hbA hS dL_law_20 ?_
  refine lv_iconst (v := 4) hx hb dL_law_21 (by decide) ?_
  refine lv_isub hx hb dL_law_22 ?_
  refine lv_topi (fun x_31 ex_31 => ?_)
  refine lv_icmp_gt (tgt := 246) hx hb dL_law_23 (by decide) (fun c_23 => ?_) (fun c_23 => ?_)
  · skip
    exact absurd c_23 (by rw [ex_31]; decide)
  · skip
    refine lv_aload_n hx hb dL_law_26 rfl (lv_at hl 3 rfl) ?_
    refine lv_iload_n hx hb dL_law_27 rfl (lv_at hl 0 rfl) ?_
    refine va_sld hx hb hX hbl hbA hS (show ¬ ((0 : Int32) < 0 ∨ 4 ≤ (0 : Int32).toNatClampNeg) by decide) dL_law_28 ?_
    refine lv_topi (fun x_32 ex_32 => ?_)
    obtain rfl : x_32 = xs 0 := by rw [ex_32]; rfl
    refine lv_bipush (v := 7) hx hb dL_law_29 (by decide) ?_
    refine lv_iand hx hb dL_law_31 ?_
    refine lv_topi (fun x_33 ex_33 => ?_)
    by_cases s_32_0 : x_33 = 0
    · refine lv_tableIn (off := 40) (tgt := 72) hx hb dL_law_32 (by rw [s_32_0]; decide) (by rw [s_32_0]; decide) (by rw [s_32_0]; decide) (by decide) ?_
      by_cases hyes : ∃ j : Nat, j < 8 ∧ xs 3 = nI (j + 1)
      · obtain ⟨j, hj, ej⟩ := hyes
        refine lv_aload_n hx hb dL_law_72 rfl (lv_at hl 2 rfl) ?_
        refine lv_aload_n hx hb dL_law_73 rfl (lv_at hl 3 rfl) ?_
        refine lv_iload_n hx hb dL_law_74 rfl (lv_at hl 0 rfl) ?_
        refine lv_iconst (v := 1) hx hb dL_law_75 (by decide) ?_
        refine lv_iadd hx hb dL_law_76 ?_
        refine lv_topi (fun x_34 ex_34 => ?_)
        obtain rfl : x_34 = 1 := by rw [ex_34]; decide
        refine va_sld hx hb hX hbl hbA hS (show ¬ ((1 : Int32) < 0 ∨ 4 ≤ (1 : Int32).toNatClampNeg) by decide) dL_law_77 ?_
        refine lv_topi (fun x_35 ex_35 => ?_)
        obtain rfl : x_35 = xs 1 := by rw [ex_35]; rfl
        refine lv_i2l hx hb dL_law_78 rfl ?_
        refine lv_topl (fun y_36 ey_36 => ?_)
        refine lv_bipush (v := 32) hx hb dL_law_79 (by decide) ?_
        refine lv_lshl hx hb dL_law_81 rfl ?_
        refine lv_topl (fun y_37 ey_37 => ?_)
        refine lv_aload_n hx hb dL_law_82 rfl (lv_at hl 3 rfl) ?_
        refine lv_iload_n hx hb dL_law_83 rfl (lv_at hl 0 rfl) ?_
        refine lv_iconst (v := 2) hx hb dL_law_84 (by decide) ?_
        refine lv_iadd hx hb dL_law_85 ?_
        refine lv_topi (fun x_38 ex_38 => ?_)
        obtain rfl : x_38 = 2 := by rw [ex_38]; decide
        refine va_sld hx hb hX hbl hbA hS (show ¬ ((2 : Int32) < 0 ∨ 4 ≤ (2 : Int32).toNatClampNeg) by decide) dL_law_86 ?_
        refine lv_topi (fun x_39 ex_39 => ?_)
        obtain rfl : x_39 = xs 2 := by rw [ex_39]; rfl
        refine lv_i2l hx hb dL_law_87 rfl ?_
        refine lv_topl (fun y_40 ey_40 => ?_)
        refine lv_ldc2 hx hb hown (hts (Cond.constantLong "NestedTagsLaw" 13 4294967295) kk_3_239) dL_law_88 ?_
        refine lv_land hx hb dL_law_91 ?_
        refine lv_topl (fun y_41 ey_41 => ?_)
        refine lv_lor hx hb dL_law_92 ?_
        refine lv_topl (fun y_42 ey_42 => ?_)
        refine lv_aload_n hx hb dL_law_93 rfl (lv_at hl 3 rfl) ?_
        refine lv_iload_n hx hb dL_law_94 rfl (lv_at hl 0 rfl) ?_
        refine lv_iconst (v := 3) hx hb dL_law_95 (by decide) ?_
        refine lv_iadd hx hb dL_law_96 ?_
        refine lv_topi (fun x_43 ex_43 => ?_)
        obtain rfl : x_43 = 3 := by rw [ex_43]; decide
        refine va_sld hx hb hX hbl hbA hS (show ¬ ((3 : Int32) < 0 ∨ 4 ≤ (3 : Int32).toNatClampNeg) by decide) dL_law_97 ?_
        refine lv_topi (fun x_44 ex_44 => ?_)
        obtain rfl : x_44 = xs 3 := by rw [ex_44]; rfl
        refine gcall_i (va_runV (As := [.long y_42, .int (xs 3)]) (rest := []) ⟨hx, hb, hml, hown, hts⟩ (c_X3_put_yes l D cI q_1 cm_4 cu_5 pc_7 oe_12 ta_15 0 0 0 0 0 0 0 (-1) 0 (fun _ => 0) j H.size y_42 (xs 3) ej hj (by omega)) (cwV 2 hts (tb_goodV kk_1_139 kk_1_140 kk_1_141 kk_1_1 kk_1_142) rfl rfl rfl (by decide +kernel) ⟨Nat.le_of_ble_eq_true rfl, Nat.le_of_ble_eq_true rfl⟩) (gpreV hK hN (hP.sub [0, 1] rfl) (hD.sub [0, 1] (by decide) rfl) (va_recv hK hP (ci := 3) (q0 := 0) rfl rfl)) rfl rfl hl.1 rfl (lv_room (Nat.le_of_ble_eq_true rfl)) dL_law_98 ⟨Nat.le_of_ble_eq_true rfl, Nat.le_of_ble_eq_true rfl⟩) hP hD hS hA [0, 1] [2, 3, 4, 5, 6, 7, 8, 9, 10, 11, 12, 13, 14, 15, 16, 17, 18, 19, 20, 21, 22, 23, 24, 25] (wr := [(cu_5, .inr (0, [.ref b_6, .int 0, .int 0, .int 0, .int (-1)])), (b_6, .inl (cI, 500, .inl (fun _ => 0))), (pc_7, .inr (2, [.ref pk_8, .ref pb_9, .ref pe_10, .ref pd_11, .int 0, .int 0])), (pk_8, .inl (cI, 150, .inl (fun _ => 0))), (pb_9, .inl (cI, 150, .inl (fun _ => 0))), (pe_10, .inl (cI, 150, .inl (fun _ => 0))), (pd_11, .inl (cI, 150, .inl (fun _ => 0))), (oe_12, .inr (1, [.ref ob_13, .ref on_14, .int 20, .int 0])), (ob_13, .inl (cI, 20, .inl (fun _ => 0))), (on_14, .inl (cI, 20, .inl (fun _ => 0))), (ta_15, .inr (1, [.ref tj_16, .ref tl_17, .int 8, .int 0])), (tj_16, .inl (cI, 8, .inl (fun _ => 0))), (tl_17, .inl (cI, 8, .inl (fun _ => 0))), (q_18, .inr (4, [.ref m_te_21, .int 0, .ref m_re_22, .int 0, .int 0, .ref m_kn_23, .ref m_bg_24, .ref m_en_25, .ref m_dp_26, .int 0, .ref m_nm_27, .ref m_sz_28, .int 0, .ref m_aa_29, .ref m_asz_30, .int 0, .int 0, .int 0, .int (-1), .int 0, .int 0, .int 0, .int 0, .int 0, .int 0, .int 0, .int 0, .int 0, .int 0, .int 0, .int 0, .long 0, .int 0])), (m_te_21, .inl (cI, 500, .inl (fun _ => 0))), (m_re_22, .inl (cI, 500, .inl (fun _ => 0))), (m_kn_23, .inl (cI, 150, .inl (fun _ => 0))), (m_bg_24, .inl (cI, 150, .inl (fun _ => 0))), (m_en_25, .inl (cI, 150, .inl (fun _ => 0))), (m_dp_26, .inl (cI, 150, .inl (fun _ => 0))), (m_nm_27, .inl (cI, 20, .inl (fun _ => 0))), (m_sz_28, .inl (cI, 20, .inl (fun _ => 0))), (m_aa_29, .inl (cI, 8, .inl (fun _ => 0))), (m_asz_30, .inl (cI, 8, .inl (fun _ => 0)))]) rfl rfl (by decide) (by decide) (fun r_45 u_46 H locs hw_98 hP hD hS => ?_)
        obtain ⟨c_47, f_48⟩ := u_46
        try dsimp only at hw_98
        have hP : va_P D classes [(cu_5, .inr (0, [.ref b_6, .int 0, .int 0, .int 0, .int (-1)])), (b_6, .inl (cI, 500, .inl (fun _ => 0))), (pc_7, .inr (2, [.ref pk_8, .ref pb_9, .ref pe_10, .ref pd_11, .int 0, .int 0])), (pk_8, .inl (cI, 150, .inl (fun _ => 0))), (pb_9, .inl (cI, 150, .inl (fun _ => 0))), (pe_10, .inl (cI, 150, .inl (fun _ => 0))), (pd_11, .inl (cI, 150, .inl (fun _ => 0))), (oe_12, .inr (1, [.ref ob_13, .ref on_14, .int 20, .int 0])), (ob_13, .inl (cI, 20, .inl (fun _ => 0))), (on_14, .inl (cI, 20, .inl (fun _ => 0))), (ta_15, .inr (1, [.ref tj_16, .ref tl_17, .int 8, .int 0])), (tj_16, .inl (cI, 8, .inl (fun _ => 0))), (tl_17, .inl (cI, 8, .inl (fun _ => 0))), (q_18, .inr (4, [.ref m_te_21, .int 0, .ref m_re_22, .int 0, .int 0, .ref m_kn_23, .ref m_bg_24, .ref m_en_25, .ref m_dp_26, .int 0, .ref m_nm_27, .ref m_sz_28, .int 0, .ref m_aa_29, .ref m_asz_30, .int 0, .int 0, .int 0, .int (-1), .int 0, .int 0, .int 0, .int 0, .int 0, .int 0, .int 0, .int 0, .int 0, .int 0, .int 0, .int 0, .long 0, .int 0])), (m_te_21, .inl (cI, 500, .inl (fun _ => 0))), (m_re_22, .inl (cI, 500, .inl (fun _ => 0))), (m_kn_23, .inl (cI, 150, .inl (fun _ => 0))), (m_bg_24, .inl (cI, 150, .inl (fun _ => 0))), (m_en_25, .inl (cI, 150, .inl (fun _ => 0))), (m_dp_26, .inl (cI, 150, .inl (fun _ => 0))), (m_nm_27, .inl (cI, 20, .inl (fun _ => 0))), (m_sz_28, .inl (cI, 20, .inl (fun _ => 0))), (m_aa_29, .inl (cI, 8, .inl (fun _ => 0))), (m_asz_30, .inl (cI, 8, .inl (fun _ => 0))), (q_1, .inr (3, [.ref cm_4, .int c_47, .ref cu_5, .ref pc_7, .ref oe_12, .ref ta_15, .int 0, .int 0, .int 0, .int 0, .int 0, .int 0, .int 0, .int (-1)])), (cm_4, .inl (cI, 500, .inl f_48))] H := hP
        have hD : va_D (fun q : Nat => s.heap.size ≤ q) [(cu_5, .inr (0, [.ref b_6, .int 0, .int 0, .int 0, .int (-1)])), (b_6, .inl (cI, 500, .inl (fun _ => 0))), (pc_7, .inr (2, [.ref pk_8, .ref pb_9, .ref pe_10, .ref pd_11, .int 0, .int 0])), (pk_8, .inl (cI, 150, .inl (fun _ => 0))), (pb_9, .inl (cI, 150, .inl (fun _ => 0))), (pe_10, .inl (cI, 150, .inl (fun _ => 0))), (pd_11, .inl (cI, 150, .inl (fun _ => 0))), (oe_12, .inr (1, [.ref ob_13, .ref on_14, .int 20, .int 0])), (ob_13, .inl (cI, 20, .inl (fun _ => 0))), (on_14, .inl (cI, 20, .inl (fun _ => 0))), (ta_15, .inr (1, [.ref tj_16, .ref tl_17, .int 8, .int 0])), (tj_16, .inl (cI, 8, .inl (fun _ => 0))), (tl_17, .inl (cI, 8, .inl (fun _ => 0))), (q_18, .inr (4, [.ref m_te_21, .int 0, .ref m_re_22, .int 0, .int 0, .ref m_kn_23, .ref m_bg_24, .ref m_en_25, .ref m_dp_26, .int 0, .ref m_nm_27, .ref m_sz_28, .int 0, .ref m_aa_29, .ref m_asz_30, .int 0, .int 0, .int 0, .int (-1), .int 0, .int 0, .int 0, .int 0, .int 0, .int 0, .int 0, .int 0, .int 0, .int 0, .int 0, .int 0, .long 0, .int 0])), (m_te_21, .inl (cI, 500, .inl (fun _ => 0))), (m_re_22, .inl (cI, 500, .inl (fun _ => 0))), (m_kn_23, .inl (cI, 150, .inl (fun _ => 0))), (m_bg_24, .inl (cI, 150, .inl (fun _ => 0))), (m_en_25, .inl (cI, 150, .inl (fun _ => 0))), (m_dp_26, .inl (cI, 150, .inl (fun _ => 0))), (m_nm_27, .inl (cI, 20, .inl (fun _ => 0))), (m_sz_28, .inl (cI, 20, .inl (fun _ => 0))), (m_aa_29, .inl (cI, 8, .inl (fun _ => 0))), (m_asz_30, .inl (cI, 8, .inl (fun _ => 0))), (q_1, .inr (3, [.ref cm_4, .int c_47, .ref cu_5, .ref pc_7, .ref oe_12, .ref ta_15, .int 0, .int 0, .int 0, .int 0, .int 0, .int 0, .int 0, .int (-1)])), (cm_4, .inl (cI, 500, .inl f_48))] := hD
        refine lv_aload_n hx hb dL_law_101 rfl (lv_at hl 1 rfl) ?_
        refine lv_aload_n hx hb dL_law_102 rfl (lv_at hl 3 rfl) ?_
        refine lv_iload_n hx hb dL_law_103 rfl (lv_at hl 0 rfl) ?_
        refine lv_iconst (v := 1) hx hb dL_law_104 (by decide) ?_
        refine lv_iadd hx hb dL_law_105 ?_
        refine lv_topi (fun x_49 ex_49 => ?_)
        obtain rfl : x_49 = 1 := by rw [ex_49]; decide
        refine va_sld hx hb hX hbl hbA hS (show ¬ ((1 : Int32) < 0 ∨ 4 ≤ (1 : Int32).toNatClampNeg) by decide) dL_law_106 ?_
        refine lv_topi (fun x_50 ex_50 => ?_)
        obtain rfl : x_50 = xs 1 := by rw [ex_50]; rfl
        refine lv_i2l hx hb dL_law_107 rfl ?_
        refine lv_topl (fun y_51 ey_51 => ?_)
        refine lv_bipush (v := 32) hx hb dL_law_108 (by decide) ?_
        refine lv_lshl hx hb dL_law_110 rfl ?_
        refine lv_topl (fun y_52 ey_52 => ?_)
        refine lv_aload_n hx hb dL_law_111 rfl (lv_at hl 3 rfl) ?_
        refine lv_iload_n hx hb dL_law_112 rfl (lv_at hl 0 rfl) ?_
        refine lv_iconst (v := 2) hx hb dL_law_113 (by decide) ?_
        refine lv_iadd hx hb dL_law_114 ?_
        refine lv_topi (fun x_53 ex_53 => ?_)
        obtain rfl : x_53 = 2 := by rw [ex_53]; decide
        refine va_sld hx hb hX hbl hbA hS (show ¬ ((2 : Int32) < 0 ∨ 4 ≤ (2 : Int32).toNatClampNeg) by decide) dL_law_115 ?_
        refine lv_topi (fun x_54 ex_54 => ?_)
        obtain rfl : x_54 = xs 2 := by rw [ex_54]; rfl
        refine lv_i2l hx hb dL_law_116 rfl ?_
        refine lv_topl (fun y_55 ey_55 => ?_)
        refine lv_ldc2 hx hb hown (hts (Cond.constantLong "NestedTagsLaw" 13 4294967295) kk_3_239) dL_law_117 ?_
        refine lv_land hx hb dL_law_120 ?_
        refine lv_topl (fun y_56 ey_56 => ?_)
        refine lv_lor hx hb dL_law_121 ?_
        refine lv_topl (fun y_57 ey_57 => ?_)
        refine lv_aload_n hx hb dL_law_122 rfl (lv_at hl 3 rfl) ?_
        refine lv_iload_n hx hb dL_law_123 rfl (lv_at hl 0 rfl) ?_
        refine lv_iconst (v := 3) hx hb dL_law_124 (by decide) ?_
        refine lv_iadd hx hb dL_law_125 ?_
        refine lv_topi (fun x_58 ex_58 => ?_)
        obtain rfl : x_58 = 3 := by rw [ex_58]; decide
        refine va_sld hx hb hX hbl hbA hS (show ¬ ((3 : Int32) < 0 ∨ 4 ≤ (3 : Int32).toNatClampNeg) by decide) dL_law_126 ?_
        refine lv_topi (fun x_59 ex_59 => ?_)
        obtain rfl : x_59 = xs 3 := by rw [ex_59]; rfl
        refine gcall_i (va_runV (As := [.long y_57, .int (xs 3)]) (rest := [.int r_45]) ⟨hx, hb, hml, hown, hts⟩ (c_X4_put_yes l D cI q_18 m_te_21 m_re_22 0 0 m_kn_23 m_bg_24 m_en_25 m_dp_26 0 m_nm_27 m_sz_28 0 m_aa_29 m_asz_30 0 0 0 (-1) 0 0 0 0 0 0 0 0 0 0 0 0 0 0 0 (fun _ => 0) j H.size y_57 (xs 3) ej hj (by omega)) (cwV 2 hts (tb_goodV kk_3_72 kk_3_73 kk_3_74 kk_1_6 kk_3_75) rfl rfl rfl (by decide +kernel) ⟨Nat.le_of_ble_eq_true rfl, Nat.le_of_ble_eq_true rfl⟩) (gpreV hK hN (hP.sub [13, 14] rfl) (hD.sub [13, 14] (by decide) rfl) (va_recv hK hP (ci := 4) (q0 := 13) rfl rfl)) rfl rfl hl.1 rfl (lv_room (Nat.le_of_ble_eq_true rfl)) dL_law_127 ⟨Nat.le_of_ble_eq_true rfl, Nat.le_of_ble_eq_true rfl⟩) hP hD hS hA [13, 14] [0, 1, 2, 3, 4, 5, 6, 7, 8, 9, 10, 11, 12, 15, 16, 17, 18, 19, 20, 21, 22, 23, 24, 25] (wr := [(cu_5, .inr (0, [.ref b_6, .int 0, .int 0, .int 0, .int (-1)])), (b_6, .inl (cI, 500, .inl (fun _ => 0))), (pc_7, .inr (2, [.ref pk_8, .ref pb_9, .ref pe_10, .ref pd_11, .int 0, .int 0])), (pk_8, .inl (cI, 150, .inl (fun _ => 0))), (pb_9, .inl (cI, 150, .inl (fun _ => 0))), (pe_10, .inl (cI, 150, .inl (fun _ => 0))), (pd_11, .inl (cI, 150, .inl (fun _ => 0))), (oe_12, .inr (1, [.ref ob_13, .ref on_14, .int 20, .int 0])), (ob_13, .inl (cI, 20, .inl (fun _ => 0))), (on_14, .inl (cI, 20, .inl (fun _ => 0))), (ta_15, .inr (1, [.ref tj_16, .ref tl_17, .int 8, .int 0])), (tj_16, .inl (cI, 8, .inl (fun _ => 0))), (tl_17, .inl (cI, 8, .inl (fun _ => 0))), (m_re_22, .inl (cI, 500, .inl (fun _ => 0))), (m_kn_23, .inl (cI, 150, .inl (fun _ => 0))), (m_bg_24, .inl (cI, 150, .inl (fun _ => 0))), (m_en_25, .inl (cI, 150, .inl (fun _ => 0))), (m_dp_26, .inl (cI, 150, .inl (fun _ => 0))), (m_nm_27, .inl (cI, 20, .inl (fun _ => 0))), (m_sz_28, .inl (cI, 20, .inl (fun _ => 0))), (m_aa_29, .inl (cI, 8, .inl (fun _ => 0))), (m_asz_30, .inl (cI, 8, .inl (fun _ => 0))), (q_1, .inr (3, [.ref cm_4, .int c_47, .ref cu_5, .ref pc_7, .ref oe_12, .ref ta_15, .int 0, .int 0, .int 0, .int 0, .int 0, .int 0, .int 0, .int (-1)])), (cm_4, .inl (cI, 500, .inl f_48))]) rfl rfl (by decide) (by decide) (fun r_60 u_61 H locs hw_127 hP hD hS => ?_)
        obtain ⟨c_62, f_63⟩ := u_61
        try dsimp only at hw_127
        have hP : va_P D classes [(cu_5, .inr (0, [.ref b_6, .int 0, .int 0, .int 0, .int (-1)])), (b_6, .inl (cI, 500, .inl (fun _ => 0))), (pc_7, .inr (2, [.ref pk_8, .ref pb_9, .ref pe_10, .ref pd_11, .int 0, .int 0])), (pk_8, .inl (cI, 150, .inl (fun _ => 0))), (pb_9, .inl (cI, 150, .inl (fun _ => 0))), (pe_10, .inl (cI, 150, .inl (fun _ => 0))), (pd_11, .inl (cI, 150, .inl (fun _ => 0))), (oe_12, .inr (1, [.ref ob_13, .ref on_14, .int 20, .int 0])), (ob_13, .inl (cI, 20, .inl (fun _ => 0))), (on_14, .inl (cI, 20, .inl (fun _ => 0))), (ta_15, .inr (1, [.ref tj_16, .ref tl_17, .int 8, .int 0])), (tj_16, .inl (cI, 8, .inl (fun _ => 0))), (tl_17, .inl (cI, 8, .inl (fun _ => 0))), (m_re_22, .inl (cI, 500, .inl (fun _ => 0))), (m_kn_23, .inl (cI, 150, .inl (fun _ => 0))), (m_bg_24, .inl (cI, 150, .inl (fun _ => 0))), (m_en_25, .inl (cI, 150, .inl (fun _ => 0))), (m_dp_26, .inl (cI, 150, .inl (fun _ => 0))), (m_nm_27, .inl (cI, 20, .inl (fun _ => 0))), (m_sz_28, .inl (cI, 20, .inl (fun _ => 0))), (m_aa_29, .inl (cI, 8, .inl (fun _ => 0))), (m_asz_30, .inl (cI, 8, .inl (fun _ => 0))), (q_1, .inr (3, [.ref cm_4, .int c_47, .ref cu_5, .ref pc_7, .ref oe_12, .ref ta_15, .int 0, .int 0, .int 0, .int 0, .int 0, .int 0, .int 0, .int (-1)])), (cm_4, .inl (cI, 500, .inl f_48)), (q_18, .inr (4, [.ref m_te_21, .int c_62, .ref m_re_22, .int 0, .int 0, .ref m_kn_23, .ref m_bg_24, .ref m_en_25, .ref m_dp_26, .int 0, .ref m_nm_27, .ref m_sz_28, .int 0, .ref m_aa_29, .ref m_asz_30, .int 0, .int 0, .int 0, .int (-1), .int 0, .int 0, .int 0, .int 0, .int 0, .int 0, .int 0, .int 0, .int 0, .int 0, .int 0, .int 0, .long 0, .int 0])), (m_te_21, .inl (cI, 500, .inl f_63))] H := hP
        have hD : va_D (fun q : Nat => s.heap.size ≤ q) [(cu_5, .inr (0, [.ref b_6, .int 0, .int 0, .int 0, .int (-1)])), (b_6, .inl (cI, 500, .inl (fun _ => 0))), (pc_7, .inr (2, [.ref pk_8, .ref pb_9, .ref pe_10, .ref pd_11, .int 0, .int 0])), (pk_8, .inl (cI, 150, .inl (fun _ => 0))), (pb_9, .inl (cI, 150, .inl (fun _ => 0))), (pe_10, .inl (cI, 150, .inl (fun _ => 0))), (pd_11, .inl (cI, 150, .inl (fun _ => 0))), (oe_12, .inr (1, [.ref ob_13, .ref on_14, .int 20, .int 0])), (ob_13, .inl (cI, 20, .inl (fun _ => 0))), (on_14, .inl (cI, 20, .inl (fun _ => 0))), (ta_15, .inr (1, [.ref tj_16, .ref tl_17, .int 8, .int 0])), (tj_16, .inl (cI, 8, .inl (fun _ => 0))), (tl_17, .inl (cI, 8, .inl (fun _ => 0))), (m_re_22, .inl (cI, 500, .inl (fun _ => 0))), (m_kn_23, .inl (cI, 150, .inl (fun _ => 0))), (m_bg_24, .inl (cI, 150, .inl (fun _ => 0))), (m_en_25, .inl (cI, 150, .inl (fun _ => 0))), (m_dp_26, .inl (cI, 150, .inl (fun _ => 0))), (m_nm_27, .inl (cI, 20, .inl (fun _ => 0))), (m_sz_28, .inl (cI, 20, .inl (fun _ => 0))), (m_aa_29, .inl (cI, 8, .inl (fun _ => 0))), (m_asz_30, .inl (cI, 8, .inl (fun _ => 0))), (q_1, .inr (3, [.ref cm_4, .int c_47, .ref cu_5, .ref pc_7, .ref oe_12, .ref ta_15, .int 0, .int 0, .int 0, .int 0, .int 0, .int 0, .int 0, .int (-1)])), (cm_4, .inl (cI, 500, .inl f_48)), (q_18, .inr (4, [.ref m_te_21, .int c_62, .ref m_re_22, .int 0, .int 0, .ref m_kn_23, .ref m_bg_24, .ref m_en_25, .ref m_dp_26, .int 0, .ref m_nm_27, .ref m_sz_28, .int 0, .ref m_aa_29, .ref m_asz_30, .int 0, .int 0, .int 0, .int (-1), .int 0, .int 0, .int 0, .int 0, .int 0, .int 0, .int 0, .int 0, .int 0, .int 0, .int 0, .int 0, .long 0, .int 0])), (m_te_21, .inl (cI, 500, .inl f_63))] := hD
        refine lv_icmp_eq (tgt := 240) hx hb dL_law_130 (by decide) (fun c_130 => ?_) (fun c_130 => ?_)
        · skip
          obtain ⟨x_64, ex_64⟩ : ∃ y : Int32, y = 0 + 4 := ⟨_, rfl⟩
          refine lv_iinc (v := x_64) (lv' := [(3, .int x_64), (2, .ref q_18), (1, .ref q_1), (0, .ref b)]) hx hb dL_law_240 hl (k := 0) rfl (by rw [ex_64]; rfl) (by decide) rfl (fun ls hl => ?_)
          refine lv_goto (tgt := 18) hx hb dL_law_243 (by decide) ?_
          exact law_tail (Nat.le_refl 4) C0 (by decide) (by decide) hS x_64 (Or.inr (by rw [ex_64]; decide)) ls (lv_sub hl [0, 3] rfl)
        · skip
          exact absurd (by first | rw [hw_98.1, hw_127.1] | rw [hw_98, hw_127]) c_130
      · skip
        refine lv_aload_n hx hb dL_law_72 rfl (lv_at hl 2 rfl) ?_
        refine lv_aload_n hx hb dL_law_73 rfl (lv_at hl 3 rfl) ?_
        refine lv_iload_n hx hb dL_law_74 rfl (lv_at hl 0 rfl) ?_
        refine lv_iconst (v := 1) hx hb dL_law_75 (by decide) ?_
        refine lv_iadd hx hb dL_law_76 ?_
        refine lv_topi (fun x_65 ex_65 => ?_)
        obtain rfl : x_65 = 1 := by rw [ex_65]; decide
        refine va_sld hx hb hX hbl hbA hS (show ¬ ((1 : Int32) < 0 ∨ 4 ≤ (1 : Int32).toNatClampNeg) by decide) dL_law_77 ?_
        refine lv_topi (fun x_66 ex_66 => ?_)
        obtain rfl : x_66 = xs 1 := by rw [ex_66]; rfl
        refine lv_i2l hx hb dL_law_78 rfl ?_
        refine lv_topl (fun y_67 ey_67 => ?_)
        refine lv_bipush (v := 32) hx hb dL_law_79 (by decide) ?_
        refine lv_lshl hx hb dL_law_81 rfl ?_
        refine lv_topl (fun y_68 ey_68 => ?_)
        refine lv_aload_n hx hb dL_law_82 rfl (lv_at hl 3 rfl) ?_
        refine lv_iload_n hx hb dL_law_83 rfl (lv_at hl 0 rfl) ?_
        refine lv_iconst (v := 2) hx hb dL_law_84 (by decide) ?_
        refine lv_iadd hx hb dL_law_85 ?_
        refine lv_topi (fun x_69 ex_69 => ?_)
        obtain rfl : x_69 = 2 := by rw [ex_69]; decide
        refine va_sld hx hb hX hbl hbA hS (show ¬ ((2 : Int32) < 0 ∨ 4 ≤ (2 : Int32).toNatClampNeg) by decide) dL_law_86 ?_
        refine lv_topi (fun x_70 ex_70 => ?_)
        obtain rfl : x_70 = xs 2 := by rw [ex_70]; rfl
        refine lv_i2l hx hb dL_law_87 rfl ?_
        refine lv_topl (fun y_71 ey_71 => ?_)
        refine lv_ldc2 hx hb hown (hts (Cond.constantLong "NestedTagsLaw" 13 4294967295) kk_3_239) dL_law_88 ?_
        refine lv_land hx hb dL_law_91 ?_
        refine lv_topl (fun y_72 ey_72 => ?_)
        refine lv_lor hx hb dL_law_92 ?_
        refine lv_topl (fun y_73 ey_73 => ?_)
        refine lv_aload_n hx hb dL_law_93 rfl (lv_at hl 3 rfl) ?_
        refine lv_iload_n hx hb dL_law_94 rfl (lv_at hl 0 rfl) ?_
        refine lv_iconst (v := 3) hx hb dL_law_95 (by decide) ?_
        refine lv_iadd hx hb dL_law_96 ?_
        refine lv_topi (fun x_74 ex_74 => ?_)
        obtain rfl : x_74 = 3 := by rw [ex_74]; decide
        refine va_sld hx hb hX hbl hbA hS (show ¬ ((3 : Int32) < 0 ∨ 4 ≤ (3 : Int32).toNatClampNeg) by decide) dL_law_97 ?_
        refine lv_topi (fun x_75 ex_75 => ?_)
        obtain rfl : x_75 = xs 3 := by rw [ex_75]; rfl
        refine gcall_i (va_runV (As := [.long y_73, .int (xs 3)]) (rest := []) ⟨hx, hb, hml, hown, hts⟩ (c_X3_put_no l D cI q_1 cm_4 cu_5 pc_7 oe_12 ta_15 0 0 0 0 0 0 0 (-1) 0 (fun _ => 0) H.size y_73 (xs 3) (by omega) (fun j hj ej => absurd ⟨j, hj, ej⟩ hyes)) (cwV 2 hts (tb_goodV kk_1_139 kk_1_140 kk_1_141 kk_1_1 kk_1_142) rfl rfl rfl (by decide +kernel) ⟨Nat.le_of_ble_eq_true rfl, Nat.le_of_ble_eq_true rfl⟩) (gpreV hK hN (hP.sub [0, 1] rfl) (hD.sub [0, 1] (by decide) rfl) (va_recv hK hP (ci := 3) (q0 := 0) rfl rfl)) rfl rfl hl.1 rfl (lv_room (Nat.le_of_ble_eq_true rfl)) dL_law_98 ⟨Nat.le_of_ble_eq_true rfl, Nat.le_of_ble_eq_true rfl⟩) hP hD hS hA [0, 1] [2, 3, 4, 5, 6, 7, 8, 9, 10, 11, 12, 13, 14, 15, 16, 17, 18, 19, 20, 21, 22, 23, 24, 25] (wr := [(cu_5, .inr (0, [.ref b_6, .int 0, .int 0, .int 0, .int (-1)])), (b_6, .inl (cI, 500, .inl (fun _ => 0))), (pc_7, .inr (2, [.ref pk_8, .ref pb_9, .ref pe_10, .ref pd_11, .int 0, .int 0])), (pk_8, .inl (cI, 150, .inl (fun _ => 0))), (pb_9, .inl (cI, 150, .inl (fun _ => 0))), (pe_10, .inl (cI, 150, .inl (fun _ => 0))), (pd_11, .inl (cI, 150, .inl (fun _ => 0))), (oe_12, .inr (1, [.ref ob_13, .ref on_14, .int 20, .int 0])), (ob_13, .inl (cI, 20, .inl (fun _ => 0))), (on_14, .inl (cI, 20, .inl (fun _ => 0))), (ta_15, .inr (1, [.ref tj_16, .ref tl_17, .int 8, .int 0])), (tj_16, .inl (cI, 8, .inl (fun _ => 0))), (tl_17, .inl (cI, 8, .inl (fun _ => 0))), (q_18, .inr (4, [.ref m_te_21, .int 0, .ref m_re_22, .int 0, .int 0, .ref m_kn_23, .ref m_bg_24, .ref m_en_25, .ref m_dp_26, .int 0, .ref m_nm_27, .ref m_sz_28, .int 0, .ref m_aa_29, .ref m_asz_30, .int 0, .int 0, .int 0, .int (-1), .int 0, .int 0, .int 0, .int 0, .int 0, .int 0, .int 0, .int 0, .int 0, .int 0, .int 0, .int 0, .long 0, .int 0])), (m_te_21, .inl (cI, 500, .inl (fun _ => 0))), (m_re_22, .inl (cI, 500, .inl (fun _ => 0))), (m_kn_23, .inl (cI, 150, .inl (fun _ => 0))), (m_bg_24, .inl (cI, 150, .inl (fun _ => 0))), (m_en_25, .inl (cI, 150, .inl (fun _ => 0))), (m_dp_26, .inl (cI, 150, .inl (fun _ => 0))), (m_nm_27, .inl (cI, 20, .inl (fun _ => 0))), (m_sz_28, .inl (cI, 20, .inl (fun _ => 0))), (m_aa_29, .inl (cI, 8, .inl (fun _ => 0))), (m_asz_30, .inl (cI, 8, .inl (fun _ => 0)))]) rfl rfl (by decide) (by decide) (fun r_76 u_77 H locs hw_98 hP hD hS => ?_)
        try dsimp only at hw_98
        have hP : va_P D classes [(cu_5, .inr (0, [.ref b_6, .int 0, .int 0, .int 0, .int (-1)])), (b_6, .inl (cI, 500, .inl (fun _ => 0))), (pc_7, .inr (2, [.ref pk_8, .ref pb_9, .ref pe_10, .ref pd_11, .int 0, .int 0])), (pk_8, .inl (cI, 150, .inl (fun _ => 0))), (pb_9, .inl (cI, 150, .inl (fun _ => 0))), (pe_10, .inl (cI, 150, .inl (fun _ => 0))), (pd_11, .inl (cI, 150, .inl (fun _ => 0))), (oe_12, .inr (1, [.ref ob_13, .ref on_14, .int 20, .int 0])), (ob_13, .inl (cI, 20, .inl (fun _ => 0))), (on_14, .inl (cI, 20, .inl (fun _ => 0))), (ta_15, .inr (1, [.ref tj_16, .ref tl_17, .int 8, .int 0])), (tj_16, .inl (cI, 8, .inl (fun _ => 0))), (tl_17, .inl (cI, 8, .inl (fun _ => 0))), (q_18, .inr (4, [.ref m_te_21, .int 0, .ref m_re_22, .int 0, .int 0, .ref m_kn_23, .ref m_bg_24, .ref m_en_25, .ref m_dp_26, .int 0, .ref m_nm_27, .ref m_sz_28, .int 0, .ref m_aa_29, .ref m_asz_30, .int 0, .int 0, .int 0, .int (-1), .int 0, .int 0, .int 0, .int 0, .int 0, .int 0, .int 0, .int 0, .int 0, .int 0, .int 0, .int 0, .long 0, .int 0])), (m_te_21, .inl (cI, 500, .inl (fun _ => 0))), (m_re_22, .inl (cI, 500, .inl (fun _ => 0))), (m_kn_23, .inl (cI, 150, .inl (fun _ => 0))), (m_bg_24, .inl (cI, 150, .inl (fun _ => 0))), (m_en_25, .inl (cI, 150, .inl (fun _ => 0))), (m_dp_26, .inl (cI, 150, .inl (fun _ => 0))), (m_nm_27, .inl (cI, 20, .inl (fun _ => 0))), (m_sz_28, .inl (cI, 20, .inl (fun _ => 0))), (m_aa_29, .inl (cI, 8, .inl (fun _ => 0))), (m_asz_30, .inl (cI, 8, .inl (fun _ => 0))), (q_1, .inr (3, [.ref cm_4, .int (nI 0), .ref cu_5, .ref pc_7, .ref oe_12, .ref ta_15, .int 0, .int 0, .int 0, .int 0, .int 0, .int 0, .int 0, .int (-1)])), (cm_4, .inl (cI, 500, .inl (fun _ => 0)))] H := hP
        have hD : va_D (fun q : Nat => s.heap.size ≤ q) [(cu_5, .inr (0, [.ref b_6, .int 0, .int 0, .int 0, .int (-1)])), (b_6, .inl (cI, 500, .inl (fun _ => 0))), (pc_7, .inr (2, [.ref pk_8, .ref pb_9, .ref pe_10, .ref pd_11, .int 0, .int 0])), (pk_8, .inl (cI, 150, .inl (fun _ => 0))), (pb_9, .inl (cI, 150, .inl (fun _ => 0))), (pe_10, .inl (cI, 150, .inl (fun _ => 0))), (pd_11, .inl (cI, 150, .inl (fun _ => 0))), (oe_12, .inr (1, [.ref ob_13, .ref on_14, .int 20, .int 0])), (ob_13, .inl (cI, 20, .inl (fun _ => 0))), (on_14, .inl (cI, 20, .inl (fun _ => 0))), (ta_15, .inr (1, [.ref tj_16, .ref tl_17, .int 8, .int 0])), (tj_16, .inl (cI, 8, .inl (fun _ => 0))), (tl_17, .inl (cI, 8, .inl (fun _ => 0))), (q_18, .inr (4, [.ref m_te_21, .int 0, .ref m_re_22, .int 0, .int 0, .ref m_kn_23, .ref m_bg_24, .ref m_en_25, .ref m_dp_26, .int 0, .ref m_nm_27, .ref m_sz_28, .int 0, .ref m_aa_29, .ref m_asz_30, .int 0, .int 0, .int 0, .int (-1), .int 0, .int 0, .int 0, .int 0, .int 0, .int 0, .int 0, .int 0, .int 0, .int 0, .int 0, .int 0, .long 0, .int 0])), (m_te_21, .inl (cI, 500, .inl (fun _ => 0))), (m_re_22, .inl (cI, 500, .inl (fun _ => 0))), (m_kn_23, .inl (cI, 150, .inl (fun _ => 0))), (m_bg_24, .inl (cI, 150, .inl (fun _ => 0))), (m_en_25, .inl (cI, 150, .inl (fun _ => 0))), (m_dp_26, .inl (cI, 150, .inl (fun _ => 0))), (m_nm_27, .inl (cI, 20, .inl (fun _ => 0))), (m_sz_28, .inl (cI, 20, .inl (fun _ => 0))), (m_aa_29, .inl (cI, 8, .inl (fun _ => 0))), (m_asz_30, .inl (cI, 8, .inl (fun _ => 0))), (q_1, .inr (3, [.ref cm_4, .int (nI 0), .ref cu_5, .ref pc_7, .ref oe_12, .ref ta_15, .int 0, .int 0, .int 0, .int 0, .int 0, .int 0, .int 0, .int (-1)])), (cm_4, .inl (cI, 500, .inl (fun _ => 0)))] := hD
        refine lv_aload_n hx hb dL_law_101 rfl (lv_at hl 1 rfl) ?_
        refine lv_aload_n hx hb dL_law_102 rfl (lv_at hl 3 rfl) ?_
        refine lv_iload_n hx hb dL_law_103 rfl (lv_at hl 0 rfl) ?_
        refine lv_iconst (v := 1) hx hb dL_law_104 (by decide) ?_
        refine lv_iadd hx hb dL_law_105 ?_
        refine lv_topi (fun x_78 ex_78 => ?_)
        obtain rfl : x_78 = 1 := by rw [ex_78]; decide
        refine va_sld hx hb hX hbl hbA hS (show ¬ ((1 : Int32) < 0 ∨ 4 ≤ (1 : Int32).toNatClampNeg) by decide) dL_law_106 ?_
        refine lv_topi (fun x_79 ex_79 => ?_)
        obtain rfl : x_79 = xs 1 := by rw [ex_79]; rfl
        refine lv_i2l hx hb dL_law_107 rfl ?_
        refine lv_topl (fun y_80 ey_80 => ?_)
        refine lv_bipush (v := 32) hx hb dL_law_108 (by decide) ?_
        refine lv_lshl hx hb dL_law_110 rfl ?_
        refine lv_topl (fun y_81 ey_81 => ?_)
        refine lv_aload_n hx hb dL_law_111 rfl (lv_at hl 3 rfl) ?_
        refine lv_iload_n hx hb dL_law_112 rfl (lv_at hl 0 rfl) ?_
        refine lv_iconst (v := 2) hx hb dL_law_113 (by decide) ?_
        refine lv_iadd hx hb dL_law_114 ?_
        refine lv_topi (fun x_82 ex_82 => ?_)
        obtain rfl : x_82 = 2 := by rw [ex_82]; decide
        refine va_sld hx hb hX hbl hbA hS (show ¬ ((2 : Int32) < 0 ∨ 4 ≤ (2 : Int32).toNatClampNeg) by decide) dL_law_115 ?_
        refine lv_topi (fun x_83 ex_83 => ?_)
        obtain rfl : x_83 = xs 2 := by rw [ex_83]; rfl
        refine lv_i2l hx hb dL_law_116 rfl ?_
        refine lv_topl (fun y_84 ey_84 => ?_)
        refine lv_ldc2 hx hb hown (hts (Cond.constantLong "NestedTagsLaw" 13 4294967295) kk_3_239) dL_law_117 ?_
        refine lv_land hx hb dL_law_120 ?_
        refine lv_topl (fun y_85 ey_85 => ?_)
        refine lv_lor hx hb dL_law_121 ?_
        refine lv_topl (fun y_86 ey_86 => ?_)
        refine lv_aload_n hx hb dL_law_122 rfl (lv_at hl 3 rfl) ?_
        refine lv_iload_n hx hb dL_law_123 rfl (lv_at hl 0 rfl) ?_
        refine lv_iconst (v := 3) hx hb dL_law_124 (by decide) ?_
        refine lv_iadd hx hb dL_law_125 ?_
        refine lv_topi (fun x_87 ex_87 => ?_)
        obtain rfl : x_87 = 3 := by rw [ex_87]; decide
        refine va_sld hx hb hX hbl hbA hS (show ¬ ((3 : Int32) < 0 ∨ 4 ≤ (3 : Int32).toNatClampNeg) by decide) dL_law_126 ?_
        refine lv_topi (fun x_88 ex_88 => ?_)
        obtain rfl : x_88 = xs 3 := by rw [ex_88]; rfl
        refine gcall_i (va_runV (As := [.long y_86, .int (xs 3)]) (rest := [.int r_76]) ⟨hx, hb, hml, hown, hts⟩ (c_X4_put_no l D cI q_18 m_te_21 m_re_22 0 0 m_kn_23 m_bg_24 m_en_25 m_dp_26 0 m_nm_27 m_sz_28 0 m_aa_29 m_asz_30 0 0 0 (-1) 0 0 0 0 0 0 0 0 0 0 0 0 0 0 0 (fun _ => 0) H.size y_86 (xs 3) (by omega) (fun j hj ej => absurd ⟨j, hj, ej⟩ hyes)) (cwV 2 hts (tb_goodV kk_3_72 kk_3_73 kk_3_74 kk_1_6 kk_3_75) rfl rfl rfl (by decide +kernel) ⟨Nat.le_of_ble_eq_true rfl, Nat.le_of_ble_eq_true rfl⟩) (gpreV hK hN (hP.sub [13, 14] rfl) (hD.sub [13, 14] (by decide) rfl) (va_recv hK hP (ci := 4) (q0 := 13) rfl rfl)) rfl rfl hl.1 rfl (lv_room (Nat.le_of_ble_eq_true rfl)) dL_law_127 ⟨Nat.le_of_ble_eq_true rfl, Nat.le_of_ble_eq_true rfl⟩) hP hD hS hA [13, 14] [0, 1, 2, 3, 4, 5, 6, 7, 8, 9, 10, 11, 12, 15, 16, 17, 18, 19, 20, 21, 22, 23, 24, 25] (wr := [(cu_5, .inr (0, [.ref b_6, .int 0, .int 0, .int 0, .int (-1)])), (b_6, .inl (cI, 500, .inl (fun _ => 0))), (pc_7, .inr (2, [.ref pk_8, .ref pb_9, .ref pe_10, .ref pd_11, .int 0, .int 0])), (pk_8, .inl (cI, 150, .inl (fun _ => 0))), (pb_9, .inl (cI, 150, .inl (fun _ => 0))), (pe_10, .inl (cI, 150, .inl (fun _ => 0))), (pd_11, .inl (cI, 150, .inl (fun _ => 0))), (oe_12, .inr (1, [.ref ob_13, .ref on_14, .int 20, .int 0])), (ob_13, .inl (cI, 20, .inl (fun _ => 0))), (on_14, .inl (cI, 20, .inl (fun _ => 0))), (ta_15, .inr (1, [.ref tj_16, .ref tl_17, .int 8, .int 0])), (tj_16, .inl (cI, 8, .inl (fun _ => 0))), (tl_17, .inl (cI, 8, .inl (fun _ => 0))), (m_re_22, .inl (cI, 500, .inl (fun _ => 0))), (m_kn_23, .inl (cI, 150, .inl (fun _ => 0))), (m_bg_24, .inl (cI, 150, .inl (fun _ => 0))), (m_en_25, .inl (cI, 150, .inl (fun _ => 0))), (m_dp_26, .inl (cI, 150, .inl (fun _ => 0))), (m_nm_27, .inl (cI, 20, .inl (fun _ => 0))), (m_sz_28, .inl (cI, 20, .inl (fun _ => 0))), (m_aa_29, .inl (cI, 8, .inl (fun _ => 0))), (m_asz_30, .inl (cI, 8, .inl (fun _ => 0))), (q_1, .inr (3, [.ref cm_4, .int (nI 0), .ref cu_5, .ref pc_7, .ref oe_12, .ref ta_15, .int 0, .int 0, .int 0, .int 0, .int 0, .int 0, .int 0, .int (-1)])), (cm_4, .inl (cI, 500, .inl (fun _ => 0)))]) rfl rfl (by decide) (by decide) (fun r_89 u_90 H locs hw_127 hP hD hS => ?_)
        try dsimp only at hw_127
        have hP : va_P D classes [(cu_5, .inr (0, [.ref b_6, .int 0, .int 0, .int 0, .int (-1)])), (b_6, .inl (cI, 500, .inl (fun _ => 0))), (pc_7, .inr (2, [.ref pk_8, .ref pb_9, .ref pe_10, .ref pd_11, .int 0, .int 0])), (pk_8, .inl (cI, 150, .inl (fun _ => 0))), (pb_9, .inl (cI, 150, .inl (fun _ => 0))), (pe_10, .inl (cI, 150, .inl (fun _ => 0))), (pd_11, .inl (cI, 150, .inl (fun _ => 0))), (oe_12, .inr (1, [.ref ob_13, .ref on_14, .int 20, .int 0])), (ob_13, .inl (cI, 20, .inl (fun _ => 0))), (on_14, .inl (cI, 20, .inl (fun _ => 0))), (ta_15, .inr (1, [.ref tj_16, .ref tl_17, .int 8, .int 0])), (tj_16, .inl (cI, 8, .inl (fun _ => 0))), (tl_17, .inl (cI, 8, .inl (fun _ => 0))), (m_re_22, .inl (cI, 500, .inl (fun _ => 0))), (m_kn_23, .inl (cI, 150, .inl (fun _ => 0))), (m_bg_24, .inl (cI, 150, .inl (fun _ => 0))), (m_en_25, .inl (cI, 150, .inl (fun _ => 0))), (m_dp_26, .inl (cI, 150, .inl (fun _ => 0))), (m_nm_27, .inl (cI, 20, .inl (fun _ => 0))), (m_sz_28, .inl (cI, 20, .inl (fun _ => 0))), (m_aa_29, .inl (cI, 8, .inl (fun _ => 0))), (m_asz_30, .inl (cI, 8, .inl (fun _ => 0))), (q_1, .inr (3, [.ref cm_4, .int (nI 0), .ref cu_5, .ref pc_7, .ref oe_12, .ref ta_15, .int 0, .int 0, .int 0, .int 0, .int 0, .int 0, .int 0, .int (-1)])), (cm_4, .inl (cI, 500, .inl (fun _ => 0))), (q_18, .inr (4, [.ref m_te_21, .int (nI 0), .ref m_re_22, .int 0, .int 0, .ref m_kn_23, .ref m_bg_24, .ref m_en_25, .ref m_dp_26, .int 0, .ref m_nm_27, .ref m_sz_28, .int 0, .ref m_aa_29, .ref m_asz_30, .int 0, .int 0, .int 0, .int (-1), .int 0, .int 0, .int 0, .int 0, .int 0, .int 0, .int 0, .int 0, .int 0, .int 0, .int 0, .int 0, .long 0, .int 0])), (m_te_21, .inl (cI, 500, .inl (fun _ => 0)))] H := hP
        have hD : va_D (fun q : Nat => s.heap.size ≤ q) [(cu_5, .inr (0, [.ref b_6, .int 0, .int 0, .int 0, .int (-1)])), (b_6, .inl (cI, 500, .inl (fun _ => 0))), (pc_7, .inr (2, [.ref pk_8, .ref pb_9, .ref pe_10, .ref pd_11, .int 0, .int 0])), (pk_8, .inl (cI, 150, .inl (fun _ => 0))), (pb_9, .inl (cI, 150, .inl (fun _ => 0))), (pe_10, .inl (cI, 150, .inl (fun _ => 0))), (pd_11, .inl (cI, 150, .inl (fun _ => 0))), (oe_12, .inr (1, [.ref ob_13, .ref on_14, .int 20, .int 0])), (ob_13, .inl (cI, 20, .inl (fun _ => 0))), (on_14, .inl (cI, 20, .inl (fun _ => 0))), (ta_15, .inr (1, [.ref tj_16, .ref tl_17, .int 8, .int 0])), (tj_16, .inl (cI, 8, .inl (fun _ => 0))), (tl_17, .inl (cI, 8, .inl (fun _ => 0))), (m_re_22, .inl (cI, 500, .inl (fun _ => 0))), (m_kn_23, .inl (cI, 150, .inl (fun _ => 0))), (m_bg_24, .inl (cI, 150, .inl (fun _ => 0))), (m_en_25, .inl (cI, 150, .inl (fun _ => 0))), (m_dp_26, .inl (cI, 150, .inl (fun _ => 0))), (m_nm_27, .inl (cI, 20, .inl (fun _ => 0))), (m_sz_28, .inl (cI, 20, .inl (fun _ => 0))), (m_aa_29, .inl (cI, 8, .inl (fun _ => 0))), (m_asz_30, .inl (cI, 8, .inl (fun _ => 0))), (q_1, .inr (3, [.ref cm_4, .int (nI 0), .ref cu_5, .ref pc_7, .ref oe_12, .ref ta_15, .int 0, .int 0, .int 0, .int 0, .int 0, .int 0, .int 0, .int (-1)])), (cm_4, .inl (cI, 500, .inl (fun _ => 0))), (q_18, .inr (4, [.ref m_te_21, .int (nI 0), .ref m_re_22, .int 0, .int 0, .ref m_kn_23, .ref m_bg_24, .ref m_en_25, .ref m_dp_26, .int 0, .ref m_nm_27, .ref m_sz_28, .int 0, .ref m_aa_29, .ref m_asz_30, .int 0, .int 0, .int 0, .int (-1), .int 0, .int 0, .int 0, .int 0, .int 0, .int 0, .int 0, .int 0, .int 0, .int 0, .int 0, .int 0, .long 0, .int 0])), (m_te_21, .inl (cI, 500, .inl (fun _ => 0)))] := hD
        refine lv_icmp_eq (tgt := 240) hx hb dL_law_130 (by decide) (fun c_130 => ?_) (fun c_130 => ?_)
        · skip
          obtain ⟨x_91, ex_91⟩ : ∃ y : Int32, y = 0 + 4 := ⟨_, rfl⟩
          refine lv_iinc (v := x_91) (lv' := [(3, .int x_91), (2, .ref q_18), (1, .ref q_1), (0, .ref b)]) hx hb dL_law_240 hl (k := 0) rfl (by rw [ex_91]; rfl) (by decide) rfl (fun ls hl => ?_)
          refine lv_goto (tgt := 18) hx hb dL_law_243 (by decide) ?_
          exact law_tail (Nat.le_refl 4) C0 (by decide) (by decide) hS x_91 (Or.inr (by rw [ex_91]; decide)) ls (lv_sub hl [0, 3] rfl)
        · skip
          exact absurd (by first | rw [hw_98.1, hw_127.1] | rw [hw_98, hw_127]) c_130
    by_cases s_32_1 : x_33 = 1
    · refine lv_tableIn (off := 103) (tgt := 135) hx hb dL_law_32 (by rw [s_32_1]; decide) (by rw [s_32_1]; decide) (by rw [s_32_1]; decide) (by decide) ?_
      refine lv_aload_n hx hb dL_law_135 rfl (lv_at hl 2 rfl) ?_
      refine gcall_i (va_runV (As := []) (rest := []) ⟨hx, hb, hml, hown, hts⟩ (c_X3_read_0 l D cI q_1 cm_4 cu_5 pc_7 oe_12 ta_15 0 0 0 0 0 0 0 (-1) b_6 0 0 0 (-1) pk_8 pb_9 pe_10 pd_11 0 0 ob_13 on_14 0 tj_16 tl_17 0 H.size ) (cwV 0 hts (tb_goodV kk_1_143 kk_1_144 kk_1_145 kk_1_1 kk_1_146) rfl rfl rfl (by decide +kernel) ⟨Nat.le_of_ble_eq_true rfl, Nat.le_of_ble_eq_true rfl⟩) (gpreV hK hN (hP.sub [0, 2, 4, 9, 12] rfl) (hD.sub [0, 2, 4, 9, 12] (by decide) rfl) (va_recv hK hP (ci := 3) (q0 := 0) rfl rfl)) rfl rfl hl.1 rfl (lv_room (Nat.le_of_ble_eq_true rfl)) dL_law_136 ⟨Nat.le_of_ble_eq_true rfl, Nat.le_of_ble_eq_true rfl⟩) hP hD hS hA [0, 2, 4, 9, 12] [1, 3, 5, 6, 7, 8, 10, 11, 13, 14, 15, 16, 17, 18, 19, 20, 21, 22, 23, 24, 25] (wr := [(cm_4, .inl (cI, 500, .inl (fun _ => 0))), (b_6, .inl (cI, 500, .inl (fun _ => 0))), (pk_8, .inl (cI, 150, .inl (fun _ => 0))), (pb_9, .inl (cI, 150, .inl (fun _ => 0))), (pe_10, .inl (cI, 150, .inl (fun _ => 0))), (pd_11, .inl (cI, 150, .inl (fun _ => 0))), (ob_13, .inl (cI, 20, .inl (fun _ => 0))), (on_14, .inl (cI, 20, .inl (fun _ => 0))), (tj_16, .inl (cI, 8, .inl (fun _ => 0))), (tl_17, .inl (cI, 8, .inl (fun _ => 0))), (q_18, .inr (4, [.ref m_te_21, .int 0, .ref m_re_22, .int 0, .int 0, .ref m_kn_23, .ref m_bg_24, .ref m_en_25, .ref m_dp_26, .int 0, .ref m_nm_27, .ref m_sz_28, .int 0, .ref m_aa_29, .ref m_asz_30, .int 0, .int 0, .int 0, .int (-1), .int 0, .int 0, .int 0, .int 0, .int 0, .int 0, .int 0, .int 0, .int 0, .int 0, .int 0, .int 0, .long 0, .int 0])), (m_te_21, .inl (cI, 500, .inl (fun _ => 0))), (m_re_22, .inl (cI, 500, .inl (fun _ => 0))), (m_kn_23, .inl (cI, 150, .inl (fun _ => 0))), (m_bg_24, .inl (cI, 150, .inl (fun _ => 0))), (m_en_25, .inl (cI, 150, .inl (fun _ => 0))), (m_dp_26, .inl (cI, 150, .inl (fun _ => 0))), (m_nm_27, .inl (cI, 20, .inl (fun _ => 0))), (m_sz_28, .inl (cI, 20, .inl (fun _ => 0))), (m_aa_29, .inl (cI, 8, .inl (fun _ => 0))), (m_asz_30, .inl (cI, 8, .inl (fun _ => 0)))]) rfl rfl (by decide) (by decide) (fun r_92 u_93 H locs hw_136 hP hD hS => ?_)
      obtain ⟨fa_94, fp_95⟩ := u_93
      try dsimp only at hw_136
      have hP : va_P D classes [(cm_4, .inl (cI, 500, .inl (fun _ => 0))), (b_6, .inl (cI, 500, .inl (fun _ => 0))), (pk_8, .inl (cI, 150, .inl (fun _ => 0))), (pb_9, .inl (cI, 150, .inl (fun _ => 0))), (pe_10, .inl (cI, 150, .inl (fun _ => 0))), (pd_11, .inl (cI, 150, .inl (fun _ => 0))), (ob_13, .inl (cI, 20, .inl (fun _ => 0))), (on_14, .inl (cI, 20, .inl (fun _ => 0))), (tj_16, .inl (cI, 8, .inl (fun _ => 0))), (tl_17, .inl (cI, 8, .inl (fun _ => 0))), (q_18, .inr (4, [.ref m_te_21, .int 0, .ref m_re_22, .int 0, .int 0, .ref m_kn_23, .ref m_bg_24, .ref m_en_25, .ref m_dp_26, .int 0, .ref m_nm_27, .ref m_sz_28, .int 0, .ref m_aa_29, .ref m_asz_30, .int 0, .int 0, .int 0, .int (-1), .int 0, .int 0, .int 0, .int 0, .int 0, .int 0, .int 0, .int 0, .int 0, .int 0, .int 0, .int 0, .long 0, .int 0])), (m_te_21, .inl (cI, 500, .inl (fun _ => 0))), (m_re_22, .inl (cI, 500, .inl (fun _ => 0))), (m_kn_23, .inl (cI, 150, .inl (fun _ => 0))), (m_bg_24, .inl (cI, 150, .inl (fun _ => 0))), (m_en_25, .inl (cI, 150, .inl (fun _ => 0))), (m_dp_26, .inl (cI, 150, .inl (fun _ => 0))), (m_nm_27, .inl (cI, 20, .inl (fun _ => 0))), (m_sz_28, .inl (cI, 20, .inl (fun _ => 0))), (m_aa_29, .inl (cI, 8, .inl (fun _ => 0))), (m_asz_30, .inl (cI, 8, .inl (fun _ => 0))), (q_1, .inr (3, [.ref b_6, .int 0, .ref cu_5, .ref pc_7, .ref oe_12, .ref ta_15, .int 0, .int 0, .int 0, .int 0, .int 0, .int 0, .int 0, .int (-1)])), (cu_5, .inr (0, [.ref cm_4, .int 0, .int 0, .int fa_94, .int fp_95])), (pc_7, .inr (2, [.ref pk_8, .ref pb_9, .ref pe_10, .ref pd_11, .int 0, .int 0])), (oe_12, .inr (1, [.ref ob_13, .ref on_14, .int 20, .int 0])), (ta_15, .inr (1, [.ref tj_16, .ref tl_17, .int 8, .int 0]))] H := hP
      have hD : va_D (fun q : Nat => s.heap.size ≤ q) [(cm_4, .inl (cI, 500, .inl (fun _ => 0))), (b_6, .inl (cI, 500, .inl (fun _ => 0))), (pk_8, .inl (cI, 150, .inl (fun _ => 0))), (pb_9, .inl (cI, 150, .inl (fun _ => 0))), (pe_10, .inl (cI, 150, .inl (fun _ => 0))), (pd_11, .inl (cI, 150, .inl (fun _ => 0))), (ob_13, .inl (cI, 20, .inl (fun _ => 0))), (on_14, .inl (cI, 20, .inl (fun _ => 0))), (tj_16, .inl (cI, 8, .inl (fun _ => 0))), (tl_17, .inl (cI, 8, .inl (fun _ => 0))), (q_18, .inr (4, [.ref m_te_21, .int 0, .ref m_re_22, .int 0, .int 0, .ref m_kn_23, .ref m_bg_24, .ref m_en_25, .ref m_dp_26, .int 0, .ref m_nm_27, .ref m_sz_28, .int 0, .ref m_aa_29, .ref m_asz_30, .int 0, .int 0, .int 0, .int (-1), .int 0, .int 0, .int 0, .int 0, .int 0, .int 0, .int 0, .int 0, .int 0, .int 0, .int 0, .int 0, .long 0, .int 0])), (m_te_21, .inl (cI, 500, .inl (fun _ => 0))), (m_re_22, .inl (cI, 500, .inl (fun _ => 0))), (m_kn_23, .inl (cI, 150, .inl (fun _ => 0))), (m_bg_24, .inl (cI, 150, .inl (fun _ => 0))), (m_en_25, .inl (cI, 150, .inl (fun _ => 0))), (m_dp_26, .inl (cI, 150, .inl (fun _ => 0))), (m_nm_27, .inl (cI, 20, .inl (fun _ => 0))), (m_sz_28, .inl (cI, 20, .inl (fun _ => 0))), (m_aa_29, .inl (cI, 8, .inl (fun _ => 0))), (m_asz_30, .inl (cI, 8, .inl (fun _ => 0))), (q_1, .inr (3, [.ref b_6, .int 0, .ref cu_5, .ref pc_7, .ref oe_12, .ref ta_15, .int 0, .int 0, .int 0, .int 0, .int 0, .int 0, .int 0, .int (-1)])), (cu_5, .inr (0, [.ref cm_4, .int 0, .int 0, .int fa_94, .int fp_95])), (pc_7, .inr (2, [.ref pk_8, .ref pb_9, .ref pe_10, .ref pd_11, .int 0, .int 0])), (oe_12, .inr (1, [.ref ob_13, .ref on_14, .int 20, .int 0])), (ta_15, .inr (1, [.ref tj_16, .ref tl_17, .int 8, .int 0]))] := hD
      refine lv_aload_n hx hb dL_law_139 rfl (lv_at hl 1 rfl) ?_
      refine gcall_i (va_runV (As := []) (rest := [.int r_92]) ⟨hx, hb, hml, hown, hts⟩ (c_X4_read_0 l D cI q_18 m_te_21 m_re_22 0 0 m_kn_23 m_bg_24 m_en_25 m_dp_26 0 m_nm_27 m_sz_28 0 m_aa_29 m_asz_30 0 0 0 (-1) 0 0 0 0 0 0 0 0 0 0 0 0 0 0 H.size ) (cwV 0 hts (tb_goodV kk_3_77 kk_3_78 kk_3_79 kk_1_6 kk_3_80) rfl rfl rfl (by decide +kernel) ⟨Nat.le_of_ble_eq_true rfl, Nat.le_of_ble_eq_true rfl⟩) (gpreV hK hN (hP.sub [10] rfl) (hD.sub [10] (by decide) rfl) (va_recv hK hP (ci := 4) (q0 := 10) rfl rfl)) rfl rfl hl.1 rfl (lv_room (Nat.le_of_ble_eq_true rfl)) dL_law_140 ⟨Nat.le_of_ble_eq_true rfl, Nat.le_of_ble_eq_true rfl⟩) hP hD hS hA [10] [0, 1, 2, 3, 4, 5, 6, 7, 8, 9, 11, 12, 13, 14, 15, 16, 17, 18, 19, 20, 21, 22, 23, 24, 25] (wr := [(cm_4, .inl (cI, 500, .inl (fun _ => 0))), (b_6, .inl (cI, 500, .inl (fun _ => 0))), (pk_8, .inl (cI, 150, .inl (fun _ => 0))), (pb_9, .inl (cI, 150, .inl (fun _ => 0))), (pe_10, .inl (cI, 150, .inl (fun _ => 0))), (pd_11, .inl (cI, 150, .inl (fun _ => 0))), (ob_13, .inl (cI, 20, .inl (fun _ => 0))), (on_14, .inl (cI, 20, .inl (fun _ => 0))), (tj_16, .inl (cI, 8, .inl (fun _ => 0))), (tl_17, .inl (cI, 8, .inl (fun _ => 0))), (m_te_21, .inl (cI, 500, .inl (fun _ => 0))), (m_re_22, .inl (cI, 500, .inl (fun _ => 0))), (m_kn_23, .inl (cI, 150, .inl (fun _ => 0))), (m_bg_24, .inl (cI, 150, .inl (fun _ => 0))), (m_en_25, .inl (cI, 150, .inl (fun _ => 0))), (m_dp_26, .inl (cI, 150, .inl (fun _ => 0))), (m_nm_27, .inl (cI, 20, .inl (fun _ => 0))), (m_sz_28, .inl (cI, 20, .inl (fun _ => 0))), (m_aa_29, .inl (cI, 8, .inl (fun _ => 0))), (m_asz_30, .inl (cI, 8, .inl (fun _ => 0))), (q_1, .inr (3, [.ref b_6, .int 0, .ref cu_5, .ref pc_7, .ref oe_12, .ref ta_15, .int 0, .int 0, .int 0, .int 0, .int 0, .int 0, .int 0, .int (-1)])), (cu_5, .inr (0, [.ref cm_4, .int 0, .int 0, .int fa_94, .int fp_95])), (pc_7, .inr (2, [.ref pk_8, .ref pb_9, .ref pe_10, .ref pd_11, .int 0, .int 0])), (oe_12, .inr (1, [.ref ob_13, .ref on_14, .int 20, .int 0])), (ta_15, .inr (1, [.ref tj_16, .ref tl_17, .int 8, .int 0]))]) rfl rfl (by decide) (by decide) (fun r_96 u_97 H locs hw_140 hP hD hS => ?_)
      try dsimp only at hw_140
      have hP : va_P D classes [(cm_4, .inl (cI, 500, .inl (fun _ => 0))), (b_6, .inl (cI, 500, .inl (fun _ => 0))), (pk_8, .inl (cI, 150, .inl (fun _ => 0))), (pb_9, .inl (cI, 150, .inl (fun _ => 0))), (pe_10, .inl (cI, 150, .inl (fun _ => 0))), (pd_11, .inl (cI, 150, .inl (fun _ => 0))), (ob_13, .inl (cI, 20, .inl (fun _ => 0))), (on_14, .inl (cI, 20, .inl (fun _ => 0))), (tj_16, .inl (cI, 8, .inl (fun _ => 0))), (tl_17, .inl (cI, 8, .inl (fun _ => 0))), (m_te_21, .inl (cI, 500, .inl (fun _ => 0))), (m_re_22, .inl (cI, 500, .inl (fun _ => 0))), (m_kn_23, .inl (cI, 150, .inl (fun _ => 0))), (m_bg_24, .inl (cI, 150, .inl (fun _ => 0))), (m_en_25, .inl (cI, 150, .inl (fun _ => 0))), (m_dp_26, .inl (cI, 150, .inl (fun _ => 0))), (m_nm_27, .inl (cI, 20, .inl (fun _ => 0))), (m_sz_28, .inl (cI, 20, .inl (fun _ => 0))), (m_aa_29, .inl (cI, 8, .inl (fun _ => 0))), (m_asz_30, .inl (cI, 8, .inl (fun _ => 0))), (q_1, .inr (3, [.ref b_6, .int 0, .ref cu_5, .ref pc_7, .ref oe_12, .ref ta_15, .int 0, .int 0, .int 0, .int 0, .int 0, .int 0, .int 0, .int (-1)])), (cu_5, .inr (0, [.ref cm_4, .int 0, .int 0, .int fa_94, .int fp_95])), (pc_7, .inr (2, [.ref pk_8, .ref pb_9, .ref pe_10, .ref pd_11, .int 0, .int 0])), (oe_12, .inr (1, [.ref ob_13, .ref on_14, .int 20, .int 0])), (ta_15, .inr (1, [.ref tj_16, .ref tl_17, .int 8, .int 0])), (q_18, .inr (4, [.ref m_te_21, .int 0, .ref m_re_22, .int 0, .int 0, .ref m_kn_23, .ref m_bg_24, .ref m_en_25, .ref m_dp_26, .int 0, .ref m_nm_27, .ref m_sz_28, .int 0, .ref m_aa_29, .ref m_asz_30, .int 0, .int 0, .int 0, .int 0, .int 0, .int 0, .int 0, .int 0, .int 0, .int 0, .int 0, .int 0, .int 0, .int (-1), .int 0, .int 0, .long 0, .int 2]))] H := hP
      have hD : va_D (fun q : Nat => s.heap.size ≤ q) [(cm_4, .inl (cI, 500, .inl (fun _ => 0))), (b_6, .inl (cI, 500, .inl (fun _ => 0))), (pk_8, .inl (cI, 150, .inl (fun _ => 0))), (pb_9, .inl (cI, 150, .inl (fun _ => 0))), (pe_10, .inl (cI, 150, .inl (fun _ => 0))), (pd_11, .inl (cI, 150, .inl (fun _ => 0))), (ob_13, .inl (cI, 20, .inl (fun _ => 0))), (on_14, .inl (cI, 20, .inl (fun _ => 0))), (tj_16, .inl (cI, 8, .inl (fun _ => 0))), (tl_17, .inl (cI, 8, .inl (fun _ => 0))), (m_te_21, .inl (cI, 500, .inl (fun _ => 0))), (m_re_22, .inl (cI, 500, .inl (fun _ => 0))), (m_kn_23, .inl (cI, 150, .inl (fun _ => 0))), (m_bg_24, .inl (cI, 150, .inl (fun _ => 0))), (m_en_25, .inl (cI, 150, .inl (fun _ => 0))), (m_dp_26, .inl (cI, 150, .inl (fun _ => 0))), (m_nm_27, .inl (cI, 20, .inl (fun _ => 0))), (m_sz_28, .inl (cI, 20, .inl (fun _ => 0))), (m_aa_29, .inl (cI, 8, .inl (fun _ => 0))), (m_asz_30, .inl (cI, 8, .inl (fun _ => 0))), (q_1, .inr (3, [.ref b_6, .int 0, .ref cu_5, .ref pc_7, .ref oe_12, .ref ta_15, .int 0, .int 0, .int 0, .int 0, .int 0, .int 0, .int 0, .int (-1)])), (cu_5, .inr (0, [.ref cm_4, .int 0, .int 0, .int fa_94, .int fp_95])), (pc_7, .inr (2, [.ref pk_8, .ref pb_9, .ref pe_10, .ref pd_11, .int 0, .int 0])), (oe_12, .inr (1, [.ref ob_13, .ref on_14, .int 20, .int 0])), (ta_15, .inr (1, [.ref tj_16, .ref tl_17, .int 8, .int 0])), (q_18, .inr (4, [.ref m_te_21, .int 0, .ref m_re_22, .int 0, .int 0, .ref m_kn_23, .ref m_bg_24, .ref m_en_25, .ref m_dp_26, .int 0, .ref m_nm_27, .ref m_sz_28, .int 0, .ref m_aa_29, .ref m_asz_30, .int 0, .int 0, .int 0, .int 0, .int 0, .int 0, .int 0, .int 0, .int 0, .int 0, .int 0, .int 0, .int 0, .int (-1), .int 0, .int 0, .long 0, .int 2]))] := hD
      refine lv_icmp_eq (tgt := 240) hx hb dL_law_143 (by decide) (fun c_143 => ?_) (fun c_143 => ?_)
      · skip
        obtain ⟨x_98, ex_98⟩ : ∃ y : Int32, y = 0 + 4 := ⟨_, rfl⟩
        refine lv_iinc (v := x_98) (lv' := [(3, .int x_98), (2, .ref q_18), (1, .ref q_1), (0, .ref b)]) hx hb dL_law_240 hl (k := 0) rfl (by rw [ex_98]; rfl) (by decide) rfl (fun ls hl => ?_)
        refine lv_goto (tgt := 18) hx hb dL_law_243 (by decide) ?_
        exact law_tail (Nat.le_refl 4) C0 (by decide) (by decide) hS x_98 (Or.inr (by rw [ex_98]; decide)) ls (lv_sub hl [0, 3] rfl)
      · skip
        exact absurd (by rw [hw_136, hw_140]) c_143
    by_cases s_32_2 : x_33 = 2
    · refine lv_tableIn (off := 116) (tgt := 148) hx hb dL_law_32 (by rw [s_32_2]; decide) (by rw [s_32_2]; decide) (by rw [s_32_2]; decide) (by decide) ?_
      refine lv_aload_n hx hb dL_law_148 rfl (lv_at hl 2 rfl) ?_
      refine gcall_i (va_runV (As := []) (rest := []) ⟨hx, hb, hml, hown, hts⟩ (c_X3_place l D cI q_1 cm_4 0 cu_5 pc_7 oe_12 ta_15 0 0 0 0 0 0 0 (-1) b_6 0 0 0 (-1) H.size ) (cwV 0 hts (tb_goodV kk_2_186 kk_2_187 kk_2_188 kk_1_1 kk_2_189) rfl rfl rfl (by decide +kernel) ⟨Nat.le_of_ble_eq_true rfl, Nat.le_of_ble_eq_true rfl⟩) (gpreV hK hN (hP.sub [0, 2] rfl) (hD.sub [0, 2] (by decide) rfl) (va_recv hK hP (ci := 3) (q0 := 0) rfl rfl)) rfl rfl hl.1 rfl (lv_room (Nat.le_of_ble_eq_true rfl)) dL_law_149 ⟨Nat.le_of_ble_eq_true rfl, Nat.le_of_ble_eq_true rfl⟩) hP hD hS hA [0, 2] [1, 3, 4, 5, 6, 7, 8, 9, 10, 11, 12, 13, 14, 15, 16, 17, 18, 19, 20, 21, 22, 23, 24, 25] (wr := [(cm_4, .inl (cI, 500, .inl (fun _ => 0))), (b_6, .inl (cI, 500, .inl (fun _ => 0))), (pc_7, .inr (2, [.ref pk_8, .ref pb_9, .ref pe_10, .ref pd_11, .int 0, .int 0])), (pk_8, .inl (cI, 150, .inl (fun _ => 0))), (pb_9, .inl (cI, 150, .inl (fun _ => 0))), (pe_10, .inl (cI, 150, .inl (fun _ => 0))), (pd_11, .inl (cI, 150, .inl (fun _ => 0))), (oe_12, .inr (1, [.ref ob_13, .ref on_14, .int 20, .int 0])), (ob_13, .inl (cI, 20, .inl (fun _ => 0))), (on_14, .inl (cI, 20, .inl (fun _ => 0))), (ta_15, .inr (1, [.ref tj_16, .ref tl_17, .int 8, .int 0])), (tj_16, .inl (cI, 8, .inl (fun _ => 0))), (tl_17, .inl (cI, 8, .inl (fun _ => 0))), (q_18, .inr (4, [.ref m_te_21, .int 0, .ref m_re_22, .int 0, .int 0, .ref m_kn_23, .ref m_bg_24, .ref m_en_25, .ref m_dp_26, .int 0, .ref m_nm_27, .ref m_sz_28, .int 0, .ref m_aa_29, .ref m_asz_30, .int 0, .int 0, .int 0, .int (-1), .int 0, .int 0, .int 0, .int 0, .int 0, .int 0, .int 0, .int 0, .int 0, .int 0, .int 0, .int 0, .long 0, .int 0])), (m_te_21, .inl (cI, 500, .inl (fun _ => 0))), (m_re_22, .inl (cI, 500, .inl (fun _ => 0))), (m_kn_23, .inl (cI, 150, .inl (fun _ => 0))), (m_bg_24, .inl (cI, 150, .inl (fun _ => 0))), (m_en_25, .inl (cI, 150, .inl (fun _ => 0))), (m_dp_26, .inl (cI, 150, .inl (fun _ => 0))), (m_nm_27, .inl (cI, 20, .inl (fun _ => 0))), (m_sz_28, .inl (cI, 20, .inl (fun _ => 0))), (m_aa_29, .inl (cI, 8, .inl (fun _ => 0))), (m_asz_30, .inl (cI, 8, .inl (fun _ => 0)))]) rfl rfl (by decide) (by decide) (fun r_99 u_100 H locs hw_149 hP hD hS => ?_)
      try dsimp only at hw_149
      have hP : va_P D classes [(cm_4, .inl (cI, 500, .inl (fun _ => 0))), (b_6, .inl (cI, 500, .inl (fun _ => 0))), (pc_7, .inr (2, [.ref pk_8, .ref pb_9, .ref pe_10, .ref pd_11, .int 0, .int 0])), (pk_8, .inl (cI, 150, .inl (fun _ => 0))), (pb_9, .inl (cI, 150, .inl (fun _ => 0))), (pe_10, .inl (cI, 150, .inl (fun _ => 0))), (pd_11, .inl (cI, 150, .inl (fun _ => 0))), (oe_12, .inr (1, [.ref ob_13, .ref on_14, .int 20, .int 0])), (ob_13, .inl (cI, 20, .inl (fun _ => 0))), (on_14, .inl (cI, 20, .inl (fun _ => 0))), (ta_15, .inr (1, [.ref tj_16, .ref tl_17, .int 8, .int 0])), (tj_16, .inl (cI, 8, .inl (fun _ => 0))), (tl_17, .inl (cI, 8, .inl (fun _ => 0))), (q_18, .inr (4, [.ref m_te_21, .int 0, .ref m_re_22, .int 0, .int 0, .ref m_kn_23, .ref m_bg_24, .ref m_en_25, .ref m_dp_26, .int 0, .ref m_nm_27, .ref m_sz_28, .int 0, .ref m_aa_29, .ref m_asz_30, .int 0, .int 0, .int 0, .int (-1), .int 0, .int 0, .int 0, .int 0, .int 0, .int 0, .int 0, .int 0, .int 0, .int 0, .int 0, .int 0, .long 0, .int 0])), (m_te_21, .inl (cI, 500, .inl (fun _ => 0))), (m_re_22, .inl (cI, 500, .inl (fun _ => 0))), (m_kn_23, .inl (cI, 150, .inl (fun _ => 0))), (m_bg_24, .inl (cI, 150, .inl (fun _ => 0))), (m_en_25, .inl (cI, 150, .inl (fun _ => 0))), (m_dp_26, .inl (cI, 150, .inl (fun _ => 0))), (m_nm_27, .inl (cI, 20, .inl (fun _ => 0))), (m_sz_28, .inl (cI, 20, .inl (fun _ => 0))), (m_aa_29, .inl (cI, 8, .inl (fun _ => 0))), (m_asz_30, .inl (cI, 8, .inl (fun _ => 0))), (q_1, .inr (3, [.ref cm_4, .int 0, .ref cu_5, .ref pc_7, .ref oe_12, .ref ta_15, .int 0, .int 0, .int 0, .int 0, .int 0, .int 0, .int 0, .int (-1)])), (cu_5, .inr (0, [.ref b_6, .int 0, .int 0, .int 0, .int (-1)]))] H := hP
      have hD : va_D (fun q : Nat => s.heap.size ≤ q) [(cm_4, .inl (cI, 500, .inl (fun _ => 0))), (b_6, .inl (cI, 500, .inl (fun _ => 0))), (pc_7, .inr (2, [.ref pk_8, .ref pb_9, .ref pe_10, .ref pd_11, .int 0, .int 0])), (pk_8, .inl (cI, 150, .inl (fun _ => 0))), (pb_9, .inl (cI, 150, .inl (fun _ => 0))), (pe_10, .inl (cI, 150, .inl (fun _ => 0))), (pd_11, .inl (cI, 150, .inl (fun _ => 0))), (oe_12, .inr (1, [.ref ob_13, .ref on_14, .int 20, .int 0])), (ob_13, .inl (cI, 20, .inl (fun _ => 0))), (on_14, .inl (cI, 20, .inl (fun _ => 0))), (ta_15, .inr (1, [.ref tj_16, .ref tl_17, .int 8, .int 0])), (tj_16, .inl (cI, 8, .inl (fun _ => 0))), (tl_17, .inl (cI, 8, .inl (fun _ => 0))), (q_18, .inr (4, [.ref m_te_21, .int 0, .ref m_re_22, .int 0, .int 0, .ref m_kn_23, .ref m_bg_24, .ref m_en_25, .ref m_dp_26, .int 0, .ref m_nm_27, .ref m_sz_28, .int 0, .ref m_aa_29, .ref m_asz_30, .int 0, .int 0, .int 0, .int (-1), .int 0, .int 0, .int 0, .int 0, .int 0, .int 0, .int 0, .int 0, .int 0, .int 0, .int 0, .int 0, .long 0, .int 0])), (m_te_21, .inl (cI, 500, .inl (fun _ => 0))), (m_re_22, .inl (cI, 500, .inl (fun _ => 0))), (m_kn_23, .inl (cI, 150, .inl (fun _ => 0))), (m_bg_24, .inl (cI, 150, .inl (fun _ => 0))), (m_en_25, .inl (cI, 150, .inl (fun _ => 0))), (m_dp_26, .inl (cI, 150, .inl (fun _ => 0))), (m_nm_27, .inl (cI, 20, .inl (fun _ => 0))), (m_sz_28, .inl (cI, 20, .inl (fun _ => 0))), (m_aa_29, .inl (cI, 8, .inl (fun _ => 0))), (m_asz_30, .inl (cI, 8, .inl (fun _ => 0))), (q_1, .inr (3, [.ref cm_4, .int 0, .ref cu_5, .ref pc_7, .ref oe_12, .ref ta_15, .int 0, .int 0, .int 0, .int 0, .int 0, .int 0, .int 0, .int (-1)])), (cu_5, .inr (0, [.ref b_6, .int 0, .int 0, .int 0, .int (-1)]))] := hD
      refine lv_aload_n hx hb dL_law_152 rfl (lv_at hl 1 rfl) ?_
      refine gcall_i (va_runV (As := []) (rest := [.int r_99]) ⟨hx, hb, hml, hown, hts⟩ (c_X4_place l D cI q_18 m_te_21 0 m_re_22 0 0 m_kn_23 m_bg_24 m_en_25 m_dp_26 0 m_nm_27 m_sz_28 0 m_aa_29 m_asz_30 0 0 0 (-1) 0 0 0 0 0 0 0 0 0 0 0 0 0 0 H.size ) (cwV 0 hts (tb_goodV kk_3_223 kk_3_224 kk_3_225 kk_1_6 kk_3_226) rfl rfl rfl (by decide +kernel) ⟨Nat.le_of_ble_eq_true rfl, Nat.le_of_ble_eq_true rfl⟩) (gpreV hK hN (hP.sub [13] rfl) (hD.sub [13] (by decide) rfl) (va_recv hK hP (ci := 4) (q0 := 13) rfl rfl)) rfl rfl hl.1 rfl (lv_room (Nat.le_of_ble_eq_true rfl)) dL_law_153 ⟨Nat.le_of_ble_eq_true rfl, Nat.le_of_ble_eq_true rfl⟩) hP hD hS hA [13] [0, 1, 2, 3, 4, 5, 6, 7, 8, 9, 10, 11, 12, 14, 15, 16, 17, 18, 19, 20, 21, 22, 23, 24, 25] (wr := [(cm_4, .inl (cI, 500, .inl (fun _ => 0))), (b_6, .inl (cI, 500, .inl (fun _ => 0))), (pc_7, .inr (2, [.ref pk_8, .ref pb_9, .ref pe_10, .ref pd_11, .int 0, .int 0])), (pk_8, .inl (cI, 150, .inl (fun _ => 0))), (pb_9, .inl (cI, 150, .inl (fun _ => 0))), (pe_10, .inl (cI, 150, .inl (fun _ => 0))), (pd_11, .inl (cI, 150, .inl (fun _ => 0))), (oe_12, .inr (1, [.ref ob_13, .ref on_14, .int 20, .int 0])), (ob_13, .inl (cI, 20, .inl (fun _ => 0))), (on_14, .inl (cI, 20, .inl (fun _ => 0))), (ta_15, .inr (1, [.ref tj_16, .ref tl_17, .int 8, .int 0])), (tj_16, .inl (cI, 8, .inl (fun _ => 0))), (tl_17, .inl (cI, 8, .inl (fun _ => 0))), (m_te_21, .inl (cI, 500, .inl (fun _ => 0))), (m_re_22, .inl (cI, 500, .inl (fun _ => 0))), (m_kn_23, .inl (cI, 150, .inl (fun _ => 0))), (m_bg_24, .inl (cI, 150, .inl (fun _ => 0))), (m_en_25, .inl (cI, 150, .inl (fun _ => 0))), (m_dp_26, .inl (cI, 150, .inl (fun _ => 0))), (m_nm_27, .inl (cI, 20, .inl (fun _ => 0))), (m_sz_28, .inl (cI, 20, .inl (fun _ => 0))), (m_aa_29, .inl (cI, 8, .inl (fun _ => 0))), (m_asz_30, .inl (cI, 8, .inl (fun _ => 0))), (q_1, .inr (3, [.ref cm_4, .int 0, .ref cu_5, .ref pc_7, .ref oe_12, .ref ta_15, .int 0, .int 0, .int 0, .int 0, .int 0, .int 0, .int 0, .int (-1)])), (cu_5, .inr (0, [.ref b_6, .int 0, .int 0, .int 0, .int (-1)]))]) rfl rfl (by decide) (by decide) (fun r_101 u_102 H locs hw_153 hP hD hS => ?_)
      try dsimp only at hw_153
      have hP : va_P D classes [(cm_4, .inl (cI, 500, .inl (fun _ => 0))), (b_6, .inl (cI, 500, .inl (fun _ => 0))), (pc_7, .inr (2, [.ref pk_8, .ref pb_9, .ref pe_10, .ref pd_11, .int 0, .int 0])), (pk_8, .inl (cI, 150, .inl (fun _ => 0))), (pb_9, .inl (cI, 150, .inl (fun _ => 0))), (pe_10, .inl (cI, 150, .inl (fun _ => 0))), (pd_11, .inl (cI, 150, .inl (fun _ => 0))), (oe_12, .inr (1, [.ref ob_13, .ref on_14, .int 20, .int 0])), (ob_13, .inl (cI, 20, .inl (fun _ => 0))), (on_14, .inl (cI, 20, .inl (fun _ => 0))), (ta_15, .inr (1, [.ref tj_16, .ref tl_17, .int 8, .int 0])), (tj_16, .inl (cI, 8, .inl (fun _ => 0))), (tl_17, .inl (cI, 8, .inl (fun _ => 0))), (m_te_21, .inl (cI, 500, .inl (fun _ => 0))), (m_re_22, .inl (cI, 500, .inl (fun _ => 0))), (m_kn_23, .inl (cI, 150, .inl (fun _ => 0))), (m_bg_24, .inl (cI, 150, .inl (fun _ => 0))), (m_en_25, .inl (cI, 150, .inl (fun _ => 0))), (m_dp_26, .inl (cI, 150, .inl (fun _ => 0))), (m_nm_27, .inl (cI, 20, .inl (fun _ => 0))), (m_sz_28, .inl (cI, 20, .inl (fun _ => 0))), (m_aa_29, .inl (cI, 8, .inl (fun _ => 0))), (m_asz_30, .inl (cI, 8, .inl (fun _ => 0))), (q_1, .inr (3, [.ref cm_4, .int 0, .ref cu_5, .ref pc_7, .ref oe_12, .ref ta_15, .int 0, .int 0, .int 0, .int 0, .int 0, .int 0, .int 0, .int (-1)])), (cu_5, .inr (0, [.ref b_6, .int 0, .int 0, .int 0, .int (-1)])), (q_18, .inr (4, [.ref m_te_21, .int 0, .ref m_re_22, .int 0, .int 0, .ref m_kn_23, .ref m_bg_24, .ref m_en_25, .ref m_dp_26, .int 0, .ref m_nm_27, .ref m_sz_28, .int 0, .ref m_aa_29, .ref m_asz_30, .int 0, .int 0, .int 0, .int (-1), .int 0, .int 0, .int 0, .int 0, .int 0, .int 0, .int 0, .int 0, .int 0, .int 0, .int 0, .int 0, .long 0, .int 0]))] H := hP
      have hD : va_D (fun q : Nat => s.heap.size ≤ q) [(cm_4, .inl (cI, 500, .inl (fun _ => 0))), (b_6, .inl (cI, 500, .inl (fun _ => 0))), (pc_7, .inr (2, [.ref pk_8, .ref pb_9, .ref pe_10, .ref pd_11, .int 0, .int 0])), (pk_8, .inl (cI, 150, .inl (fun _ => 0))), (pb_9, .inl (cI, 150, .inl (fun _ => 0))), (pe_10, .inl (cI, 150, .inl (fun _ => 0))), (pd_11, .inl (cI, 150, .inl (fun _ => 0))), (oe_12, .inr (1, [.ref ob_13, .ref on_14, .int 20, .int 0])), (ob_13, .inl (cI, 20, .inl (fun _ => 0))), (on_14, .inl (cI, 20, .inl (fun _ => 0))), (ta_15, .inr (1, [.ref tj_16, .ref tl_17, .int 8, .int 0])), (tj_16, .inl (cI, 8, .inl (fun _ => 0))), (tl_17, .inl (cI, 8, .inl (fun _ => 0))), (m_te_21, .inl (cI, 500, .inl (fun _ => 0))), (m_re_22, .inl (cI, 500, .inl (fun _ => 0))), (m_kn_23, .inl (cI, 150, .inl (fun _ => 0))), (m_bg_24, .inl (cI, 150, .inl (fun _ => 0))), (m_en_25, .inl (cI, 150, .inl (fun _ => 0))), (m_dp_26, .inl (cI, 150, .inl (fun _ => 0))), (m_nm_27, .inl (cI, 20, .inl (fun _ => 0))), (m_sz_28, .inl (cI, 20, .inl (fun _ => 0))), (m_aa_29, .inl (cI, 8, .inl (fun _ => 0))), (m_asz_30, .inl (cI, 8, .inl (fun _ => 0))), (q_1, .inr (3, [.ref cm_4, .int 0, .ref cu_5, .ref pc_7, .ref oe_12, .ref ta_15, .int 0, .int 0, .int 0, .int 0, .int 0, .int 0, .int 0, .int (-1)])), (cu_5, .inr (0, [.ref b_6, .int 0, .int 0, .int 0, .int (-1)])), (q_18, .inr (4, [.ref m_te_21, .int 0, .ref m_re_22, .int 0, .int 0, .ref m_kn_23, .ref m_bg_24, .ref m_en_25, .ref m_dp_26, .int 0, .ref m_nm_27, .ref m_sz_28, .int 0, .ref m_aa_29, .ref m_asz_30, .int 0, .int 0, .int 0, .int (-1), .int 0, .int 0, .int 0, .int 0, .int 0, .int 0, .int 0, .int 0, .int 0, .int 0, .int 0, .int 0, .long 0, .int 0]))] := hD
      refine lv_icmp_eq (tgt := 240) hx hb dL_law_156 (by decide) (fun c_156 => ?_) (fun c_156 => ?_)
      · skip
        obtain ⟨x_103, ex_103⟩ : ∃ y : Int32, y = 0 + 4 := ⟨_, rfl⟩
        refine lv_iinc (v := x_103) (lv' := [(3, .int x_103), (2, .ref q_18), (1, .ref q_1), (0, .ref b)]) hx hb dL_law_240 hl (k := 0) rfl (by rw [ex_103]; rfl) (by decide) rfl (fun ls hl => ?_)
        refine lv_goto (tgt := 18) hx hb dL_law_243 (by decide) ?_
        exact law_tail (Nat.le_refl 4) C0 (by decide) (by decide) hS x_103 (Or.inr (by rw [ex_103]; decide)) ls (lv_sub hl [0, 3] rfl)
      · skip
        exact absurd (by rw [hw_149, hw_153]) c_156
    by_cases s_32_3 : x_33 = 3
    · refine lv_tableIn (off := 129) (tgt := 161) hx hb dL_law_32 (by rw [s_32_3]; decide) (by rw [s_32_3]; decide) (by rw [s_32_3]; decide) (by decide) ?_
      refine lv_aload_n hx hb dL_law_161 rfl (lv_at hl 2 rfl) ?_
      refine lv_aload_n hx hb dL_law_162 rfl (lv_at hl 3 rfl) ?_
      refine lv_iload_n hx hb dL_law_163 rfl (lv_at hl 0 rfl) ?_
      refine lv_iconst (v := 1) hx hb dL_law_164 (by decide) ?_
      refine lv_iadd hx hb dL_law_165 ?_
      refine lv_topi (fun x_104 ex_104 => ?_)
      obtain rfl : x_104 = 1 := by rw [ex_104]; decide
      refine va_sld hx hb hX hbl hbA hS (show ¬ ((1 : Int32) < 0 ∨ 4 ≤ (1 : Int32).toNatClampNeg) by decide) dL_law_166 ?_
      refine lv_topi (fun x_105 ex_105 => ?_)
      obtain rfl : x_105 = xs 1 := by rw [ex_105]; rfl
      refine lv_aload_n hx hb dL_law_167 rfl (lv_at hl 3 rfl) ?_
      refine lv_iload_n hx hb dL_law_168 rfl (lv_at hl 0 rfl) ?_
      refine lv_iconst (v := 2) hx hb dL_law_169 (by decide) ?_
      refine lv_iadd hx hb dL_law_170 ?_
      refine lv_topi (fun x_106 ex_106 => ?_)
      obtain rfl : x_106 = 2 := by rw [ex_106]; decide
      refine va_sld hx hb hX hbl hbA hS (show ¬ ((2 : Int32) < 0 ∨ 4 ≤ (2 : Int32).toNatClampNeg) by decide) dL_law_171 ?_
      refine lv_topi (fun x_107 ex_107 => ?_)
      obtain rfl : x_107 = xs 2 := by rw [ex_107]; rfl
      refine gcall_i (va_runV (As := [.int (xs 1), .int (xs 2)]) (rest := []) ⟨hx, hb, hml, hown, hts⟩ (c_X3_piece l D cI q_1 cm_4 0 cu_5 pc_7 oe_12 ta_15 0 0 0 0 0 0 0 (-1) pk_8 pb_9 pe_10 pd_11 0 0 (fun _ => 0) (fun _ => 0) (fun _ => 0) (fun _ => 0) H.size (xs 1) (xs 2)) (cwV 2 hts (tb_goodV kk_2_190 kk_2_191 kk_2_192 kk_1_1 kk_2_193) rfl rfl rfl (by decide +kernel) ⟨Nat.le_of_ble_eq_true rfl, Nat.le_of_ble_eq_true rfl⟩) (gpreV hK hN (hP.sub [0, 4, 5, 6, 7, 8] rfl) (hD.sub [0, 4, 5, 6, 7, 8] (by decide) rfl) (va_recv hK hP (ci := 3) (q0 := 0) rfl rfl)) rfl rfl hl.1 rfl (lv_room (Nat.le_of_ble_eq_true rfl)) dL_law_172 ⟨Nat.le_of_ble_eq_true rfl, Nat.le_of_ble_eq_true rfl⟩) hP hD hS hA [0, 4, 5, 6, 7, 8] [1, 2, 3, 9, 10, 11, 12, 13, 14, 15, 16, 17, 18, 19, 20, 21, 22, 23, 24, 25] (wr := [(cm_4, .inl (cI, 500, .inl (fun _ => 0))), (cu_5, .inr (0, [.ref b_6, .int 0, .int 0, .int 0, .int (-1)])), (b_6, .inl (cI, 500, .inl (fun _ => 0))), (oe_12, .inr (1, [.ref ob_13, .ref on_14, .int 20, .int 0])), (ob_13, .inl (cI, 20, .inl (fun _ => 0))), (on_14, .inl (cI, 20, .inl (fun _ => 0))), (ta_15, .inr (1, [.ref tj_16, .ref tl_17, .int 8, .int 0])), (tj_16, .inl (cI, 8, .inl (fun _ => 0))), (tl_17, .inl (cI, 8, .inl (fun _ => 0))), (q_18, .inr (4, [.ref m_te_21, .int 0, .ref m_re_22, .int 0, .int 0, .ref m_kn_23, .ref m_bg_24, .ref m_en_25, .ref m_dp_26, .int 0, .ref m_nm_27, .ref m_sz_28, .int 0, .ref m_aa_29, .ref m_asz_30, .int 0, .int 0, .int 0, .int (-1), .int 0, .int 0, .int 0, .int 0, .int 0, .int 0, .int 0, .int 0, .int 0, .int 0, .int 0, .int 0, .long 0, .int 0])), (m_te_21, .inl (cI, 500, .inl (fun _ => 0))), (m_re_22, .inl (cI, 500, .inl (fun _ => 0))), (m_kn_23, .inl (cI, 150, .inl (fun _ => 0))), (m_bg_24, .inl (cI, 150, .inl (fun _ => 0))), (m_en_25, .inl (cI, 150, .inl (fun _ => 0))), (m_dp_26, .inl (cI, 150, .inl (fun _ => 0))), (m_nm_27, .inl (cI, 20, .inl (fun _ => 0))), (m_sz_28, .inl (cI, 20, .inl (fun _ => 0))), (m_aa_29, .inl (cI, 8, .inl (fun _ => 0))), (m_asz_30, .inl (cI, 8, .inl (fun _ => 0)))]) rfl rfl (by decide) (by decide) (fun r_108 u_109 H locs hw_172 hP hD hS => ?_)
      try dsimp only at hw_172
      have hP : va_P D classes [(cm_4, .inl (cI, 500, .inl (fun _ => 0))), (cu_5, .inr (0, [.ref b_6, .int 0, .int 0, .int 0, .int (-1)])), (b_6, .inl (cI, 500, .inl (fun _ => 0))), (oe_12, .inr (1, [.ref ob_13, .ref on_14, .int 20, .int 0])), (ob_13, .inl (cI, 20, .inl (fun _ => 0))), (on_14, .inl (cI, 20, .inl (fun _ => 0))), (ta_15, .inr (1, [.ref tj_16, .ref tl_17, .int 8, .int 0])), (tj_16, .inl (cI, 8, .inl (fun _ => 0))), (tl_17, .inl (cI, 8, .inl (fun _ => 0))), (q_18, .inr (4, [.ref m_te_21, .int 0, .ref m_re_22, .int 0, .int 0, .ref m_kn_23, .ref m_bg_24, .ref m_en_25, .ref m_dp_26, .int 0, .ref m_nm_27, .ref m_sz_28, .int 0, .ref m_aa_29, .ref m_asz_30, .int 0, .int 0, .int 0, .int (-1), .int 0, .int 0, .int 0, .int 0, .int 0, .int 0, .int 0, .int 0, .int 0, .int 0, .int 0, .int 0, .long 0, .int 0])), (m_te_21, .inl (cI, 500, .inl (fun _ => 0))), (m_re_22, .inl (cI, 500, .inl (fun _ => 0))), (m_kn_23, .inl (cI, 150, .inl (fun _ => 0))), (m_bg_24, .inl (cI, 150, .inl (fun _ => 0))), (m_en_25, .inl (cI, 150, .inl (fun _ => 0))), (m_dp_26, .inl (cI, 150, .inl (fun _ => 0))), (m_nm_27, .inl (cI, 20, .inl (fun _ => 0))), (m_sz_28, .inl (cI, 20, .inl (fun _ => 0))), (m_aa_29, .inl (cI, 8, .inl (fun _ => 0))), (m_asz_30, .inl (cI, 8, .inl (fun _ => 0))), (q_1, .inr (3, [.ref cm_4, .int 0, .ref cu_5, .ref pc_7, .ref oe_12, .ref ta_15, .int 0, .int 0, .int 0, .int 0, .int 0, .int 0, .int 0, .int (-1)])), (pc_7, .inr (2, [.ref pk_8, .ref pb_9, .ref pe_10, .ref pd_11, .int 0, .int 0])), (pk_8, .inl (cI, 150, .inl (fun _ => 0))), (pb_9, .inl (cI, 150, .inl (fun _ => 0))), (pe_10, .inl (cI, 150, .inl (fun _ => 0))), (pd_11, .inl (cI, 150, .inl (fun _ => 0)))] H := hP
      have hD : va_D (fun q : Nat => s.heap.size ≤ q) [(cm_4, .inl (cI, 500, .inl (fun _ => 0))), (cu_5, .inr (0, [.ref b_6, .int 0, .int 0, .int 0, .int (-1)])), (b_6, .inl (cI, 500, .inl (fun _ => 0))), (oe_12, .inr (1, [.ref ob_13, .ref on_14, .int 20, .int 0])), (ob_13, .inl (cI, 20, .inl (fun _ => 0))), (on_14, .inl (cI, 20, .inl (fun _ => 0))), (ta_15, .inr (1, [.ref tj_16, .ref tl_17, .int 8, .int 0])), (tj_16, .inl (cI, 8, .inl (fun _ => 0))), (tl_17, .inl (cI, 8, .inl (fun _ => 0))), (q_18, .inr (4, [.ref m_te_21, .int 0, .ref m_re_22, .int 0, .int 0, .ref m_kn_23, .ref m_bg_24, .ref m_en_25, .ref m_dp_26, .int 0, .ref m_nm_27, .ref m_sz_28, .int 0, .ref m_aa_29, .ref m_asz_30, .int 0, .int 0, .int 0, .int (-1), .int 0, .int 0, .int 0, .int 0, .int 0, .int 0, .int 0, .int 0, .int 0, .int 0, .int 0, .int 0, .long 0, .int 0])), (m_te_21, .inl (cI, 500, .inl (fun _ => 0))), (m_re_22, .inl (cI, 500, .inl (fun _ => 0))), (m_kn_23, .inl (cI, 150, .inl (fun _ => 0))), (m_bg_24, .inl (cI, 150, .inl (fun _ => 0))), (m_en_25, .inl (cI, 150, .inl (fun _ => 0))), (m_dp_26, .inl (cI, 150, .inl (fun _ => 0))), (m_nm_27, .inl (cI, 20, .inl (fun _ => 0))), (m_sz_28, .inl (cI, 20, .inl (fun _ => 0))), (m_aa_29, .inl (cI, 8, .inl (fun _ => 0))), (m_asz_30, .inl (cI, 8, .inl (fun _ => 0))), (q_1, .inr (3, [.ref cm_4, .int 0, .ref cu_5, .ref pc_7, .ref oe_12, .ref ta_15, .int 0, .int 0, .int 0, .int 0, .int 0, .int 0, .int 0, .int (-1)])), (pc_7, .inr (2, [.ref pk_8, .ref pb_9, .ref pe_10, .ref pd_11, .int 0, .int 0])), (pk_8, .inl (cI, 150, .inl (fun _ => 0))), (pb_9, .inl (cI, 150, .inl (fun _ => 0))), (pe_10, .inl (cI, 150, .inl (fun _ => 0))), (pd_11, .inl (cI, 150, .inl (fun _ => 0)))] := hD
      refine lv_aload_n hx hb dL_law_175 rfl (lv_at hl 1 rfl) ?_
      refine lv_aload_n hx hb dL_law_176 rfl (lv_at hl 3 rfl) ?_
      refine lv_iload_n hx hb dL_law_177 rfl (lv_at hl 0 rfl) ?_
      refine lv_iconst (v := 1) hx hb dL_law_178 (by decide) ?_
      refine lv_iadd hx hb dL_law_179 ?_
      refine lv_topi (fun x_110 ex_110 => ?_)
      obtain rfl : x_110 = 1 := by rw [ex_110]; decide
      refine va_sld hx hb hX hbl hbA hS (show ¬ ((1 : Int32) < 0 ∨ 4 ≤ (1 : Int32).toNatClampNeg) by decide) dL_law_180 ?_
      refine lv_topi (fun x_111 ex_111 => ?_)
      obtain rfl : x_111 = xs 1 := by rw [ex_111]; rfl
      refine lv_aload_n hx hb dL_law_181 rfl (lv_at hl 3 rfl) ?_
      refine lv_iload_n hx hb dL_law_182 rfl (lv_at hl 0 rfl) ?_
      refine lv_iconst (v := 2) hx hb dL_law_183 (by decide) ?_
      refine lv_iadd hx hb dL_law_184 ?_
      refine lv_topi (fun x_112 ex_112 => ?_)
      obtain rfl : x_112 = 2 := by rw [ex_112]; decide
      refine va_sld hx hb hX hbl hbA hS (show ¬ ((2 : Int32) < 0 ∨ 4 ≤ (2 : Int32).toNatClampNeg) by decide) dL_law_185 ?_
      refine lv_topi (fun x_113 ex_113 => ?_)
      obtain rfl : x_113 = xs 2 := by rw [ex_113]; rfl
      refine gcall_i (va_runV (As := [.int (xs 1), .int (xs 2)]) (rest := [.int r_108]) ⟨hx, hb, hml, hown, hts⟩ (c_X4_piece l D cI q_18 m_te_21 0 m_re_22 0 0 m_kn_23 m_bg_24 m_en_25 m_dp_26 0 m_nm_27 m_sz_28 0 m_aa_29 m_asz_30 0 0 0 (-1) 0 0 0 0 0 0 0 0 0 0 0 0 0 0 (fun _ => 0) (fun _ => 0) (fun _ => 0) (fun _ => 0) H.size (xs 1) (xs 2) (by decide)) (cwV 2 hts (tb_goodV kk_3_227 kk_3_228 kk_3_229 kk_1_6 kk_3_230) rfl rfl rfl (by decide +kernel) ⟨Nat.le_of_ble_eq_true rfl, Nat.le_of_ble_eq_true rfl⟩) (gpreV hK hN (hP.sub [9, 12, 13, 14, 15] rfl) (hD.sub [9, 12, 13, 14, 15] (by decide) rfl) (va_recv hK hP (ci := 4) (q0 := 9) rfl rfl)) rfl rfl hl.1 rfl (lv_room (Nat.le_of_ble_eq_true rfl)) dL_law_186 ⟨Nat.le_of_ble_eq_true rfl, Nat.le_of_ble_eq_true rfl⟩) hP hD hS hA [9, 12, 13, 14, 15] [0, 1, 2, 3, 4, 5, 6, 7, 8, 10, 11, 16, 17, 18, 19, 20, 21, 22, 23, 24, 25] (wr := [(cm_4, .inl (cI, 500, .inl (fun _ => 0))), (cu_5, .inr (0, [.ref b_6, .int 0, .int 0, .int 0, .int (-1)])), (b_6, .inl (cI, 500, .inl (fun _ => 0))), (oe_12, .inr (1, [.ref ob_13, .ref on_14, .int 20, .int 0])), (ob_13, .inl (cI, 20, .inl (fun _ => 0))), (on_14, .inl (cI, 20, .inl (fun _ => 0))), (ta_15, .inr (1, [.ref tj_16, .ref tl_17, .int 8, .int 0])), (tj_16, .inl (cI, 8, .inl (fun _ => 0))), (tl_17, .inl (cI, 8, .inl (fun _ => 0))), (m_te_21, .inl (cI, 500, .inl (fun _ => 0))), (m_re_22, .inl (cI, 500, .inl (fun _ => 0))), (m_nm_27, .inl (cI, 20, .inl (fun _ => 0))), (m_sz_28, .inl (cI, 20, .inl (fun _ => 0))), (m_aa_29, .inl (cI, 8, .inl (fun _ => 0))), (m_asz_30, .inl (cI, 8, .inl (fun _ => 0))), (q_1, .inr (3, [.ref cm_4, .int 0, .ref cu_5, .ref pc_7, .ref oe_12, .ref ta_15, .int 0, .int 0, .int 0, .int 0, .int 0, .int 0, .int 0, .int (-1)])), (pc_7, .inr (2, [.ref pk_8, .ref pb_9, .ref pe_10, .ref pd_11, .int 0, .int 0])), (pk_8, .inl (cI, 150, .inl (fun _ => 0))), (pb_9, .inl (cI, 150, .inl (fun _ => 0))), (pe_10, .inl (cI, 150, .inl (fun _ => 0))), (pd_11, .inl (cI, 150, .inl (fun _ => 0)))]) rfl rfl (by decide) (by decide) (fun r_114 u_115 H locs hw_186 hP hD hS => ?_)
      try dsimp only at hw_186
      have hP : va_P D classes [(cm_4, .inl (cI, 500, .inl (fun _ => 0))), (cu_5, .inr (0, [.ref b_6, .int 0, .int 0, .int 0, .int (-1)])), (b_6, .inl (cI, 500, .inl (fun _ => 0))), (oe_12, .inr (1, [.ref ob_13, .ref on_14, .int 20, .int 0])), (ob_13, .inl (cI, 20, .inl (fun _ => 0))), (on_14, .inl (cI, 20, .inl (fun _ => 0))), (ta_15, .inr (1, [.ref tj_16, .ref tl_17, .int 8, .int 0])), (tj_16, .inl (cI, 8, .inl (fun _ => 0))), (tl_17, .inl (cI, 8, .inl (fun _ => 0))), (m_te_21, .inl (cI, 500, .inl (fun _ => 0))), (m_re_22, .inl (cI, 500, .inl (fun _ => 0))), (m_nm_27, .inl (cI, 20, .inl (fun _ => 0))), (m_sz_28, .inl (cI, 20, .inl (fun _ => 0))), (m_aa_29, .inl (cI, 8, .inl (fun _ => 0))), (m_asz_30, .inl (cI, 8, .inl (fun _ => 0))), (q_1, .inr (3, [.ref cm_4, .int 0, .ref cu_5, .ref pc_7, .ref oe_12, .ref ta_15, .int 0, .int 0, .int 0, .int 0, .int 0, .int 0, .int 0, .int (-1)])), (pc_7, .inr (2, [.ref pk_8, .ref pb_9, .ref pe_10, .ref pd_11, .int 0, .int 0])), (pk_8, .inl (cI, 150, .inl (fun _ => 0))), (pb_9, .inl (cI, 150, .inl (fun _ => 0))), (pe_10, .inl (cI, 150, .inl (fun _ => 0))), (pd_11, .inl (cI, 150, .inl (fun _ => 0))), (q_18, .inr (4, [.ref m_te_21, .int 0, .ref m_re_22, .int 0, .int 0, .ref m_kn_23, .ref m_bg_24, .ref m_en_25, .ref m_dp_26, .int 0, .ref m_nm_27, .ref m_sz_28, .int 0, .ref m_aa_29, .ref m_asz_30, .int 0, .int 0, .int 0, .int (-1), .int 0, .int 0, .int 0, .int 0, .int 0, .int 0, .int 0, .int 0, .int 0, .int 0, .int 0, .int 0, .long 0, .int 0])), (m_kn_23, .inl (cI, 150, .inl (fun _ => 0))), (m_bg_24, .inl (cI, 150, .inl (fun _ => 0))), (m_en_25, .inl (cI, 150, .inl (fun _ => 0))), (m_dp_26, .inl (cI, 150, .inl (fun _ => 0)))] H := hP
      have hD : va_D (fun q : Nat => s.heap.size ≤ q) [(cm_4, .inl (cI, 500, .inl (fun _ => 0))), (cu_5, .inr (0, [.ref b_6, .int 0, .int 0, .int 0, .int (-1)])), (b_6, .inl (cI, 500, .inl (fun _ => 0))), (oe_12, .inr (1, [.ref ob_13, .ref on_14, .int 20, .int 0])), (ob_13, .inl (cI, 20, .inl (fun _ => 0))), (on_14, .inl (cI, 20, .inl (fun _ => 0))), (ta_15, .inr (1, [.ref tj_16, .ref tl_17, .int 8, .int 0])), (tj_16, .inl (cI, 8, .inl (fun _ => 0))), (tl_17, .inl (cI, 8, .inl (fun _ => 0))), (m_te_21, .inl (cI, 500, .inl (fun _ => 0))), (m_re_22, .inl (cI, 500, .inl (fun _ => 0))), (m_nm_27, .inl (cI, 20, .inl (fun _ => 0))), (m_sz_28, .inl (cI, 20, .inl (fun _ => 0))), (m_aa_29, .inl (cI, 8, .inl (fun _ => 0))), (m_asz_30, .inl (cI, 8, .inl (fun _ => 0))), (q_1, .inr (3, [.ref cm_4, .int 0, .ref cu_5, .ref pc_7, .ref oe_12, .ref ta_15, .int 0, .int 0, .int 0, .int 0, .int 0, .int 0, .int 0, .int (-1)])), (pc_7, .inr (2, [.ref pk_8, .ref pb_9, .ref pe_10, .ref pd_11, .int 0, .int 0])), (pk_8, .inl (cI, 150, .inl (fun _ => 0))), (pb_9, .inl (cI, 150, .inl (fun _ => 0))), (pe_10, .inl (cI, 150, .inl (fun _ => 0))), (pd_11, .inl (cI, 150, .inl (fun _ => 0))), (q_18, .inr (4, [.ref m_te_21, .int 0, .ref m_re_22, .int 0, .int 0, .ref m_kn_23, .ref m_bg_24, .ref m_en_25, .ref m_dp_26, .int 0, .ref m_nm_27, .ref m_sz_28, .int 0, .ref m_aa_29, .ref m_asz_30, .int 0, .int 0, .int 0, .int (-1), .int 0, .int 0, .int 0, .int 0, .int 0, .int 0, .int 0, .int 0, .int 0, .int 0, .int 0, .int 0, .long 0, .int 0])), (m_kn_23, .inl (cI, 150, .inl (fun _ => 0))), (m_bg_24, .inl (cI, 150, .inl (fun _ => 0))), (m_en_25, .inl (cI, 150, .inl (fun _ => 0))), (m_dp_26, .inl (cI, 150, .inl (fun _ => 0)))] := hD
      refine lv_icmp_eq (tgt := 240) hx hb dL_law_189 (by decide) (fun c_189 => ?_) (fun c_189 => ?_)
      · skip
        obtain ⟨x_116, ex_116⟩ : ∃ y : Int32, y = 0 + 4 := ⟨_, rfl⟩
        refine lv_iinc (v := x_116) (lv' := [(3, .int x_116), (2, .ref q_18), (1, .ref q_1), (0, .ref b)]) hx hb dL_law_240 hl (k := 0) rfl (by rw [ex_116]; rfl) (by decide) rfl (fun ls hl => ?_)
        refine lv_goto (tgt := 18) hx hb dL_law_243 (by decide) ?_
        exact law_tail (Nat.le_refl 4) C0 (by decide) (by decide) hS x_116 (Or.inr (by rw [ex_116]; decide)) ls (lv_sub hl [0, 3] rfl)
      · skip
        exact absurd (by rw [hw_172 rfl, hw_186 rfl]) c_189
    by_cases s_32_4 : x_33 = 4
    · refine lv_tableIn (off := 162) (tgt := 194) hx hb dL_law_32 (by rw [s_32_4]; decide) (by rw [s_32_4]; decide) (by rw [s_32_4]; decide) (by decide) ?_
      refine lv_aload_n hx hb dL_law_194 rfl (lv_at hl 2 rfl) ?_
      refine lv_aload_n hx hb dL_law_195 rfl (lv_at hl 3 rfl) ?_
      refine lv_iload_n hx hb dL_law_196 rfl (lv_at hl 0 rfl) ?_
      refine lv_iconst (v := 1) hx hb dL_law_197 (by decide) ?_
      refine lv_iadd hx hb dL_law_198 ?_
      refine lv_topi (fun x_117 ex_117 => ?_)
      obtain rfl : x_117 = 1 := by rw [ex_117]; decide
      refine va_sld hx hb hX hbl hbA hS (show ¬ ((1 : Int32) < 0 ∨ 4 ≤ (1 : Int32).toNatClampNeg) by decide) dL_law_199 ?_
      refine lv_topi (fun x_118 ex_118 => ?_)
      obtain rfl : x_118 = xs 1 := by rw [ex_118]; rfl
      refine gcall_i (va_runV (As := [.int (xs 1)]) (rest := []) ⟨hx, hb, hml, hown, hts⟩ (c_X3_byteOf l D cI q_1 cm_4 0 cu_5 pc_7 oe_12 ta_15 0 0 0 0 0 0 0 (-1) b_6 0 0 0 (-1) (fun _ => 0) H.size (xs 1)) (cwV 1 hts (tb_goodV kk_2_198 kk_2_199 kk_2_200 kk_1_1 kk_2_201) rfl rfl rfl (by decide +kernel) ⟨Nat.le_of_ble_eq_true rfl, Nat.le_of_ble_eq_true rfl⟩) (gpreV hK hN (hP.sub [0, 2, 3] rfl) (hD.sub [0, 2, 3] (by decide) rfl) (va_recv hK hP (ci := 3) (q0 := 0) rfl rfl)) rfl rfl hl.1 rfl (lv_room (Nat.le_of_ble_eq_true rfl)) dL_law_200 ⟨Nat.le_of_ble_eq_true rfl, Nat.le_of_ble_eq_true rfl⟩) hP hD hS hA [0, 2, 3] [1, 4, 5, 6, 7, 8, 9, 10, 11, 12, 13, 14, 15, 16, 17, 18, 19, 20, 21, 22, 23, 24, 25] (wr := [(cm_4, .inl (cI, 500, .inl (fun _ => 0))), (pc_7, .inr (2, [.ref pk_8, .ref pb_9, .ref pe_10, .ref pd_11, .int 0, .int 0])), (pk_8, .inl (cI, 150, .inl (fun _ => 0))), (pb_9, .inl (cI, 150, .inl (fun _ => 0))), (pe_10, .inl (cI, 150, .inl (fun _ => 0))), (pd_11, .inl (cI, 150, .inl (fun _ => 0))), (oe_12, .inr (1, [.ref ob_13, .ref on_14, .int 20, .int 0])), (ob_13, .inl (cI, 20, .inl (fun _ => 0))), (on_14, .inl (cI, 20, .inl (fun _ => 0))), (ta_15, .inr (1, [.ref tj_16, .ref tl_17, .int 8, .int 0])), (tj_16, .inl (cI, 8, .inl (fun _ => 0))), (tl_17, .inl (cI, 8, .inl (fun _ => 0))), (q_18, .inr (4, [.ref m_te_21, .int 0, .ref m_re_22, .int 0, .int 0, .ref m_kn_23, .ref m_bg_24, .ref m_en_25, .ref m_dp_26, .int 0, .ref m_nm_27, .ref m_sz_28, .int 0, .ref m_aa_29, .ref m_asz_30, .int 0, .int 0, .int 0, .int (-1), .int 0, .int 0, .int 0, .int 0, .int 0, .int 0, .int 0, .int 0, .int 0, .int 0, .int 0, .int 0, .long 0, .int 0])), (m_te_21, .inl (cI, 500, .inl (fun _ => 0))), (m_re_22, .inl (cI, 500, .inl (fun _ => 0))), (m_kn_23, .inl (cI, 150, .inl (fun _ => 0))), (m_bg_24, .inl (cI, 150, .inl (fun _ => 0))), (m_en_25, .inl (cI, 150, .inl (fun _ => 0))), (m_dp_26, .inl (cI, 150, .inl (fun _ => 0))), (m_nm_27, .inl (cI, 20, .inl (fun _ => 0))), (m_sz_28, .inl (cI, 20, .inl (fun _ => 0))), (m_aa_29, .inl (cI, 8, .inl (fun _ => 0))), (m_asz_30, .inl (cI, 8, .inl (fun _ => 0)))]) rfl rfl (by decide) (by decide) (fun r_119 u_120 H locs hw_200 hP hD hS => ?_)
      try dsimp only at hw_200
      have hP : va_P D classes [(cm_4, .inl (cI, 500, .inl (fun _ => 0))), (pc_7, .inr (2, [.ref pk_8, .ref pb_9, .ref pe_10, .ref pd_11, .int 0, .int 0])), (pk_8, .inl (cI, 150, .inl (fun _ => 0))), (pb_9, .inl (cI, 150, .inl (fun _ => 0))), (pe_10, .inl (cI, 150, .inl (fun _ => 0))), (pd_11, .inl (cI, 150, .inl (fun _ => 0))), (oe_12, .inr (1, [.ref ob_13, .ref on_14, .int 20, .int 0])), (ob_13, .inl (cI, 20, .inl (fun _ => 0))), (on_14, .inl (cI, 20, .inl (fun _ => 0))), (ta_15, .inr (1, [.ref tj_16, .ref tl_17, .int 8, .int 0])), (tj_16, .inl (cI, 8, .inl (fun _ => 0))), (tl_17, .inl (cI, 8, .inl (fun _ => 0))), (q_18, .inr (4, [.ref m_te_21, .int 0, .ref m_re_22, .int 0, .int 0, .ref m_kn_23, .ref m_bg_24, .ref m_en_25, .ref m_dp_26, .int 0, .ref m_nm_27, .ref m_sz_28, .int 0, .ref m_aa_29, .ref m_asz_30, .int 0, .int 0, .int 0, .int (-1), .int 0, .int 0, .int 0, .int 0, .int 0, .int 0, .int 0, .int 0, .int 0, .int 0, .int 0, .int 0, .long 0, .int 0])), (m_te_21, .inl (cI, 500, .inl (fun _ => 0))), (m_re_22, .inl (cI, 500, .inl (fun _ => 0))), (m_kn_23, .inl (cI, 150, .inl (fun _ => 0))), (m_bg_24, .inl (cI, 150, .inl (fun _ => 0))), (m_en_25, .inl (cI, 150, .inl (fun _ => 0))), (m_dp_26, .inl (cI, 150, .inl (fun _ => 0))), (m_nm_27, .inl (cI, 20, .inl (fun _ => 0))), (m_sz_28, .inl (cI, 20, .inl (fun _ => 0))), (m_aa_29, .inl (cI, 8, .inl (fun _ => 0))), (m_asz_30, .inl (cI, 8, .inl (fun _ => 0))), (q_1, .inr (3, [.ref cm_4, .int 0, .ref cu_5, .ref pc_7, .ref oe_12, .ref ta_15, .int 0, .int 0, .int 0, .int 0, .int 0, .int 0, .int 0, .int (-1)])), (cu_5, .inr (0, [.ref b_6, .int 0, .int 0, .int 0, .int (-1)])), (b_6, .inl (cI, 500, .inl (fun _ => 0)))] H := hP
      have hD : va_D (fun q : Nat => s.heap.size ≤ q) [(cm_4, .inl (cI, 500, .inl (fun _ => 0))), (pc_7, .inr (2, [.ref pk_8, .ref pb_9, .ref pe_10, .ref pd_11, .int 0, .int 0])), (pk_8, .inl (cI, 150, .inl (fun _ => 0))), (pb_9, .inl (cI, 150, .inl (fun _ => 0))), (pe_10, .inl (cI, 150, .inl (fun _ => 0))), (pd_11, .inl (cI, 150, .inl (fun _ => 0))), (oe_12, .inr (1, [.ref ob_13, .ref on_14, .int 20, .int 0])), (ob_13, .inl (cI, 20, .inl (fun _ => 0))), (on_14, .inl (cI, 20, .inl (fun _ => 0))), (ta_15, .inr (1, [.ref tj_16, .ref tl_17, .int 8, .int 0])), (tj_16, .inl (cI, 8, .inl (fun _ => 0))), (tl_17, .inl (cI, 8, .inl (fun _ => 0))), (q_18, .inr (4, [.ref m_te_21, .int 0, .ref m_re_22, .int 0, .int 0, .ref m_kn_23, .ref m_bg_24, .ref m_en_25, .ref m_dp_26, .int 0, .ref m_nm_27, .ref m_sz_28, .int 0, .ref m_aa_29, .ref m_asz_30, .int 0, .int 0, .int 0, .int (-1), .int 0, .int 0, .int 0, .int 0, .int 0, .int 0, .int 0, .int 0, .int 0, .int 0, .int 0, .int 0, .long 0, .int 0])), (m_te_21, .inl (cI, 500, .inl (fun _ => 0))), (m_re_22, .inl (cI, 500, .inl (fun _ => 0))), (m_kn_23, .inl (cI, 150, .inl (fun _ => 0))), (m_bg_24, .inl (cI, 150, .inl (fun _ => 0))), (m_en_25, .inl (cI, 150, .inl (fun _ => 0))), (m_dp_26, .inl (cI, 150, .inl (fun _ => 0))), (m_nm_27, .inl (cI, 20, .inl (fun _ => 0))), (m_sz_28, .inl (cI, 20, .inl (fun _ => 0))), (m_aa_29, .inl (cI, 8, .inl (fun _ => 0))), (m_asz_30, .inl (cI, 8, .inl (fun _ => 0))), (q_1, .inr (3, [.ref cm_4, .int 0, .ref cu_5, .ref pc_7, .ref oe_12, .ref ta_15, .int 0, .int 0, .int 0, .int 0, .int 0, .int 0, .int 0, .int (-1)])), (cu_5, .inr (0, [.ref b_6, .int 0, .int 0, .int 0, .int (-1)])), (b_6, .inl (cI, 500, .inl (fun _ => 0)))] := hD
      refine lv_aload_n hx hb dL_law_203 rfl (lv_at hl 1 rfl) ?_
      refine lv_aload_n hx hb dL_law_204 rfl (lv_at hl 3 rfl) ?_
      refine lv_iload_n hx hb dL_law_205 rfl (lv_at hl 0 rfl) ?_
      refine lv_iconst (v := 1) hx hb dL_law_206 (by decide) ?_
      refine lv_iadd hx hb dL_law_207 ?_
      refine lv_topi (fun x_121 ex_121 => ?_)
      obtain rfl : x_121 = 1 := by rw [ex_121]; decide
      refine va_sld hx hb hX hbl hbA hS (show ¬ ((1 : Int32) < 0 ∨ 4 ≤ (1 : Int32).toNatClampNeg) by decide) dL_law_208 ?_
      refine lv_topi (fun x_122 ex_122 => ?_)
      obtain rfl : x_122 = xs 1 := by rw [ex_122]; rfl
      refine gcall_i (va_runV (As := [.int (xs 1)]) (rest := [.int r_119]) ⟨hx, hb, hml, hown, hts⟩ (c_X4_byteOf l D cI q_18 m_te_21 0 m_re_22 0 0 m_kn_23 m_bg_24 m_en_25 m_dp_26 0 m_nm_27 m_sz_28 0 m_aa_29 m_asz_30 0 0 0 (-1) 0 0 0 0 0 0 0 0 0 0 0 0 0 0 (fun _ => 0) H.size (xs 1) (by decide)) (cwV 1 hts (tb_goodV kk_3_231 kk_3_232 kk_3_233 kk_1_6 kk_3_234) rfl rfl rfl (by decide +kernel) ⟨Nat.le_of_ble_eq_true rfl, Nat.le_of_ble_eq_true rfl⟩) (gpreV hK hN (hP.sub [12, 14] rfl) (hD.sub [12, 14] (by decide) rfl) (va_recv hK hP (ci := 4) (q0 := 12) rfl rfl)) rfl rfl hl.1 rfl (lv_room (Nat.le_of_ble_eq_true rfl)) dL_law_209 ⟨Nat.le_of_ble_eq_true rfl, Nat.le_of_ble_eq_true rfl⟩) hP hD hS hA [12, 14] [0, 1, 2, 3, 4, 5, 6, 7, 8, 9, 10, 11, 13, 15, 16, 17, 18, 19, 20, 21, 22, 23, 24, 25] (wr := [(cm_4, .inl (cI, 500, .inl (fun _ => 0))), (pc_7, .inr (2, [.ref pk_8, .ref pb_9, .ref pe_10, .ref pd_11, .int 0, .int 0])), (pk_8, .inl (cI, 150, .inl (fun _ => 0))), (pb_9, .inl (cI, 150, .inl (fun _ => 0))), (pe_10, .inl (cI, 150, .inl (fun _ => 0))), (pd_11, .inl (cI, 150, .inl (fun _ => 0))), (oe_12, .inr (1, [.ref ob_13, .ref on_14, .int 20, .int 0])), (ob_13, .inl (cI, 20, .inl (fun _ => 0))), (on_14, .inl (cI, 20, .inl (fun _ => 0))), (ta_15, .inr (1, [.ref tj_16, .ref tl_17, .int 8, .int 0])), (tj_16, .inl (cI, 8, .inl (fun _ => 0))), (tl_17, .inl (cI, 8, .inl (fun _ => 0))), (m_te_21, .inl (cI, 500, .inl (fun _ => 0))), (m_kn_23, .inl (cI, 150, .inl (fun _ => 0))), (m_bg_24, .inl (cI, 150, .inl (fun _ => 0))), (m_en_25, .inl (cI, 150, .inl (fun _ => 0))), (m_dp_26, .inl (cI, 150, .inl (fun _ => 0))), (m_nm_27, .inl (cI, 20, .inl (fun _ => 0))), (m_sz_28, .inl (cI, 20, .inl (fun _ => 0))), (m_aa_29, .inl (cI, 8, .inl (fun _ => 0))), (m_asz_30, .inl (cI, 8, .inl (fun _ => 0))), (q_1, .inr (3, [.ref cm_4, .int 0, .ref cu_5, .ref pc_7, .ref oe_12, .ref ta_15, .int 0, .int 0, .int 0, .int 0, .int 0, .int 0, .int 0, .int (-1)])), (cu_5, .inr (0, [.ref b_6, .int 0, .int 0, .int 0, .int (-1)])), (b_6, .inl (cI, 500, .inl (fun _ => 0)))]) rfl rfl (by decide) (by decide) (fun r_123 u_124 H locs hw_209 hP hD hS => ?_)
      try dsimp only at hw_209
      have hP : va_P D classes [(cm_4, .inl (cI, 500, .inl (fun _ => 0))), (pc_7, .inr (2, [.ref pk_8, .ref pb_9, .ref pe_10, .ref pd_11, .int 0, .int 0])), (pk_8, .inl (cI, 150, .inl (fun _ => 0))), (pb_9, .inl (cI, 150, .inl (fun _ => 0))), (pe_10, .inl (cI, 150, .inl (fun _ => 0))), (pd_11, .inl (cI, 150, .inl (fun _ => 0))), (oe_12, .inr (1, [.ref ob_13, .ref on_14, .int 20, .int 0])), (ob_13, .inl (cI, 20, .inl (fun _ => 0))), (on_14, .inl (cI, 20, .inl (fun _ => 0))), (ta_15, .inr (1, [.ref tj_16, .ref tl_17, .int 8, .int 0])), (tj_16, .inl (cI, 8, .inl (fun _ => 0))), (tl_17, .inl (cI, 8, .inl (fun _ => 0))), (m_te_21, .inl (cI, 500, .inl (fun _ => 0))), (m_kn_23, .inl (cI, 150, .inl (fun _ => 0))), (m_bg_24, .inl (cI, 150, .inl (fun _ => 0))), (m_en_25, .inl (cI, 150, .inl (fun _ => 0))), (m_dp_26, .inl (cI, 150, .inl (fun _ => 0))), (m_nm_27, .inl (cI, 20, .inl (fun _ => 0))), (m_sz_28, .inl (cI, 20, .inl (fun _ => 0))), (m_aa_29, .inl (cI, 8, .inl (fun _ => 0))), (m_asz_30, .inl (cI, 8, .inl (fun _ => 0))), (q_1, .inr (3, [.ref cm_4, .int 0, .ref cu_5, .ref pc_7, .ref oe_12, .ref ta_15, .int 0, .int 0, .int 0, .int 0, .int 0, .int 0, .int 0, .int (-1)])), (cu_5, .inr (0, [.ref b_6, .int 0, .int 0, .int 0, .int (-1)])), (b_6, .inl (cI, 500, .inl (fun _ => 0))), (q_18, .inr (4, [.ref m_te_21, .int 0, .ref m_re_22, .int 0, .int 0, .ref m_kn_23, .ref m_bg_24, .ref m_en_25, .ref m_dp_26, .int 0, .ref m_nm_27, .ref m_sz_28, .int 0, .ref m_aa_29, .ref m_asz_30, .int 0, .int 0, .int 0, .int (-1), .int 0, .int 0, .int 0, .int 0, .int 0, .int 0, .int 0, .int 0, .int 0, .int 0, .int 0, .int 0, .long 0, .int 0])), (m_re_22, .inl (cI, 500, .inl (fun _ => 0)))] H := hP
      have hD : va_D (fun q : Nat => s.heap.size ≤ q) [(cm_4, .inl (cI, 500, .inl (fun _ => 0))), (pc_7, .inr (2, [.ref pk_8, .ref pb_9, .ref pe_10, .ref pd_11, .int 0, .int 0])), (pk_8, .inl (cI, 150, .inl (fun _ => 0))), (pb_9, .inl (cI, 150, .inl (fun _ => 0))), (pe_10, .inl (cI, 150, .inl (fun _ => 0))), (pd_11, .inl (cI, 150, .inl (fun _ => 0))), (oe_12, .inr (1, [.ref ob_13, .ref on_14, .int 20, .int 0])), (ob_13, .inl (cI, 20, .inl (fun _ => 0))), (on_14, .inl (cI, 20, .inl (fun _ => 0))), (ta_15, .inr (1, [.ref tj_16, .ref tl_17, .int 8, .int 0])), (tj_16, .inl (cI, 8, .inl (fun _ => 0))), (tl_17, .inl (cI, 8, .inl (fun _ => 0))), (m_te_21, .inl (cI, 500, .inl (fun _ => 0))), (m_kn_23, .inl (cI, 150, .inl (fun _ => 0))), (m_bg_24, .inl (cI, 150, .inl (fun _ => 0))), (m_en_25, .inl (cI, 150, .inl (fun _ => 0))), (m_dp_26, .inl (cI, 150, .inl (fun _ => 0))), (m_nm_27, .inl (cI, 20, .inl (fun _ => 0))), (m_sz_28, .inl (cI, 20, .inl (fun _ => 0))), (m_aa_29, .inl (cI, 8, .inl (fun _ => 0))), (m_asz_30, .inl (cI, 8, .inl (fun _ => 0))), (q_1, .inr (3, [.ref cm_4, .int 0, .ref cu_5, .ref pc_7, .ref oe_12, .ref ta_15, .int 0, .int 0, .int 0, .int 0, .int 0, .int 0, .int 0, .int (-1)])), (cu_5, .inr (0, [.ref b_6, .int 0, .int 0, .int 0, .int (-1)])), (b_6, .inl (cI, 500, .inl (fun _ => 0))), (q_18, .inr (4, [.ref m_te_21, .int 0, .ref m_re_22, .int 0, .int 0, .ref m_kn_23, .ref m_bg_24, .ref m_en_25, .ref m_dp_26, .int 0, .ref m_nm_27, .ref m_sz_28, .int 0, .ref m_aa_29, .ref m_asz_30, .int 0, .int 0, .int 0, .int (-1), .int 0, .int 0, .int 0, .int 0, .int 0, .int 0, .int 0, .int 0, .int 0, .int 0, .int 0, .int 0, .long 0, .int 0])), (m_re_22, .inl (cI, 500, .inl (fun _ => 0)))] := hD
      refine lv_icmp_eq (tgt := 240) hx hb dL_law_212 (by decide) (fun c_212 => ?_) (fun c_212 => ?_)
      · skip
        obtain ⟨x_125, ex_125⟩ : ∃ y : Int32, y = 0 + 4 := ⟨_, rfl⟩
        refine lv_iinc (v := x_125) (lv' := [(3, .int x_125), (2, .ref q_18), (1, .ref q_1), (0, .ref b)]) hx hb dL_law_240 hl (k := 0) rfl (by rw [ex_125]; rfl) (by decide) rfl (fun ls hl => ?_)
        refine lv_goto (tgt := 18) hx hb dL_law_243 (by decide) ?_
        exact law_tail (Nat.le_refl 4) C0 (by decide) (by decide) hS x_125 (Or.inr (by rw [ex_125]; decide)) ls (lv_sub hl [0, 3] rfl)
      · skip
        exact absurd ((hw_200.trans byteAt0).trans (hw_209.trans byteAt0).symm) c_212
    by_cases s_32_5 : x_33 = 5
    · refine lv_tableIn (off := 185) (tgt := 217) hx hb dL_law_32 (by rw [s_32_5]; decide) (by rw [s_32_5]; decide) (by rw [s_32_5]; decide) (by decide) ?_
      refine lv_aload_n hx hb dL_law_217 rfl (lv_at hl 2 rfl) ?_
      refine lv_aload_n hx hb dL_law_218 rfl (lv_at hl 3 rfl) ?_
      refine lv_iload_n hx hb dL_law_219 rfl (lv_at hl 0 rfl) ?_
      refine lv_iconst (v := 1) hx hb dL_law_220 (by decide) ?_
      refine lv_iadd hx hb dL_law_221 ?_
      refine lv_topi (fun x_126 ex_126 => ?_)
      obtain rfl : x_126 = 1 := by rw [ex_126]; decide
      refine va_sld hx hb hX hbl hbA hS (show ¬ ((1 : Int32) < 0 ∨ 4 ≤ (1 : Int32).toNatClampNeg) by decide) dL_law_222 ?_
      refine lv_topi (fun x_127 ex_127 => ?_)
      obtain rfl : x_127 = xs 1 := by rw [ex_127]; rfl
      refine gcall_i (va_runV (As := [.int (xs 1)]) (rest := []) ⟨hx, hb, hml, hown, hts⟩ (c_X3_count l D cI q_1 cm_4 0 cu_5 pc_7 oe_12 ta_15 0 0 0 0 0 0 0 (-1) pk_8 pb_9 pe_10 pd_11 0 0 H.size (xs 1)) (cwV 1 hts (tb_goodV kk_2_202 kk_2_203 kk_2_204 kk_1_1 kk_2_205) rfl rfl rfl (by decide +kernel) ⟨Nat.le_of_ble_eq_true rfl, Nat.le_of_ble_eq_true rfl⟩) (gpreV hK hN (hP.sub [0, 4] rfl) (hD.sub [0, 4] (by decide) rfl) (va_recv hK hP (ci := 3) (q0 := 0) rfl rfl)) rfl rfl hl.1 rfl (lv_room (Nat.le_of_ble_eq_true rfl)) dL_law_223 ⟨Nat.le_of_ble_eq_true rfl, Nat.le_of_ble_eq_true rfl⟩) hP hD hS hA [0, 4] [1, 2, 3, 5, 6, 7, 8, 9, 10, 11, 12, 13, 14, 15, 16, 17, 18, 19, 20, 21, 22, 23, 24, 25] (wr := [(cm_4, .inl (cI, 500, .inl (fun _ => 0))), (cu_5, .inr (0, [.ref b_6, .int 0, .int 0, .int 0, .int (-1)])), (b_6, .inl (cI, 500, .inl (fun _ => 0))), (pk_8, .inl (cI, 150, .inl (fun _ => 0))), (pb_9, .inl (cI, 150, .inl (fun _ => 0))), (pe_10, .inl (cI, 150, .inl (fun _ => 0))), (pd_11, .inl (cI, 150, .inl (fun _ => 0))), (oe_12, .inr (1, [.ref ob_13, .ref on_14, .int 20, .int 0])), (ob_13, .inl (cI, 20, .inl (fun _ => 0))), (on_14, .inl (cI, 20, .inl (fun _ => 0))), (ta_15, .inr (1, [.ref tj_16, .ref tl_17, .int 8, .int 0])), (tj_16, .inl (cI, 8, .inl (fun _ => 0))), (tl_17, .inl (cI, 8, .inl (fun _ => 0))), (q_18, .inr (4, [.ref m_te_21, .int 0, .ref m_re_22, .int 0, .int 0, .ref m_kn_23, .ref m_bg_24, .ref m_en_25, .ref m_dp_26, .int 0, .ref m_nm_27, .ref m_sz_28, .int 0, .ref m_aa_29, .ref m_asz_30, .int 0, .int 0, .int 0, .int (-1), .int 0, .int 0, .int 0, .int 0, .int 0, .int 0, .int 0, .int 0, .int 0, .int 0, .int 0, .int 0, .long 0, .int 0])), (m_te_21, .inl (cI, 500, .inl (fun _ => 0))), (m_re_22, .inl (cI, 500, .inl (fun _ => 0))), (m_kn_23, .inl (cI, 150, .inl (fun _ => 0))), (m_bg_24, .inl (cI, 150, .inl (fun _ => 0))), (m_en_25, .inl (cI, 150, .inl (fun _ => 0))), (m_dp_26, .inl (cI, 150, .inl (fun _ => 0))), (m_nm_27, .inl (cI, 20, .inl (fun _ => 0))), (m_sz_28, .inl (cI, 20, .inl (fun _ => 0))), (m_aa_29, .inl (cI, 8, .inl (fun _ => 0))), (m_asz_30, .inl (cI, 8, .inl (fun _ => 0)))]) rfl rfl (by decide) (by decide) (fun r_128 u_129 H locs hw_223 hP hD hS => ?_)
      try dsimp only at hw_223
      have hP : va_P D classes [(cm_4, .inl (cI, 500, .inl (fun _ => 0))), (cu_5, .inr (0, [.ref b_6, .int 0, .int 0, .int 0, .int (-1)])), (b_6, .inl (cI, 500, .inl (fun _ => 0))), (pk_8, .inl (cI, 150, .inl (fun _ => 0))), (pb_9, .inl (cI, 150, .inl (fun _ => 0))), (pe_10, .inl (cI, 150, .inl (fun _ => 0))), (pd_11, .inl (cI, 150, .inl (fun _ => 0))), (oe_12, .inr (1, [.ref ob_13, .ref on_14, .int 20, .int 0])), (ob_13, .inl (cI, 20, .inl (fun _ => 0))), (on_14, .inl (cI, 20, .inl (fun _ => 0))), (ta_15, .inr (1, [.ref tj_16, .ref tl_17, .int 8, .int 0])), (tj_16, .inl (cI, 8, .inl (fun _ => 0))), (tl_17, .inl (cI, 8, .inl (fun _ => 0))), (q_18, .inr (4, [.ref m_te_21, .int 0, .ref m_re_22, .int 0, .int 0, .ref m_kn_23, .ref m_bg_24, .ref m_en_25, .ref m_dp_26, .int 0, .ref m_nm_27, .ref m_sz_28, .int 0, .ref m_aa_29, .ref m_asz_30, .int 0, .int 0, .int 0, .int (-1), .int 0, .int 0, .int 0, .int 0, .int 0, .int 0, .int 0, .int 0, .int 0, .int 0, .int 0, .int 0, .long 0, .int 0])), (m_te_21, .inl (cI, 500, .inl (fun _ => 0))), (m_re_22, .inl (cI, 500, .inl (fun _ => 0))), (m_kn_23, .inl (cI, 150, .inl (fun _ => 0))), (m_bg_24, .inl (cI, 150, .inl (fun _ => 0))), (m_en_25, .inl (cI, 150, .inl (fun _ => 0))), (m_dp_26, .inl (cI, 150, .inl (fun _ => 0))), (m_nm_27, .inl (cI, 20, .inl (fun _ => 0))), (m_sz_28, .inl (cI, 20, .inl (fun _ => 0))), (m_aa_29, .inl (cI, 8, .inl (fun _ => 0))), (m_asz_30, .inl (cI, 8, .inl (fun _ => 0))), (q_1, .inr (3, [.ref cm_4, .int 0, .ref cu_5, .ref pc_7, .ref oe_12, .ref ta_15, .int 0, .int 0, .int 0, .int 0, .int 0, .int 0, .int 0, .int (-1)])), (pc_7, .inr (2, [.ref pk_8, .ref pb_9, .ref pe_10, .ref pd_11, .int 0, .int 0]))] H := hP
      have hD : va_D (fun q : Nat => s.heap.size ≤ q) [(cm_4, .inl (cI, 500, .inl (fun _ => 0))), (cu_5, .inr (0, [.ref b_6, .int 0, .int 0, .int 0, .int (-1)])), (b_6, .inl (cI, 500, .inl (fun _ => 0))), (pk_8, .inl (cI, 150, .inl (fun _ => 0))), (pb_9, .inl (cI, 150, .inl (fun _ => 0))), (pe_10, .inl (cI, 150, .inl (fun _ => 0))), (pd_11, .inl (cI, 150, .inl (fun _ => 0))), (oe_12, .inr (1, [.ref ob_13, .ref on_14, .int 20, .int 0])), (ob_13, .inl (cI, 20, .inl (fun _ => 0))), (on_14, .inl (cI, 20, .inl (fun _ => 0))), (ta_15, .inr (1, [.ref tj_16, .ref tl_17, .int 8, .int 0])), (tj_16, .inl (cI, 8, .inl (fun _ => 0))), (tl_17, .inl (cI, 8, .inl (fun _ => 0))), (q_18, .inr (4, [.ref m_te_21, .int 0, .ref m_re_22, .int 0, .int 0, .ref m_kn_23, .ref m_bg_24, .ref m_en_25, .ref m_dp_26, .int 0, .ref m_nm_27, .ref m_sz_28, .int 0, .ref m_aa_29, .ref m_asz_30, .int 0, .int 0, .int 0, .int (-1), .int 0, .int 0, .int 0, .int 0, .int 0, .int 0, .int 0, .int 0, .int 0, .int 0, .int 0, .int 0, .long 0, .int 0])), (m_te_21, .inl (cI, 500, .inl (fun _ => 0))), (m_re_22, .inl (cI, 500, .inl (fun _ => 0))), (m_kn_23, .inl (cI, 150, .inl (fun _ => 0))), (m_bg_24, .inl (cI, 150, .inl (fun _ => 0))), (m_en_25, .inl (cI, 150, .inl (fun _ => 0))), (m_dp_26, .inl (cI, 150, .inl (fun _ => 0))), (m_nm_27, .inl (cI, 20, .inl (fun _ => 0))), (m_sz_28, .inl (cI, 20, .inl (fun _ => 0))), (m_aa_29, .inl (cI, 8, .inl (fun _ => 0))), (m_asz_30, .inl (cI, 8, .inl (fun _ => 0))), (q_1, .inr (3, [.ref cm_4, .int 0, .ref cu_5, .ref pc_7, .ref oe_12, .ref ta_15, .int 0, .int 0, .int 0, .int 0, .int 0, .int 0, .int 0, .int (-1)])), (pc_7, .inr (2, [.ref pk_8, .ref pb_9, .ref pe_10, .ref pd_11, .int 0, .int 0]))] := hD
      refine lv_aload_n hx hb dL_law_226 rfl (lv_at hl 1 rfl) ?_
      refine lv_aload_n hx hb dL_law_227 rfl (lv_at hl 3 rfl) ?_
      refine lv_iload_n hx hb dL_law_228 rfl (lv_at hl 0 rfl) ?_
      refine lv_iconst (v := 1) hx hb dL_law_229 (by decide) ?_
      refine lv_iadd hx hb dL_law_230 ?_
      refine lv_topi (fun x_130 ex_130 => ?_)
      obtain rfl : x_130 = 1 := by rw [ex_130]; decide
      refine va_sld hx hb hX hbl hbA hS (show ¬ ((1 : Int32) < 0 ∨ 4 ≤ (1 : Int32).toNatClampNeg) by decide) dL_law_231 ?_
      refine lv_topi (fun x_131 ex_131 => ?_)
      obtain rfl : x_131 = xs 1 := by rw [ex_131]; rfl
      refine gcall_i (va_runV (As := [.int (xs 1)]) (rest := [.int r_128]) ⟨hx, hb, hml, hown, hts⟩ (c_X4_count l D cI q_18 m_te_21 0 m_re_22 0 0 m_kn_23 m_bg_24 m_en_25 m_dp_26 0 m_nm_27 m_sz_28 0 m_aa_29 m_asz_30 0 0 0 (-1) 0 0 0 0 0 0 0 0 0 0 0 0 0 0 H.size (xs 1)) (cwV 1 hts (tb_goodV kk_3_235 kk_3_236 kk_3_237 kk_1_6 kk_3_238) rfl rfl rfl (by decide +kernel) ⟨Nat.le_of_ble_eq_true rfl, Nat.le_of_ble_eq_true rfl⟩) (gpreV hK hN (hP.sub [13] rfl) (hD.sub [13] (by decide) rfl) (va_recv hK hP (ci := 4) (q0 := 13) rfl rfl)) rfl rfl hl.1 rfl (lv_room (Nat.le_of_ble_eq_true rfl)) dL_law_232 ⟨Nat.le_of_ble_eq_true rfl, Nat.le_of_ble_eq_true rfl⟩) hP hD hS hA [13] [0, 1, 2, 3, 4, 5, 6, 7, 8, 9, 10, 11, 12, 14, 15, 16, 17, 18, 19, 20, 21, 22, 23, 24, 25] (wr := [(cm_4, .inl (cI, 500, .inl (fun _ => 0))), (cu_5, .inr (0, [.ref b_6, .int 0, .int 0, .int 0, .int (-1)])), (b_6, .inl (cI, 500, .inl (fun _ => 0))), (pk_8, .inl (cI, 150, .inl (fun _ => 0))), (pb_9, .inl (cI, 150, .inl (fun _ => 0))), (pe_10, .inl (cI, 150, .inl (fun _ => 0))), (pd_11, .inl (cI, 150, .inl (fun _ => 0))), (oe_12, .inr (1, [.ref ob_13, .ref on_14, .int 20, .int 0])), (ob_13, .inl (cI, 20, .inl (fun _ => 0))), (on_14, .inl (cI, 20, .inl (fun _ => 0))), (ta_15, .inr (1, [.ref tj_16, .ref tl_17, .int 8, .int 0])), (tj_16, .inl (cI, 8, .inl (fun _ => 0))), (tl_17, .inl (cI, 8, .inl (fun _ => 0))), (m_te_21, .inl (cI, 500, .inl (fun _ => 0))), (m_re_22, .inl (cI, 500, .inl (fun _ => 0))), (m_kn_23, .inl (cI, 150, .inl (fun _ => 0))), (m_bg_24, .inl (cI, 150, .inl (fun _ => 0))), (m_en_25, .inl (cI, 150, .inl (fun _ => 0))), (m_dp_26, .inl (cI, 150, .inl (fun _ => 0))), (m_nm_27, .inl (cI, 20, .inl (fun _ => 0))), (m_sz_28, .inl (cI, 20, .inl (fun _ => 0))), (m_aa_29, .inl (cI, 8, .inl (fun _ => 0))), (m_asz_30, .inl (cI, 8, .inl (fun _ => 0))), (q_1, .inr (3, [.ref cm_4, .int 0, .ref cu_5, .ref pc_7, .ref oe_12, .ref ta_15, .int 0, .int 0, .int 0, .int 0, .int 0, .int 0, .int 0, .int (-1)])), (pc_7, .inr (2, [.ref pk_8, .ref pb_9, .ref pe_10, .ref pd_11, .int 0, .int 0]))]) rfl rfl (by decide) (by decide) (fun r_132 u_133 H locs hw_232 hP hD hS => ?_)
      try dsimp only at hw_232
      have hP : va_P D classes [(cm_4, .inl (cI, 500, .inl (fun _ => 0))), (cu_5, .inr (0, [.ref b_6, .int 0, .int 0, .int 0, .int (-1)])), (b_6, .inl (cI, 500, .inl (fun _ => 0))), (pk_8, .inl (cI, 150, .inl (fun _ => 0))), (pb_9, .inl (cI, 150, .inl (fun _ => 0))), (pe_10, .inl (cI, 150, .inl (fun _ => 0))), (pd_11, .inl (cI, 150, .inl (fun _ => 0))), (oe_12, .inr (1, [.ref ob_13, .ref on_14, .int 20, .int 0])), (ob_13, .inl (cI, 20, .inl (fun _ => 0))), (on_14, .inl (cI, 20, .inl (fun _ => 0))), (ta_15, .inr (1, [.ref tj_16, .ref tl_17, .int 8, .int 0])), (tj_16, .inl (cI, 8, .inl (fun _ => 0))), (tl_17, .inl (cI, 8, .inl (fun _ => 0))), (m_te_21, .inl (cI, 500, .inl (fun _ => 0))), (m_re_22, .inl (cI, 500, .inl (fun _ => 0))), (m_kn_23, .inl (cI, 150, .inl (fun _ => 0))), (m_bg_24, .inl (cI, 150, .inl (fun _ => 0))), (m_en_25, .inl (cI, 150, .inl (fun _ => 0))), (m_dp_26, .inl (cI, 150, .inl (fun _ => 0))), (m_nm_27, .inl (cI, 20, .inl (fun _ => 0))), (m_sz_28, .inl (cI, 20, .inl (fun _ => 0))), (m_aa_29, .inl (cI, 8, .inl (fun _ => 0))), (m_asz_30, .inl (cI, 8, .inl (fun _ => 0))), (q_1, .inr (3, [.ref cm_4, .int 0, .ref cu_5, .ref pc_7, .ref oe_12, .ref ta_15, .int 0, .int 0, .int 0, .int 0, .int 0, .int 0, .int 0, .int (-1)])), (pc_7, .inr (2, [.ref pk_8, .ref pb_9, .ref pe_10, .ref pd_11, .int 0, .int 0])), (q_18, .inr (4, [.ref m_te_21, .int 0, .ref m_re_22, .int 0, .int 0, .ref m_kn_23, .ref m_bg_24, .ref m_en_25, .ref m_dp_26, .int 0, .ref m_nm_27, .ref m_sz_28, .int 0, .ref m_aa_29, .ref m_asz_30, .int 0, .int 0, .int 0, .int (-1), .int 0, .int 0, .int 0, .int 0, .int 0, .int 0, .int 0, .int 0, .int 0, .int 0, .int 0, .int 0, .long 0, .int 0]))] H := hP
      have hD : va_D (fun q : Nat => s.heap.size ≤ q) [(cm_4, .inl (cI, 500, .inl (fun _ => 0))), (cu_5, .inr (0, [.ref b_6, .int 0, .int 0, .int 0, .int (-1)])), (b_6, .inl (cI, 500, .inl (fun _ => 0))), (pk_8, .inl (cI, 150, .inl (fun _ => 0))), (pb_9, .inl (cI, 150, .inl (fun _ => 0))), (pe_10, .inl (cI, 150, .inl (fun _ => 0))), (pd_11, .inl (cI, 150, .inl (fun _ => 0))), (oe_12, .inr (1, [.ref ob_13, .ref on_14, .int 20, .int 0])), (ob_13, .inl (cI, 20, .inl (fun _ => 0))), (on_14, .inl (cI, 20, .inl (fun _ => 0))), (ta_15, .inr (1, [.ref tj_16, .ref tl_17, .int 8, .int 0])), (tj_16, .inl (cI, 8, .inl (fun _ => 0))), (tl_17, .inl (cI, 8, .inl (fun _ => 0))), (m_te_21, .inl (cI, 500, .inl (fun _ => 0))), (m_re_22, .inl (cI, 500, .inl (fun _ => 0))), (m_kn_23, .inl (cI, 150, .inl (fun _ => 0))), (m_bg_24, .inl (cI, 150, .inl (fun _ => 0))), (m_en_25, .inl (cI, 150, .inl (fun _ => 0))), (m_dp_26, .inl (cI, 150, .inl (fun _ => 0))), (m_nm_27, .inl (cI, 20, .inl (fun _ => 0))), (m_sz_28, .inl (cI, 20, .inl (fun _ => 0))), (m_aa_29, .inl (cI, 8, .inl (fun _ => 0))), (m_asz_30, .inl (cI, 8, .inl (fun _ => 0))), (q_1, .inr (3, [.ref cm_4, .int 0, .ref cu_5, .ref pc_7, .ref oe_12, .ref ta_15, .int 0, .int 0, .int 0, .int 0, .int 0, .int 0, .int 0, .int (-1)])), (pc_7, .inr (2, [.ref pk_8, .ref pb_9, .ref pe_10, .ref pd_11, .int 0, .int 0])), (q_18, .inr (4, [.ref m_te_21, .int 0, .ref m_re_22, .int 0, .int 0, .ref m_kn_23, .ref m_bg_24, .ref m_en_25, .ref m_dp_26, .int 0, .ref m_nm_27, .ref m_sz_28, .int 0, .ref m_aa_29, .ref m_asz_30, .int 0, .int 0, .int 0, .int (-1), .int 0, .int 0, .int 0, .int 0, .int 0, .int 0, .int 0, .int 0, .int 0, .int 0, .int 0, .int 0, .long 0, .int 0]))] := hD
      refine lv_icmp_eq (tgt := 240) hx hb dL_law_235 (by decide) (fun c_235 => ?_) (fun c_235 => ?_)
      · skip
        obtain ⟨x_134, ex_134⟩ : ∃ y : Int32, y = 0 + 4 := ⟨_, rfl⟩
        refine lv_iinc (v := x_134) (lv' := [(3, .int x_134), (2, .ref q_18), (1, .ref q_1), (0, .ref b)]) hx hb dL_law_240 hl (k := 0) rfl (by rw [ex_134]; rfl) (by decide) rfl (fun ls hl => ?_)
        refine lv_goto (tgt := 18) hx hb dL_law_243 (by decide) ?_
        exact law_tail (Nat.le_refl 4) C0 (by decide) (by decide) hS x_134 (Or.inr (by rw [ex_134]; decide)) ls (lv_sub hl [0, 3] rfl)
      · skip
        exact absurd (by rw [hw_223, hw_232]) c_235
    refine lv_tableOut (tgt := 240) hx hb dL_law_32 (by have := lv_neT s_32_0 (a := 0) rfl; have := lv_neT s_32_1 (a := 1) rfl; have := lv_neT s_32_2 (a := 2) rfl; have := lv_neT s_32_3 (a := 3) rfl; have := lv_neT s_32_4 (a := 4) rfl; have := lv_neT s_32_5 (a := 5) rfl; omega) (by decide) ?_
    obtain ⟨x_135, ex_135⟩ : ∃ y : Int32, y = 0 + 4 := ⟨_, rfl⟩
    refine lv_iinc (v := x_135) (lv' := [(3, .int x_135), (2, .ref q_18), (1, .ref q_1), (0, .ref b)]) hx hb dL_law_240 hl (k := 0) rfl (by rw [ex_135]; rfl) (by decide) rfl (fun ls hl => ?_)
    refine lv_goto (tgt := 18) hx hb dL_law_243 (by decide) ?_
    exact law_tail (Nat.le_refl 4) C0 (by decide) (by decide) hS x_135 (Or.inr (by rw [ex_135]; decide)) ls (lv_sub hl [0, 3] rfl)
set_option maxHeartbeats 4000000 in
theorem lw_walk (l : Launch) (b : Addr) (xs : List Int32) : MetFree l x (headSpec (Jvm.Cond.code x code maxLocals ret :: tables_1) room_1) (lw_P b xs) (fun _ _ _ _ _ => True) lw_Q := by
  refine MetFree.of_bodyS (code := code) (maxLocals := maxLocals) (ret := ret) (by decide) ?_ ?_
  · intro args s m h hn
    obtain ⟨meth, c, h1, h2, h3, h4, h5, h6, -, -⟩ := Cond.code_spec hn (atoms_spec (ws := Jvm.Cond.code x code maxLocals ret :: tables_1) h _ List.mem_cons_self)
    exact ⟨meth, c, h1, h2, h3, h4, h5, h6⟩
  · intro p e s m args below meth c s₁ B hml0 hP _
    obtain ⟨rfl, hx, hbd, hgv⟩ := hP
    obtain ⟨scr, harrAt, hlist, hof, hsmall⟩ := hx
    obtain ⟨hcb, hkn, -, -⟩ := State.arrayAt?_spec harrAt
    have hown : s.vm.findClass R_law = some m.cls := findClass_of_methodNamed B.named
    have hts0 : ∀ c ∈ (Jvm.Cond.code x code maxLocals ret :: tables_1), c.before #[Value.ref b] s = true := atoms_spec (ws := Jvm.Cond.code x code maxLocals ret :: tables_1) B.pre
    have hts : ∀ w ∈ lw_tbl, w.before #[Value.ref b] s = true := k2_hts_sels lw_privs (fun w hw => hts0 w (List.mem_cons_of_mem _ hw)) lw_privs_ok
    have hml : c.maxLocals = 4 := B.maxLocals_eq (hts0 _ List.mem_cons_self)
    have X₀ : Stand p l e room_1 s m #[Value.ref b] below meth c s₁ [] 0 0 := Stand.of_body B
    have hh0 : s₁.heap = s.heap := by rw [B.state]; rfl
    have hsz : scr.slots.size = xs.length := by rw [← Array.length_toList, hlist, List.length_map]
    have hval : ∀ j : Nat, j < xs.length → scr.slots[j]? = some (.int (xs.getD j 0)) := fun j hj => by
      rw [← Array.getElem?_toList, hlist]
      simp [hj]
    have hbl : b < s.heap.size := (Array.getElem?_eq_some_iff.mp hcb).1
    have hX : va_X b xs.length (fun j => xs.getD j 0) s s.heap := ⟨scr, hcb, hof, hkn, hsz, hval⟩
    have K : W p l e room_1 s m #[Value.ref b] below meth c s₁.heap [] 0 0 (lw_Z below #[Value.ref b] s) (entryFrame m ([Value.ref b] : List Value).toArray 4) := by
      rw [hh0]
      exact whole_start l hbd ⟨B.exec, B.bytes, B.returns, hml, hown, hts, hX, hbl, B.notSynchronized, hgv⟩
    obtain ⟨t, a1, o, b1, b2, b3⟩ := K s₁ rfl X₀
    exact ⟨t, o, a1, b1, b2, b3⟩
theorem lw_pre_spec {args : Array Value} {s : State} (h : (Jvm.Cond.and given_1 narrow_1).before args s = true) (hr : rest_1_c.before args s = true) : ∃ (b : Addr) (xs : List Int32), lw_P b xs args s := by
  have hs := flat_of_before _ h
  have hq := flat_of_before _ hr
  have hc : (Cond.count 1).before args s = true := hs _ (by decide +kernel)
  have harr : (Cond.arrayOf (.arg 0) .int).before args s = true := hs _ (by decide +kernel)
  have hle : (Cond.le (.length (.arg 0)) (.int 4)).before args s = true := hs _ (by decide +kernel)
  have hlen : (Cond.isInt (.length (.arg 0))).before args s = true := hq _ (by decide +kernel)
  have hall : (Cond.all (.arg 0) (.isInt (.elem (.arg 0) (.index 0)))).before args s = true := hq _ (by decide +kernel)
  obtain ⟨b, xs, hb, hx⟩ := State.ints_of_pre rfl harr hlen hall
  have hsm : xs.length < 2 ^ 31 := hx.choose_spec.2.2.2
  have hev : (Term.length (.arg 0)).eval args s none [] s = some (.int xs.length.toInt32) := hx.length_eval hb
  have hv := Cond.le_ints hev (show (Term.int 4).eval args s none [] s = some (.int 4) from rfl)
  have hd : xs.length.toInt32 ≤ 4 := by
    simpa [Cond.before, Cond.holds, hv] using hle
  have hN : xs.length ≤ 4 := (Int32.ofNat_le_ofNat hsm (by decide)).mp (show Int32.ofNat xs.length ≤ Int32.ofNat 4 from hd)
  exact ⟨b, xs, Cond.one_arg hc (show args[0]? = some (.ref b) from hb), hx, hN, h⟩
theorem lw_comes (l : Launch) : Comes l x (Jvm.Cond.code x code maxLocals ret :: tables_1) room_1 (fun tb e args s => Calls_1 tb e args s ∧ rest_1 tb e args s ∧ Pre_1 tb e args s)
    (fun _ _ args s o t => lw_Q args s o t) := by
  intro p e ha hc hk s m args below hf hfit hheap happ hpre
  obtain ⟨b, xs, hP⟩ := lw_pre_spec hpre.2.2 hpre.2.1
  obtain ⟨k, o, h1, h2, h3, hQ⟩ := lw_walk l b xs p e ha hc hk s m args below hf ((Spec.applies_iff_loose hf).mp happ).1 hP trivial
  exact ⟨k, o, h1, h2, h3, hQ⟩
theorem lw_frame {s t : State} {o : Outcome} {args : Array Value} (h : Framed s o t [] 600000 7302250) :
    Framed s o t (fieldLocs frame_1_writes args s ++ arrayLocs frame_1_arrays args s ++ staticLocs frame_1_statics s) 600000 7302250 := h
theorem lw_limb (L : Cond) (hL : ∀ (args : Array Value) (s t : State), L.after args s (.returned (some (.int 1))) t = true) :
    ArmFor flags0 classFile x code maxLocals ret World_1 tables_1 room_1 Calls_1 rest_1 Pre_1
      (fun tb e a s o t => postC L tb e a s o t ∧ Framed s o t (fieldLocs frame_1_writes a s ++ arrayLocs frame_1_arrays a s ++ staticLocs frame_1_statics s) 600000 7302250) := by
  intro l _ _ _ p e ha hc hk s m args below hf hfit hheap happ hpre
  obtain ⟨k, o, h1, h2, h3, rfl, hF⟩ := lw_comes l p e ha hc hk s m args below hf hfit hheap happ hpre
  exact ⟨k, _, h1, h2, h3, hL args s _, lw_frame hF⟩
theorem i_vc : Claimed_1_1 ∧ Claimed_1_2 := ⟨lw_limb limb_1_1 (fun args s t => by simp [limb_1_1, Cond.after, Cond.holds, Cond.value]), lw_limb limb_1_2 (fun args s t => Cond.after_iff.mpr (by
  first | (rw [show limb_1_2 = Cond.eq .result (.int 1) from rfl, Cond.eq_ints (x := 1) (y := 1) rfl rfl]; simp; done) | (simp [limb_1_2, Cond.value, Term.eval]; done)))⟩
end
